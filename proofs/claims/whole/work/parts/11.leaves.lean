abbrev vwCl : List vw_C := [(RX0, TX0, 11), (RX1, TX1, 6), (RX2, TX2, 2), (RX3, TX3, 4), (RX4, TX4, 6), (RX5, TX5, 4), (RX6, TX6, 10), (RX7, TX7, 28)]
/-! pure words for the leaves -/
def zsg (f t : Int) : Int := if t = f then 0 else if f < t then 1 else -1
theorem zsg_in (f t : Int) : -1 ≤ zsg f t ∧ zsg f t ≤ 1 := by
  unfold zsg
  split
  · omega
  · split <;> omega
def stepf (ex be : Int) (el bl : Int → Int) (i : Int) : Int := if i < 0 ∨ ex + be ≤ i then 0 else if i < ex then el i + 1 else bl (i - ex)
theorem sumA_in (ey el : Int → Int) (y : Int) {n : Int} (hn : 0 ≤ n) (h : ∀ j, 0 ≤ el j ∧ el j ≤ 999) : 0 ≤ sumZ (fun j => if ey j < y then el j else 0) n ∧ sumZ (fun j => if ey j < y then el j else 0) n ≤ 999 * n := by
  have := sumZ_in (f := fun j => if ey j < y then el j else 0) (a := 0) (b := 999) hn (fun j _ _ => by have := h j; split <;> omega)
  omega
def recS (y v : Int) (r : Int × Int × Int × Int) : Int × Int × Int × Int := if r.1 < v then (v, r.2.1 + 1, y, if r.2.2.1 = -1 then 0 else zmax r.2.2.2 (y - r.2.2.1)) else r
def lwS (wf wt wl : Int → Int) (y : Int) (j a : Int) : Int := if (wf j ≤ y ∧ y ≤ wt j) ∧ (a = -1 ∨ wl j < a) then wl j else a
theorem lw_in (wf wt : Int → Int) {wl : Int → Int} (y : Int) (h : ∀ j, 0 ≤ wl j ∧ wl j ≤ 999) {n : Int} (hn : 0 ≤ n) : -1 ≤ foldZ (lwS wf wt wl y) n (-1) ∧ foldZ (lwS wf wt wl y) n (-1) ≤ 999 :=
  foldZ_ind _ _ (fun _ a => -1 ≤ a ∧ a ≤ 999) (by omega) n (fun k x _ _ hx => by have := h k; unfold lwS; split <;> omega) n hn (Int.le_refl n)
def nar (f v : Int) : Int := if f = 0 then sxB v else if f = 1 then sxS v else v
def isFg (fb : Int → Int) (fs q : Int) : Prop := q < fs ∧ 48 ≤ fb q ∧ fb q ≤ 57
theorem fill_s {z : Int → Int} {i x : Int} (hf : ∀ j, 0 ≤ j → j < i → z j = x) : ∀ j, 0 ≤ j → j < i + 1 → uz z i x j = x := by
  intro j h1 h2
  by_cases hj : j = i
  · subst hj; exact uz_s _ _ _
  · rw [uz_n _ _ hj]; exact hf j h1 (by omega)
noncomputable def ovZ (el : Int → Int) (ex x : Int) : Int := cntZ (fun j => x ≤ el j) ex
noncomputable def buZ (bl : Int → Int) (be x : Int) : Int := cntZ (fun j => bl j ≤ x) be
noncomputable def ahZ (ey : Int → Int) (ex y : Int) : Int := cntZ (fun j => ey j < y) ex
def saZ (ey el : Int → Int) (ex y : Int) : Int := sumZ (fun j => if ey j < y then el j else 0) ex
theorem ovZ_in (el : Int → Int) (ex x : Int) (h : 0 ≤ ex) : 0 ≤ ovZ el ex x ∧ ovZ el ex x ≤ ex := cntZ_in _ h
theorem buZ_in (bl : Int → Int) (be x : Int) (h : 0 ≤ be) : 0 ≤ buZ bl be x ∧ buZ bl be x ≤ be := cntZ_in _ h
theorem ahZ_in (ey : Int → Int) (ex y : Int) (h : 0 ≤ ex) : 0 ≤ ahZ ey ex y ∧ ahZ ey ex y ≤ ex := cntZ_in _ h
theorem saZ_in (ey : Int → Int) {el : Int → Int} (ex y : Int) (h : ∀ j, 0 ≤ el j ∧ el j ≤ 999) (hx : 0 ≤ ex) : 0 ≤ saZ ey el ex y ∧ saZ ey el ex y ≤ 999 * ex := sumA_in ey el y hx h
theorem mul_in {a b A B : Int} (ha : 0 ≤ a ∧ a ≤ A) (hb : 0 ≤ b ∧ b ≤ B) : 0 ≤ a * b ∧ a * b ≤ A * B :=
  ⟨Int.mul_nonneg ha.1 hb.1, Int.mul_le_mul ha.2 hb.2 hb.1 (by omega)⟩
theorem mul_abs {a b A B : Int} (ha : -A ≤ a ∧ a ≤ A) (hb : 0 ≤ b ∧ b ≤ B) : -(A * B) ≤ a * b ∧ a * b ≤ A * B := by
  rcases Int.le_total 0 a with h | h
  · have := mul_in (a := a) (b := b) (A := A) (B := B) ⟨h, ha.2⟩ hb
    have h2 := mul_in (a := 0) (b := 0) (A := A) (B := B) (by omega) (by omega)
    omega
  · have := mul_in (a := -a) (b := b) (A := A) (B := B) (by omega) hb
    rw [Int.neg_mul] at this
    omega
noncomputable def mbF (ey : Int → Int) (ex y : Int) : Int := ahZ ey ex y * (ex - ahZ ey ex y)
noncomputable def maF (ey el : Int → Int) (ex es y : Int) : Int := ahZ ey ex y * (es - saZ ey el ex y) - (ex - ahZ ey ex y) * saZ ey el ex y
theorem mbF_in (ey : Int → Int) {ex : Int} (y : Int) (h : 0 ≤ ex ∧ ex ≤ 60) : 0 ≤ mbF ey ex y ∧ mbF ey ex y ≤ 3600 := by
  have h1 := ahZ_in ey ex y h.1
  exact mul_in (A := 60) (B := 60) (by omega) (by omega)
theorem maF_in (ey : Int → Int) {el : Int → Int} {ex es : Int} (y : Int) (hl : ∀ j, 0 ≤ el j ∧ el j ≤ 999) (h : 0 ≤ ex ∧ ex ≤ 60) (he : 0 ≤ es ∧ es ≤ 59940) : -7192800 ≤ maF ey el ex es y ∧ maF ey el ex es y ≤ 7192800 := by
  have h1 := ahZ_in ey ex y h.1
  have h2 := saZ_in ey ex y hl h.1
  have h3 := mul_abs (a := es - saZ ey el ex y) (b := ahZ ey ex y) (A := 59940) (B := 60) (by omega) (by omega)
  have h4 := mul_in (a := ex - ahZ ey ex y) (b := saZ ey el ex y) (A := 60) (B := 59940) (by omega) (by omega)
  rw [Int.mul_comm (es - saZ ey el ex y) (ahZ ey ex y)] at h3
  unfold maF
  omega
set_option maxHeartbeats 1000000 in
set_option maxRecDepth 100000 in
theorem c_X6_isYear (l : Launch) (D : va_G) (cyI cyJ cyO : ClassId) (y : Int) (h_y : -2147483648 ≤ y ∧ y ≤ 2147483647) : Met l yX6_isYear wsX6_isYear ({ frames := 0, cells := 0, slots := 0, locals := 0 }) (va_Pc [.int (iI (y))] (xR D vwCl [] (xT cyI cyJ cyO))) (xq (some (.int (iI (b2 (0 ≤ y ∧ y < 60)))))) 0 0 (fun _ => False) := by
  refine Met.ofW (cc := cX6_isYear) (maxL := 1) (ret := (some .boolean)) (by decide) rfl ?_
  intro p e s m args below meth c s₁ B hml hv
  obtain ⟨rfl, hP, hK⟩ := hv
  have hx := B.exec
  have hb := B.bytes
  have hr := B.returns
  have hts := atoms_spec (ws := wsX6_isYear) B.pre
  have hown : s.vm.findClass RX6 = some m.cls := findClass_of_methodNamed B.named
  have hlocks := B.notSynchronized
  have hP : va_P D vwCl [] s.heap := hP
  have hl := lv_entry ([.int (iI (y))]) (n := 1) (Nat.le_of_ble_eq_true rfl)
  rw [lg_entry_eq]
  generalize (lg_sl ([.int (iI (y))]) ++ List.replicate (1 - (lg_sl ([.int (iI (y))])).length) Slot.unset).toArray = ls at hl ⊢
  have hl : lv_has ls 1 [(0, .int (iI (y)))] := hl
  refine lv_iload_n hx hb dX6_isYear_0 rfl (lv_at hl 0 rfl) ?_
  refine xb_if_lt (tgt := 14) hx hb dX6_isYear_1 (by decide) (by omega) (fun h_1 => ?_) (fun h_1 => ?_)
  · refine xi_const hx hb dX6_isYear_14 ?_
    exact W.zret (v := iI (0)) hx hb hr (by decide +kernel) (fun t_ ht_ _ => ⟨congrArg (fun z => Outcome.returned (some (Value.int (iI z)))) (show (0 : Int) = b2 (0 ≤ y ∧ y < 60) from (b2_f (by first | assumption | omega | (constructor <;> first | assumption | omega))).symm), ht_⟩) (fun _ h9 => absurd h9 List.not_mem_nil) dX6_isYear_15
  · refine lv_iload_n hx hb dX6_isYear_4 rfl (lv_at hl 0 rfl) ?_
    refine xi_bipush hx hb dX6_isYear_5 (by decide +kernel) ?_
    refine xb_icmp_ge (tgt := 14) hx hb dX6_isYear_7 (by decide) (by omega) (fun h_2 => ?_) (fun h_2 => ?_)
    · refine xi_const hx hb dX6_isYear_14 ?_
      exact W.zret (v := iI (0)) hx hb hr (by decide +kernel) (fun t_ ht_ _ => ⟨congrArg (fun z => Outcome.returned (some (Value.int (iI z)))) (show (0 : Int) = b2 (0 ≤ y ∧ y < 60) from (b2_f (by first | assumption | omega | (constructor <;> first | assumption | omega))).symm), ht_⟩) (fun _ h9 => absurd h9 List.not_mem_nil) dX6_isYear_15
    · refine xi_const hx hb dX6_isYear_10 ?_
      refine lv_goto (tgt := 15) hx hb dX6_isYear_11 (by decide) ?_
      exact W.zret (v := iI (1)) hx hb hr (by decide +kernel) (fun t_ ht_ _ => ⟨congrArg (fun z => Outcome.returned (some (Value.int (iI z)))) (show (1 : Int) = b2 (0 ≤ y ∧ y < 60) from (b2_t (by first | assumption | omega | (constructor <;> first | assumption | omega))).symm), ht_⟩) (fun _ h9 => absurd h9 List.not_mem_nil) dX6_isYear_15
set_option maxHeartbeats 1000000 in
set_option maxRecDepth 100000 in
theorem c_X6_isLevel (l : Launch) (D : va_G) (cyI cyJ cyO : ClassId) (y : Int) (h_y : -2147483648 ≤ y ∧ y ≤ 2147483647) : Met l yX6_isLevel wsX6_isLevel ({ frames := 0, cells := 0, slots := 0, locals := 0 }) (va_Pc [.int (iI (y))] (xR D vwCl [] (xT cyI cyJ cyO))) (xq (some (.int (iI (b2 (0 ≤ y ∧ y ≤ 999)))))) 0 0 (fun _ => False) := by
  refine Met.ofW (cc := cX6_isLevel) (maxL := 1) (ret := (some .boolean)) (by decide) rfl ?_
  intro p e s m args below meth c s₁ B hml hv
  obtain ⟨rfl, hP, hK⟩ := hv
  have hx := B.exec
  have hb := B.bytes
  have hr := B.returns
  have hts := atoms_spec (ws := wsX6_isLevel) B.pre
  have hown : s.vm.findClass RX6 = some m.cls := findClass_of_methodNamed B.named
  have hlocks := B.notSynchronized
  have hP : va_P D vwCl [] s.heap := hP
  have hl := lv_entry ([.int (iI (y))]) (n := 1) (Nat.le_of_ble_eq_true rfl)
  rw [lg_entry_eq]
  generalize (lg_sl ([.int (iI (y))]) ++ List.replicate (1 - (lg_sl ([.int (iI (y))])).length) Slot.unset).toArray = ls at hl ⊢
  have hl : lv_has ls 1 [(0, .int (iI (y)))] := hl
  refine lv_iload_n hx hb dX6_isLevel_0 rfl (lv_at hl 0 rfl) ?_
  refine xb_if_lt (tgt := 15) hx hb dX6_isLevel_1 (by decide) (by omega) (fun h_1 => ?_) (fun h_1 => ?_)
  · refine xi_const hx hb dX6_isLevel_15 ?_
    exact W.zret (v := iI (0)) hx hb hr (by decide +kernel) (fun t_ ht_ _ => ⟨congrArg (fun z => Outcome.returned (some (Value.int (iI z)))) (show (0 : Int) = b2 (0 ≤ y ∧ y ≤ 999) from (b2_f (by first | assumption | omega | (constructor <;> first | assumption | omega))).symm), ht_⟩) (fun _ h9 => absurd h9 List.not_mem_nil) dX6_isLevel_16
  · refine lv_iload_n hx hb dX6_isLevel_4 rfl (lv_at hl 0 rfl) ?_
    refine xi_sipush hx hb dX6_isLevel_5 (by decide +kernel) ?_
    refine xb_icmp_gt (tgt := 15) hx hb dX6_isLevel_8 (by decide) (by omega) (fun h_2 => ?_) (fun h_2 => ?_)
    · refine xi_const hx hb dX6_isLevel_15 ?_
      exact W.zret (v := iI (0)) hx hb hr (by decide +kernel) (fun t_ ht_ _ => ⟨congrArg (fun z => Outcome.returned (some (Value.int (iI z)))) (show (0 : Int) = b2 (0 ≤ y ∧ y ≤ 999) from (b2_f (by first | assumption | omega | (constructor <;> first | assumption | omega))).symm), ht_⟩) (fun _ h9 => absurd h9 List.not_mem_nil) dX6_isLevel_16
    · refine xi_const hx hb dX6_isLevel_11 ?_
      refine lv_goto (tgt := 16) hx hb dX6_isLevel_12 (by decide) ?_
      exact W.zret (v := iI (1)) hx hb hr (by decide +kernel) (fun t_ ht_ _ => ⟨congrArg (fun z => Outcome.returned (some (Value.int (iI z)))) (show (1 : Int) = b2 (0 ≤ y ∧ y ≤ 999) from (b2_t (by first | assumption | omega | (constructor <;> first | assumption | omega))).symm), ht_⟩) (fun _ h9 => absurd h9 List.not_mem_nil) dX6_isLevel_16
set_option maxHeartbeats 1000000 in
set_option maxRecDepth 100000 in
theorem c_X6_isEither (l : Launch) (D : va_G) (cyI cyJ cyO : ClassId) (y : Int) (h_y : -2147483648 ≤ y ∧ y ≤ 2147483647) : Met l yX6_isEither wsX6_isEither ({ frames := 0, cells := 0, slots := 0, locals := 0 }) (va_Pc [.int (iI (y))] (xR D vwCl [] (xT cyI cyJ cyO))) (xq (some (.int (iI (b2 (y = 0 ∨ y = 1)))))) 0 0 (fun _ => False) := by
  refine Met.ofW (cc := cX6_isEither) (maxL := 1) (ret := (some .boolean)) (by decide) rfl ?_
  intro p e s m args below meth c s₁ B hml hv
  obtain ⟨rfl, hP, hK⟩ := hv
  have hx := B.exec
  have hb := B.bytes
  have hr := B.returns
  have hts := atoms_spec (ws := wsX6_isEither) B.pre
  have hown : s.vm.findClass RX6 = some m.cls := findClass_of_methodNamed B.named
  have hlocks := B.notSynchronized
  have hP : va_P D vwCl [] s.heap := hP
  have hl := lv_entry ([.int (iI (y))]) (n := 1) (Nat.le_of_ble_eq_true rfl)
  rw [lg_entry_eq]
  generalize (lg_sl ([.int (iI (y))]) ++ List.replicate (1 - (lg_sl ([.int (iI (y))])).length) Slot.unset).toArray = ls at hl ⊢
  have hl : lv_has ls 1 [(0, .int (iI (y)))] := hl
  refine lv_iload_n hx hb dX6_isEither_0 rfl (lv_at hl 0 rfl) ?_
  refine xb_if_eq (tgt := 9) hx hb dX6_isEither_1 (by decide) (by omega) (fun h_1 => ?_) (fun h_1 => ?_)
  · refine xi_const hx hb dX6_isEither_9 ?_
    refine lv_goto (tgt := 14) hx hb dX6_isEither_10 (by decide) ?_
    exact W.zret (v := iI (1)) hx hb hr (by decide +kernel) (fun t_ ht_ _ => ⟨congrArg (fun z => Outcome.returned (some (Value.int (iI z)))) (show (1 : Int) = b2 (y = 0 ∨ y = 1) from (b2_t (by first | assumption | omega | (constructor <;> first | assumption | omega))).symm), ht_⟩) (fun _ h9 => absurd h9 List.not_mem_nil) dX6_isEither_14
  · refine lv_iload_n hx hb dX6_isEither_4 rfl (lv_at hl 0 rfl) ?_
    refine xi_const hx hb dX6_isEither_5 ?_
    refine xb_icmp_ne (tgt := 13) hx hb dX6_isEither_6 (by decide) (by omega) (fun h_2 => ?_) (fun h_2 => ?_)
    · refine xi_const hx hb dX6_isEither_13 ?_
      exact W.zret (v := iI (0)) hx hb hr (by decide +kernel) (fun t_ ht_ _ => ⟨congrArg (fun z => Outcome.returned (some (Value.int (iI z)))) (show (0 : Int) = b2 (y = 0 ∨ y = 1) from (b2_f (by first | assumption | omega | (constructor <;> first | assumption | omega))).symm), ht_⟩) (fun _ h9 => absurd h9 List.not_mem_nil) dX6_isEither_14
    · refine xi_const hx hb dX6_isEither_9 ?_
      refine lv_goto (tgt := 14) hx hb dX6_isEither_10 (by decide) ?_
      exact W.zret (v := iI (1)) hx hb hr (by decide +kernel) (fun t_ ht_ _ => ⟨congrArg (fun z => Outcome.returned (some (Value.int (iI z)))) (show (1 : Int) = b2 (y = 0 ∨ y = 1) from (b2_t (by first | assumption | omega | (constructor <;> first | assumption | omega))).symm), ht_⟩) (fun _ h9 => absurd h9 List.not_mem_nil) dX6_isEither_14
set_option maxHeartbeats 1000000 in
set_option maxRecDepth 100000 in
theorem c_X6_isHundredths (l : Launch) (D : va_G) (cyI cyJ cyO : ClassId) (y : Int) (h_y : -2147483648 ≤ y ∧ y ≤ 2147483647) : Met l yX6_isHundredths wsX6_isHundredths ({ frames := 0, cells := 0, slots := 0, locals := 0 }) (va_Pc [.int (iI (y))] (xR D vwCl [] (xT cyI cyJ cyO))) (xq (some (.int (iI (b2 (0 ≤ y ∧ y ≤ 100)))))) 0 0 (fun _ => False) := by
  refine Met.ofW (cc := cX6_isHundredths) (maxL := 1) (ret := (some .boolean)) (by decide) rfl ?_
  intro p e s m args below meth c s₁ B hml hv
  obtain ⟨rfl, hP, hK⟩ := hv
  have hx := B.exec
  have hb := B.bytes
  have hr := B.returns
  have hts := atoms_spec (ws := wsX6_isHundredths) B.pre
  have hown : s.vm.findClass RX6 = some m.cls := findClass_of_methodNamed B.named
  have hlocks := B.notSynchronized
  have hP : va_P D vwCl [] s.heap := hP
  have hl := lv_entry ([.int (iI (y))]) (n := 1) (Nat.le_of_ble_eq_true rfl)
  rw [lg_entry_eq]
  generalize (lg_sl ([.int (iI (y))]) ++ List.replicate (1 - (lg_sl ([.int (iI (y))])).length) Slot.unset).toArray = ls at hl ⊢
  have hl : lv_has ls 1 [(0, .int (iI (y)))] := hl
  refine lv_iload_n hx hb dX6_isHundredths_0 rfl (lv_at hl 0 rfl) ?_
  refine xb_if_lt (tgt := 14) hx hb dX6_isHundredths_1 (by decide) (by omega) (fun h_1 => ?_) (fun h_1 => ?_)
  · refine xi_const hx hb dX6_isHundredths_14 ?_
    exact W.zret (v := iI (0)) hx hb hr (by decide +kernel) (fun t_ ht_ _ => ⟨congrArg (fun z => Outcome.returned (some (Value.int (iI z)))) (show (0 : Int) = b2 (0 ≤ y ∧ y ≤ 100) from (b2_f (by first | assumption | omega | (constructor <;> first | assumption | omega))).symm), ht_⟩) (fun _ h9 => absurd h9 List.not_mem_nil) dX6_isHundredths_15
  · refine lv_iload_n hx hb dX6_isHundredths_4 rfl (lv_at hl 0 rfl) ?_
    refine xi_bipush hx hb dX6_isHundredths_5 (by decide +kernel) ?_
    refine xb_icmp_gt (tgt := 14) hx hb dX6_isHundredths_7 (by decide) (by omega) (fun h_2 => ?_) (fun h_2 => ?_)
    · refine xi_const hx hb dX6_isHundredths_14 ?_
      exact W.zret (v := iI (0)) hx hb hr (by decide +kernel) (fun t_ ht_ _ => ⟨congrArg (fun z => Outcome.returned (some (Value.int (iI z)))) (show (0 : Int) = b2 (0 ≤ y ∧ y ≤ 100) from (b2_f (by first | assumption | omega | (constructor <;> first | assumption | omega))).symm), ht_⟩) (fun _ h9 => absurd h9 List.not_mem_nil) dX6_isHundredths_15
    · refine xi_const hx hb dX6_isHundredths_10 ?_
      refine lv_goto (tgt := 15) hx hb dX6_isHundredths_11 (by decide) ?_
      exact W.zret (v := iI (1)) hx hb hr (by decide +kernel) (fun t_ ht_ _ => ⟨congrArg (fun z => Outcome.returned (some (Value.int (iI z)))) (show (1 : Int) = b2 (0 ≤ y ∧ y ≤ 100) from (b2_t (by first | assumption | omega | (constructor <;> first | assumption | omega))).symm), ht_⟩) (fun _ h9 => absurd h9 List.not_mem_nil) dX6_isHundredths_15
set_option maxHeartbeats 1000000 in
set_option maxRecDepth 100000 in
theorem c_X6_isSixteenths (l : Launch) (D : va_G) (cyI cyJ cyO : ClassId) (y : Int) (h_y : -2147483648 ≤ y ∧ y ≤ 2147483647) : Met l yX6_isSixteenths wsX6_isSixteenths ({ frames := 0, cells := 0, slots := 0, locals := 0 }) (va_Pc [.int (iI (y))] (xR D vwCl [] (xT cyI cyJ cyO))) (xq (some (.int (iI (b2 (0 ≤ y ∧ y ≤ 16)))))) 0 0 (fun _ => False) := by
  refine Met.ofW (cc := cX6_isSixteenths) (maxL := 1) (ret := (some .boolean)) (by decide) rfl ?_
  intro p e s m args below meth c s₁ B hml hv
  obtain ⟨rfl, hP, hK⟩ := hv
  have hx := B.exec
  have hb := B.bytes
  have hr := B.returns
  have hts := atoms_spec (ws := wsX6_isSixteenths) B.pre
  have hown : s.vm.findClass RX6 = some m.cls := findClass_of_methodNamed B.named
  have hlocks := B.notSynchronized
  have hP : va_P D vwCl [] s.heap := hP
  have hl := lv_entry ([.int (iI (y))]) (n := 1) (Nat.le_of_ble_eq_true rfl)
  rw [lg_entry_eq]
  generalize (lg_sl ([.int (iI (y))]) ++ List.replicate (1 - (lg_sl ([.int (iI (y))])).length) Slot.unset).toArray = ls at hl ⊢
  have hl : lv_has ls 1 [(0, .int (iI (y)))] := hl
  refine lv_iload_n hx hb dX6_isSixteenths_0 rfl (lv_at hl 0 rfl) ?_
  refine xb_if_lt (tgt := 14) hx hb dX6_isSixteenths_1 (by decide) (by omega) (fun h_1 => ?_) (fun h_1 => ?_)
  · refine xi_const hx hb dX6_isSixteenths_14 ?_
    exact W.zret (v := iI (0)) hx hb hr (by decide +kernel) (fun t_ ht_ _ => ⟨congrArg (fun z => Outcome.returned (some (Value.int (iI z)))) (show (0 : Int) = b2 (0 ≤ y ∧ y ≤ 16) from (b2_f (by first | assumption | omega | (constructor <;> first | assumption | omega))).symm), ht_⟩) (fun _ h9 => absurd h9 List.not_mem_nil) dX6_isSixteenths_15
  · refine lv_iload_n hx hb dX6_isSixteenths_4 rfl (lv_at hl 0 rfl) ?_
    refine xi_bipush hx hb dX6_isSixteenths_5 (by decide +kernel) ?_
    refine xb_icmp_gt (tgt := 14) hx hb dX6_isSixteenths_7 (by decide) (by omega) (fun h_2 => ?_) (fun h_2 => ?_)
    · refine xi_const hx hb dX6_isSixteenths_14 ?_
      exact W.zret (v := iI (0)) hx hb hr (by decide +kernel) (fun t_ ht_ _ => ⟨congrArg (fun z => Outcome.returned (some (Value.int (iI z)))) (show (0 : Int) = b2 (0 ≤ y ∧ y ≤ 16) from (b2_f (by first | assumption | omega | (constructor <;> first | assumption | omega))).symm), ht_⟩) (fun _ h9 => absurd h9 List.not_mem_nil) dX6_isSixteenths_15
    · refine xi_const hx hb dX6_isSixteenths_10 ?_
      refine lv_goto (tgt := 15) hx hb dX6_isSixteenths_11 (by decide) ?_
      exact W.zret (v := iI (1)) hx hb hr (by decide +kernel) (fun t_ ht_ _ => ⟨congrArg (fun z => Outcome.returned (some (Value.int (iI z)))) (show (1 : Int) = b2 (0 ≤ y ∧ y ≤ 16) from (b2_t (by first | assumption | omega | (constructor <;> first | assumption | omega))).symm), ht_⟩) (fun _ h9 => absurd h9 List.not_mem_nil) dX6_isSixteenths_15
set_option maxHeartbeats 1000000 in
set_option maxRecDepth 100000 in
theorem c_X6_isSheet (l : Launch) (D : va_G) (cyI cyJ cyO : ClassId) (y : Int) (h_y : -2147483648 ≤ y ∧ y ≤ 2147483647) : Met l yX6_isSheet wsX6_isSheet ({ frames := 0, cells := 0, slots := 0, locals := 0 }) (va_Pc [.int (iI (y))] (xR D vwCl [] (xT cyI cyJ cyO))) (xq (some (.int (iI (b2 (0 ≤ y ∧ y < 4)))))) 0 0 (fun _ => False) := by
  refine Met.ofW (cc := cX6_isSheet) (maxL := 1) (ret := (some .boolean)) (by decide) rfl ?_
  intro p e s m args below meth c s₁ B hml hv
  obtain ⟨rfl, hP, hK⟩ := hv
  have hx := B.exec
  have hb := B.bytes
  have hr := B.returns
  have hts := atoms_spec (ws := wsX6_isSheet) B.pre
  have hown : s.vm.findClass RX6 = some m.cls := findClass_of_methodNamed B.named
  have hlocks := B.notSynchronized
  have hP : va_P D vwCl [] s.heap := hP
  have hl := lv_entry ([.int (iI (y))]) (n := 1) (Nat.le_of_ble_eq_true rfl)
  rw [lg_entry_eq]
  generalize (lg_sl ([.int (iI (y))]) ++ List.replicate (1 - (lg_sl ([.int (iI (y))])).length) Slot.unset).toArray = ls at hl ⊢
  have hl : lv_has ls 1 [(0, .int (iI (y)))] := hl
  refine lv_iload_n hx hb dX6_isSheet_0 rfl (lv_at hl 0 rfl) ?_
  refine xb_if_lt (tgt := 13) hx hb dX6_isSheet_1 (by decide) (by omega) (fun h_1 => ?_) (fun h_1 => ?_)
  · refine xi_const hx hb dX6_isSheet_13 ?_
    exact W.zret (v := iI (0)) hx hb hr (by decide +kernel) (fun t_ ht_ _ => ⟨congrArg (fun z => Outcome.returned (some (Value.int (iI z)))) (show (0 : Int) = b2 (0 ≤ y ∧ y < 4) from (b2_f (by first | assumption | omega | (constructor <;> first | assumption | omega))).symm), ht_⟩) (fun _ h9 => absurd h9 List.not_mem_nil) dX6_isSheet_14
  · refine lv_iload_n hx hb dX6_isSheet_4 rfl (lv_at hl 0 rfl) ?_
    refine xi_const hx hb dX6_isSheet_5 ?_
    refine xb_icmp_ge (tgt := 13) hx hb dX6_isSheet_6 (by decide) (by omega) (fun h_2 => ?_) (fun h_2 => ?_)
    · refine xi_const hx hb dX6_isSheet_13 ?_
      exact W.zret (v := iI (0)) hx hb hr (by decide +kernel) (fun t_ ht_ _ => ⟨congrArg (fun z => Outcome.returned (some (Value.int (iI z)))) (show (0 : Int) = b2 (0 ≤ y ∧ y < 4) from (b2_f (by first | assumption | omega | (constructor <;> first | assumption | omega))).symm), ht_⟩) (fun _ h9 => absurd h9 List.not_mem_nil) dX6_isSheet_14
    · refine xi_const hx hb dX6_isSheet_9 ?_
      refine lv_goto (tgt := 14) hx hb dX6_isSheet_10 (by decide) ?_
      exact W.zret (v := iI (1)) hx hb hr (by decide +kernel) (fun t_ ht_ _ => ⟨congrArg (fun z => Outcome.returned (some (Value.int (iI z)))) (show (1 : Int) = b2 (0 ≤ y ∧ y < 4) from (b2_t (by first | assumption | omega | (constructor <;> first | assumption | omega))).symm), ht_⟩) (fun _ h9 => absurd h9 List.not_mem_nil) dX6_isSheet_14
set_option maxHeartbeats 1000000 in
set_option maxRecDepth 100000 in
theorem c_X6_isForm (l : Launch) (D : va_G) (cyI cyJ cyO : ClassId) (y : Int) (h_y : -2147483648 ≤ y ∧ y ≤ 2147483647) : Met l yX6_isForm wsX6_isForm ({ frames := 0, cells := 0, slots := 0, locals := 0 }) (va_Pc [.int (iI (y))] (xR D vwCl [] (xT cyI cyJ cyO))) (xq (some (.int (iI (b2 (0 ≤ y ∧ y ≤ 2)))))) 0 0 (fun _ => False) := by
  refine Met.ofW (cc := cX6_isForm) (maxL := 1) (ret := (some .boolean)) (by decide) rfl ?_
  intro p e s m args below meth c s₁ B hml hv
  obtain ⟨rfl, hP, hK⟩ := hv
  have hx := B.exec
  have hb := B.bytes
  have hr := B.returns
  have hts := atoms_spec (ws := wsX6_isForm) B.pre
  have hown : s.vm.findClass RX6 = some m.cls := findClass_of_methodNamed B.named
  have hlocks := B.notSynchronized
  have hP : va_P D vwCl [] s.heap := hP
  have hl := lv_entry ([.int (iI (y))]) (n := 1) (Nat.le_of_ble_eq_true rfl)
  rw [lg_entry_eq]
  generalize (lg_sl ([.int (iI (y))]) ++ List.replicate (1 - (lg_sl ([.int (iI (y))])).length) Slot.unset).toArray = ls at hl ⊢
  have hl : lv_has ls 1 [(0, .int (iI (y)))] := hl
  refine lv_iload_n hx hb dX6_isForm_0 rfl (lv_at hl 0 rfl) ?_
  refine xb_if_lt (tgt := 13) hx hb dX6_isForm_1 (by decide) (by omega) (fun h_1 => ?_) (fun h_1 => ?_)
  · refine xi_const hx hb dX6_isForm_13 ?_
    exact W.zret (v := iI (0)) hx hb hr (by decide +kernel) (fun t_ ht_ _ => ⟨congrArg (fun z => Outcome.returned (some (Value.int (iI z)))) (show (0 : Int) = b2 (0 ≤ y ∧ y ≤ 2) from (b2_f (by first | assumption | omega | (constructor <;> first | assumption | omega))).symm), ht_⟩) (fun _ h9 => absurd h9 List.not_mem_nil) dX6_isForm_14
  · refine lv_iload_n hx hb dX6_isForm_4 rfl (lv_at hl 0 rfl) ?_
    refine xi_const hx hb dX6_isForm_5 ?_
    refine xb_icmp_gt (tgt := 13) hx hb dX6_isForm_6 (by decide) (by omega) (fun h_2 => ?_) (fun h_2 => ?_)
    · refine xi_const hx hb dX6_isForm_13 ?_
      exact W.zret (v := iI (0)) hx hb hr (by decide +kernel) (fun t_ ht_ _ => ⟨congrArg (fun z => Outcome.returned (some (Value.int (iI z)))) (show (0 : Int) = b2 (0 ≤ y ∧ y ≤ 2) from (b2_f (by first | assumption | omega | (constructor <;> first | assumption | omega))).symm), ht_⟩) (fun _ h9 => absurd h9 List.not_mem_nil) dX6_isForm_14
    · refine xi_const hx hb dX6_isForm_9 ?_
      refine lv_goto (tgt := 14) hx hb dX6_isForm_10 (by decide) ?_
      exact W.zret (v := iI (1)) hx hb hr (by decide +kernel) (fun t_ ht_ _ => ⟨congrArg (fun z => Outcome.returned (some (Value.int (iI z)))) (show (1 : Int) = b2 (0 ≤ y ∧ y ≤ 2) from (b2_t (by first | assumption | omega | (constructor <;> first | assumption | omega))).symm), ht_⟩) (fun _ h9 => absurd h9 List.not_mem_nil) dX6_isForm_14
set_option maxHeartbeats 1000000 in
set_option maxRecDepth 100000 in
theorem c_X6_mayBeTold (l : Launch) (D : va_G) (cyI cyJ cyO : ClassId) (k : Int) (v : Int) (h_k : -2147483648 ≤ k ∧ k ≤ 2147483647) (h_v : -2147483648 ≤ v ∧ v ≤ 2147483647) : Met l yX6_mayBeTold wsX6_mayBeTold ({ frames := 1, cells := 0, slots := 0, locals := 20 }) (va_Pc [.int (iI (k)), .int (iI (v))] (xR D vwCl [] (xT cyI cyJ cyO))) (xq (some (.int (iI (b2 ((k = 0 ∧ 0 ≤ v ∧ v ≤ 999) ∨ (k = 1 ∧ 0 < v ∧ v ≤ 999) ∨ k = 2)))))) 0 0 (fun _ => False) := by
  refine Met.ofW (cc := cX6_mayBeTold) (maxL := 2) (ret := (some .boolean)) (by decide) rfl ?_
  intro p e s m args below meth c s₁ B hml hv
  obtain ⟨rfl, hP, hK⟩ := hv
  have hx := B.exec
  have hb := B.bytes
  have hr := B.returns
  have hts := atoms_spec (ws := wsX6_mayBeTold) B.pre
  have hown : s.vm.findClass RX6 = some m.cls := findClass_of_methodNamed B.named
  have hlocks := B.notSynchronized
  have hP : va_P D vwCl [] s.heap := hP
  have hl := lv_entry ([.int (iI (k)), .int (iI (v))]) (n := 2) (Nat.le_of_ble_eq_true rfl)
  rw [lg_entry_eq]
  generalize (lg_sl ([.int (iI (k)), .int (iI (v))]) ++ List.replicate (2 - (lg_sl ([.int (iI (k)), .int (iI (v))])).length) Slot.unset).toArray = ls at hl ⊢
  have hl : lv_has ls 2 [(0, .int (iI (k))), (1, .int (iI (v)))] := hl
  refine lv_iload_n hx hb dX6_mayBeTold_0 rfl (lv_at hl 0 rfl) ?_
  refine xb_if_ne (tgt := 9) hx hb dX6_mayBeTold_1 (by decide) (by omega) (fun h_1 => ?_) (fun h_1 => ?_)
  · refine lv_iload_n hx hb dX6_mayBeTold_9 rfl (lv_at hl 0 rfl) ?_
    refine xi_const hx hb dX6_mayBeTold_10 ?_
    refine xb_icmp_ne (tgt := 31) hx hb dX6_mayBeTold_11 (by decide) (by omega) (fun h_2 => ?_) (fun h_2 => ?_)
    · refine lv_iload_n hx hb dX6_mayBeTold_31 rfl (lv_at hl 0 rfl) ?_
      refine xi_const hx hb dX6_mayBeTold_32 ?_
      refine xb_icmp_ne (tgt := 40) hx hb dX6_mayBeTold_33 (by decide) (by omega) (fun h_3 => ?_) (fun h_3 => ?_)
      · refine xi_const hx hb dX6_mayBeTold_40 ?_
        exact W.zret (v := iI (0)) hx hb hr (by decide +kernel) (fun t_ ht_ _ => ⟨congrArg (fun z => Outcome.returned (some (Value.int (iI z)))) (show (0 : Int) = b2 ((k = 0 ∧ 0 ≤ v ∧ v ≤ 999) ∨ (k = 1 ∧ 0 < v ∧ v ≤ 999) ∨ k = 2) from (b2_f (by first | assumption | omega | (constructor <;> first | assumption | omega))).symm), ht_⟩) (fun _ h9 => absurd h9 List.not_mem_nil) dX6_mayBeTold_41
      · refine xi_const hx hb dX6_mayBeTold_36 ?_
        refine lv_goto (tgt := 41) hx hb dX6_mayBeTold_37 (by decide) ?_
        exact W.zret (v := iI (1)) hx hb hr (by decide +kernel) (fun t_ ht_ _ => ⟨congrArg (fun z => Outcome.returned (some (Value.int (iI z)))) (show (1 : Int) = b2 ((k = 0 ∧ 0 ≤ v ∧ v ≤ 999) ∨ (k = 1 ∧ 0 < v ∧ v ≤ 999) ∨ k = 2) from (b2_t (by first | assumption | omega | (constructor <;> first | assumption | omega))).symm), ht_⟩) (fun _ h9 => absurd h9 List.not_mem_nil) dX6_mayBeTold_41
    · refine lv_iload_n hx hb dX6_mayBeTold_14 rfl (lv_at hl 1 rfl) ?_
      have hPc := hP.sub (ws' := []) [] rfl
      refine xc_i (va_runS (As := [.int (iI (v))]) (rest := []) ⟨hx, hb, hml, hown, hts⟩ (c_X6_isLevel l D cyI cyJ cyO v (by first | exact h_y | assumption | omega)) (va_cwS 1 hts gX6_mayBeTold_X6_isLevel rfl rfl rfl (by decide +kernel) ⟨Nat.le_of_ble_eq_true rfl, Nat.le_of_ble_eq_true rfl⟩) (xpS hPc hK) rfl rfl hl.1 rfl (lv_room (Nat.le_of_ble_eq_true rfl)) dX6_mayBeTold_15 ⟨Nat.le_of_ble_eq_true rfl, Nat.le_of_ble_eq_true rfl⟩) ?_
      refine xb_if_eqB (tgt := 29) hx hb dX6_mayBeTold_18 (by decide) (fun h_4 => ?_) (fun h_4 => ?_)
      · refine xi_const hx hb dX6_mayBeTold_29 ?_
        exact W.zret (v := iI (0)) hx hb hr (by decide +kernel) (fun t_ ht_ _ => ⟨congrArg (fun z => Outcome.returned (some (Value.int (iI z)))) (show (0 : Int) = b2 ((k = 0 ∧ 0 ≤ v ∧ v ≤ 999) ∨ (k = 1 ∧ 0 < v ∧ v ≤ 999) ∨ k = 2) from (b2_f (by first | assumption | omega | (constructor <;> first | assumption | omega))).symm), ht_⟩) (fun _ h9 => absurd h9 List.not_mem_nil) dX6_mayBeTold_30
      · refine lv_iload_n hx hb dX6_mayBeTold_21 rfl (lv_at hl 1 rfl) ?_
        refine xb_if_le (tgt := 29) hx hb dX6_mayBeTold_22 (by decide) (by omega) (fun h_5 => ?_) (fun h_5 => ?_)
        · refine xi_const hx hb dX6_mayBeTold_29 ?_
          exact W.zret (v := iI (0)) hx hb hr (by decide +kernel) (fun t_ ht_ _ => ⟨congrArg (fun z => Outcome.returned (some (Value.int (iI z)))) (show (0 : Int) = b2 ((k = 0 ∧ 0 ≤ v ∧ v ≤ 999) ∨ (k = 1 ∧ 0 < v ∧ v ≤ 999) ∨ k = 2) from (b2_f (by first | assumption | omega | (constructor <;> first | assumption | omega))).symm), ht_⟩) (fun _ h9 => absurd h9 List.not_mem_nil) dX6_mayBeTold_30
        · refine xi_const hx hb dX6_mayBeTold_25 ?_
          refine lv_goto (tgt := 30) hx hb dX6_mayBeTold_26 (by decide) ?_
          exact W.zret (v := iI (1)) hx hb hr (by decide +kernel) (fun t_ ht_ _ => ⟨congrArg (fun z => Outcome.returned (some (Value.int (iI z)))) (show (1 : Int) = b2 ((k = 0 ∧ 0 ≤ v ∧ v ≤ 999) ∨ (k = 1 ∧ 0 < v ∧ v ≤ 999) ∨ k = 2) from (b2_t (by first | assumption | omega | (constructor <;> first | assumption | omega))).symm), ht_⟩) (fun _ h9 => absurd h9 List.not_mem_nil) dX6_mayBeTold_30
  · refine lv_iload_n hx hb dX6_mayBeTold_4 rfl (lv_at hl 1 rfl) ?_
    have hPc := hP.sub (ws' := []) [] rfl
    refine xc_i (va_runS (As := [.int (iI (v))]) (rest := []) ⟨hx, hb, hml, hown, hts⟩ (c_X6_isLevel l D cyI cyJ cyO v (by first | exact h_y | assumption | omega)) (va_cwS 1 hts gX6_mayBeTold_X6_isLevel rfl rfl rfl (by decide +kernel) ⟨Nat.le_of_ble_eq_true rfl, Nat.le_of_ble_eq_true rfl⟩) (xpS hPc hK) rfl rfl hl.1 rfl (lv_room (Nat.le_of_ble_eq_true rfl)) dX6_mayBeTold_5 ⟨Nat.le_of_ble_eq_true rfl, Nat.le_of_ble_eq_true rfl⟩) ?_
    exact W.zret (v := iI (b2 (0 ≤ v ∧ v ≤ 999))) hx hb hr (by rcases b2_01 (0 ≤ v ∧ v ≤ 999) with h | h <;> rw [h] <;> decide +kernel) (fun t_ ht_ _ => ⟨congrArg (fun z => Outcome.returned (some (Value.int (iI z)))) (b2_e (show (0 ≤ v ∧ v ≤ 999) ↔ ((k = 0 ∧ 0 ≤ v ∧ v ≤ 999) ∨ (k = 1 ∧ 0 < v ∧ v ≤ 999) ∨ k = 2) from by first | assumption | omega | (constructor <;> first | assumption | omega))), ht_⟩) (fun _ h9 => absurd h9 List.not_mem_nil) dX6_mayBeTold_8
set_option maxHeartbeats 1000000 in
set_option maxRecDepth 100000 in
theorem c_X6_longRefusal (l : Launch) (D : va_G) (cyI cyJ cyO : ClassId) (x : Int) (h_x : -2147483648 ≤ x ∧ x ≤ 2147483647) : Met l yX6_longRefusal wsX6_longRefusal ({ frames := 0, cells := 0, slots := 0, locals := 0 }) (va_Pc [.int (iI (x))] (xR D vwCl [] (xT cyI cyJ cyO))) (xq (some (.long (lI (-9223372036854775808 - x))))) 0 0 (fun _ => False) := by
  refine Met.ofW (cc := cX6_longRefusal) (maxL := 1) (ret := (some .long)) (by decide) rfl ?_
  intro p e s m args below meth c s₁ B hml hv
  obtain ⟨rfl, hP, hK⟩ := hv
  have hx := B.exec
  have hb := B.bytes
  have hr := B.returns
  have hts := atoms_spec (ws := wsX6_longRefusal) B.pre
  have hown : s.vm.findClass RX6 = some m.cls := findClass_of_methodNamed B.named
  have hlocks := B.notSynchronized
  have hP : va_P D vwCl [] s.heap := hP
  have hl := lv_entry ([.int (iI (x))]) (n := 1) (Nat.le_of_ble_eq_true rfl)
  rw [lg_entry_eq]
  generalize (lg_sl ([.int (iI (x))]) ++ List.replicate (1 - (lg_sl ([.int (iI (x))])).length) Slot.unset).toArray = ls at hl ⊢
  have hl : lv_has ls 1 [(0, .int (iI (x)))] := hl
  refine lv_ldc2 (v := lI (-9223372036854775808)) hx hb hown (hts (.constantLong RX6 368 (lI (-9223372036854775808))) (List.mem_of_getElem? (i := 1) (by decide +kernel))) dX6_longRefusal_0 ?_
  refine lv_iload_n hx hb dX6_longRefusal_3 rfl (lv_at hl 0 rfl) ?_
  refine xi_i2l hx hb dX6_longRefusal_4 (by omega) ?_
  refine xl_sub hx hb dX6_longRefusal_5 ?_
  exact W.lret (v := lI ((-9223372036854775808) - x)) hx hb hr (fun t_ ht_ _ => ⟨congrArg (fun z => Outcome.returned (some (Value.long (lI z)))) (show ((-9223372036854775808) - x) = (-9223372036854775808 - x) from by first | rfl | omega), ht_⟩) (fun _ h9 => absurd h9 List.not_mem_nil) dX6_longRefusal_6
set_option maxHeartbeats 1000000 in
set_option maxRecDepth 100000 in
theorem c_X6_mixed (l : Launch) (D : va_G) (cyI cyJ cyO : ClassId) (h : Int) (x : Int) : Met l yX6_mixed wsX6_mixed ({ frames := 0, cells := 0, slots := 0, locals := 0 }) (va_Pc [.long (lI (h)), .long (lI (x))] (xR D vwCl [] (xT cyI cyJ cyO))) (xq (some (.long (lI (31 * h + x))))) 0 0 (fun _ => False) := by
  refine Met.ofW (cc := cX6_mixed) (maxL := 4) (ret := (some .long)) (by decide) rfl ?_
  intro p e s m args below meth c s₁ B hml hv
  obtain ⟨rfl, hP, hK⟩ := hv
  have hx := B.exec
  have hb := B.bytes
  have hr := B.returns
  have hts := atoms_spec (ws := wsX6_mixed) B.pre
  have hown : s.vm.findClass RX6 = some m.cls := findClass_of_methodNamed B.named
  have hlocks := B.notSynchronized
  have hP : va_P D vwCl [] s.heap := hP
  have hl := lv_entry ([.long (lI (h)), .long (lI (x))]) (n := 4) (Nat.le_of_ble_eq_true rfl)
  rw [lg_entry_eq]
  generalize (lg_sl ([.long (lI (h)), .long (lI (x))]) ++ List.replicate (4 - (lg_sl ([.long (lI (h)), .long (lI (x))])).length) Slot.unset).toArray = ls at hl ⊢
  have hl : lv_has ls 4 [(0, .long (lI (h))), (2, .long (lI (x)))] := hl
  refine lv_ldc2 (v := lI (31)) hx hb hown (hts (.constantLong RX6 397 (lI (31))) (List.mem_of_getElem? (i := 1) (by decide +kernel))) dX6_mixed_0 ?_
  refine lv_lload_n hx hb dX6_mixed_3 rfl (lv_at hl 0 rfl) ?_
  refine xl_mul hx hb dX6_mixed_4 ?_
  refine lv_lload_n hx hb dX6_mixed_5 rfl (lv_at hl 1 rfl) ?_
  refine xl_add hx hb dX6_mixed_6 ?_
  exact W.lret (v := lI ((31 * h) + x)) hx hb hr (fun t_ ht_ _ => ⟨congrArg (fun z => Outcome.returned (some (Value.long (lI z)))) (show ((31 * h) + x) = (31 * h + x) from by first | rfl | omega), ht_⟩) (fun _ h9 => absurd h9 List.not_mem_nil) dX6_mixed_7
set_option maxHeartbeats 1000000 in
set_option maxRecDepth 100000 in
theorem c_X6_direction (l : Launch) (D : va_G) (cyI cyJ cyO : ClassId) (f : Int) (t : Int) (h_f : -2147483648 ≤ f ∧ f ≤ 2147483647) (h_t : -2147483648 ≤ t ∧ t ≤ 2147483647) : Met l yX6_direction wsX6_direction ({ frames := 0, cells := 0, slots := 0, locals := 0 }) (va_Pc [.int (iI (f)), .int (iI (t))] (xR D vwCl [] (xT cyI cyJ cyO))) (xq (some (.int (iI (zsg f t))))) 0 0 (fun _ => False) := by
  refine Met.ofW (cc := cX6_direction) (maxL := 2) (ret := (some .int)) (by decide) rfl ?_
  intro p e s m args below meth c s₁ B hml hv
  obtain ⟨rfl, hP, hK⟩ := hv
  have hx := B.exec
  have hb := B.bytes
  have hr := B.returns
  have hts := atoms_spec (ws := wsX6_direction) B.pre
  have hown : s.vm.findClass RX6 = some m.cls := findClass_of_methodNamed B.named
  have hlocks := B.notSynchronized
  have hP : va_P D vwCl [] s.heap := hP
  have hl := lv_entry ([.int (iI (f)), .int (iI (t))]) (n := 2) (Nat.le_of_ble_eq_true rfl)
  rw [lg_entry_eq]
  generalize (lg_sl ([.int (iI (f)), .int (iI (t))]) ++ List.replicate (2 - (lg_sl ([.int (iI (f)), .int (iI (t))])).length) Slot.unset).toArray = ls at hl ⊢
  have hl : lv_has ls 2 [(0, .int (iI (f))), (1, .int (iI (t)))] := hl
  refine lv_iload_n hx hb dX6_direction_0 rfl (lv_at hl 1 rfl) ?_
  refine lv_iload_n hx hb dX6_direction_1 rfl (lv_at hl 0 rfl) ?_
  refine xb_icmp_ne (tgt := 7) hx hb dX6_direction_2 (by decide) (by omega) (fun h_1 => ?_) (fun h_1 => ?_)
  · refine lv_iload_n hx hb dX6_direction_7 rfl (lv_at hl 1 rfl) ?_
    refine lv_iload_n hx hb dX6_direction_8 rfl (lv_at hl 0 rfl) ?_
    refine xb_icmp_le (tgt := 16) hx hb dX6_direction_9 (by decide) (by omega) (fun h_2 => ?_) (fun h_2 => ?_)
    · refine xi_const hx hb dX6_direction_16 ?_
      exact W.iret (v := iI (-1)) hx hb hr (fun t_ ht_ _ => ⟨congrArg (fun z => Outcome.returned (some (Value.int (iI z)))) (show (-1) = (zsg f t) from by unfold zsg; first | rw [if_pos (by omega)] | rw [if_neg (by omega), if_pos (by omega)] | rw [if_neg (by omega), if_neg (by omega)]), ht_⟩) (fun _ h9 => absurd h9 List.not_mem_nil) dX6_direction_17
    · refine xi_const hx hb dX6_direction_12 ?_
      refine lv_goto (tgt := 17) hx hb dX6_direction_13 (by decide) ?_
      exact W.iret (v := iI (1)) hx hb hr (fun t_ ht_ _ => ⟨congrArg (fun z => Outcome.returned (some (Value.int (iI z)))) (show (1) = (zsg f t) from by unfold zsg; first | rw [if_pos (by omega)] | rw [if_neg (by omega), if_pos (by omega)] | rw [if_neg (by omega), if_neg (by omega)]), ht_⟩) (fun _ h9 => absurd h9 List.not_mem_nil) dX6_direction_17
  · refine xi_const hx hb dX6_direction_5 ?_
    exact W.iret (v := iI (0)) hx hb hr (fun t_ ht_ _ => ⟨congrArg (fun z => Outcome.returned (some (Value.int (iI z)))) (show (0) = (zsg f t) from by unfold zsg; first | rw [if_pos (by omega)] | rw [if_neg (by omega), if_pos (by omega)] | rw [if_neg (by omega), if_neg (by omega)]), ht_⟩) (fun _ h9 => absurd h9 List.not_mem_nil) dX6_direction_6
set_option maxHeartbeats 1000000 in
set_option maxRecDepth 100000 in
theorem c_X0_all (l : Launch) (D : va_G) (cyI cyJ cyO : ClassId) (qC : Nat) (qCy : Nat) (qCl : Nat) (qCb : Nat) (ex : Int) (be : Int) (op : Int) (es : Int) (ge : Int) (rc : Int) (lr : Int) (lw : Int) (h_ex : 0 ≤ ex ∧ ex ≤ 60) (h_be : 0 ≤ be ∧ be ≤ 60) (h_op : 0 ≤ op ∧ op ≤ 60) : Met l yX0_all wsX0_all ({ frames := 0, cells := 0, slots := 0, locals := 0 }) (va_Pc [.ref qC] (xR D vwCl [(qC, .inr (0, [.ref qCy, .ref qCl, .ref qCb, .int (iI (ex)), .int (iI (be)), .int (iI (op)), .int (iI (es)), .int (iI (ge)), .int (iI (rc)), .int (iI (lr)), .int (iI (lw))]))] (xT cyI cyJ cyO))) (xq (some (.int (iI (ex + be + op))))) 0 0 (fun _ => False) := by
  refine Met.ofW (cc := cX0_all) (maxL := 1) (ret := (some .int)) (by decide) rfl ?_
  intro p e s m args below meth c s₁ B hml hv
  obtain ⟨rfl, hP, hK⟩ := hv
  have hx := B.exec
  have hb := B.bytes
  have hr := B.returns
  have hts := atoms_spec (ws := wsX0_all) B.pre
  have hown : s.vm.findClass RX0 = some m.cls := findClass_of_methodNamed B.named
  have hlocks := B.notSynchronized
  have hcX0 : ∀ w ∈ wsX00, w ∈ wsX0_all := fun _ h => List.mem_cons_of_mem _ (List.mem_append_right _ h)
  have hP : va_P D vwCl [(qC, .inr (0, [.ref qCy, .ref qCl, .ref qCb, .int (iI (ex)), .int (iI (be)), .int (iI (op)), .int (iI (es)), .int (iI (ge)), .int (iI (rc)), .int (iI (lr)), .int (iI (lw))]))] s.heap := hP
  have hl := lv_entry ([.ref qC]) (n := 1) (Nat.le_of_ble_eq_true rfl)
  rw [lg_entry_eq]
  generalize (lg_sl ([.ref qC]) ++ List.replicate (1 - (lg_sl ([.ref qC])).length) Slot.unset).toArray = ls at hl ⊢
  have hl : lv_has ls 1 [(0, .ref qC)] := hl
  refine lv_aload_n hx hb dX0_all_0 rfl (lv_at hl 0 rfl) ?_
  refine va_get (D := D) (ci := 0) (C := RX0) (T := TX0) (N := 11) hx hb hts hcX0 hown hK hP 0 rfl rfl 3 (by decide) (hts (.fieldLink RX0 21 "WallMarks$Counted" "exacts" "I") (List.mem_of_getElem? (i := 1) (by decide +kernel))) (fun _ h9 => h9) rfl dX0_all_1 ?_
  refine lv_aload_n hx hb dX0_all_4 rfl (lv_at hl 0 rfl) ?_
  refine va_get (D := D) (ci := 0) (C := RX0) (T := TX0) (N := 11) hx hb hts hcX0 hown hK hP 0 rfl rfl 4 (by decide) (hts (.fieldLink RX0 25 "WallMarks$Counted" "belows" "I") (List.mem_of_getElem? (i := 2) (by decide +kernel))) (fun _ h9 => h9) rfl dX0_all_5 ?_
  refine xi_add hx hb dX0_all_8 ?_
  refine lv_aload_n hx hb dX0_all_9 rfl (lv_at hl 0 rfl) ?_
  refine va_get (D := D) (ci := 0) (C := RX0) (T := TX0) (N := 11) hx hb hts hcX0 hown hK hP 0 rfl rfl 5 (by decide) (hts (.fieldLink RX0 28 "WallMarks$Counted" "opens" "I") (List.mem_of_getElem? (i := 3) (by decide +kernel))) (fun _ h9 => h9) rfl dX0_all_10 ?_
  refine xi_add hx hb dX0_all_13 ?_
  exact W.iret (v := iI ((ex + be) + op)) hx hb hr (fun t_ ht_ _ => ⟨congrArg (fun z => Outcome.returned (some (Value.int (iI z)))) (show ((ex + be) + op) = (ex + be + op) from by first | rfl | omega), ht_⟩) (fun _ h9 => absurd h9 List.not_mem_nil) dX0_all_14
set_option maxHeartbeats 1000000 in
set_option maxRecDepth 100000 in
theorem c_X0_overs (l : Launch) (D : va_G) (cyI cyJ cyO : ClassId) (qC : Nat) (qCy : Nat) (qCl : Nat) (qCb : Nat) (ex : Int) (be : Int) (op : Int) (es : Int) (ge : Int) (rc : Int) (lr : Int) (lw : Int) (el : Int → Int) (x : Int) (h_ex : 0 ≤ ex ∧ ex ≤ 60) (h_be : 0 ≤ be ∧ be ≤ 60) (h_op : 0 ≤ op ∧ op ≤ 60) (h_el : ∀ j, 0 ≤ el j ∧ el j ≤ 999) (h_x : -2147483648 ≤ x ∧ x ≤ 2147483647) : Met l yX0_overs wsX0_overs ({ frames := 0, cells := 0, slots := 0, locals := 0 }) (va_Pc [.ref qC, .int (iI (x))] (xR D vwCl [(qC, .inr (0, [.ref qCy, .ref qCl, .ref qCb, .int (iI (ex)), .int (iI (be)), .int (iI (op)), .int (iI (es)), .int (iI (ge)), .int (iI (rc)), .int (iI (lr)), .int (iI (lw))])), (qCl, .inl (cyI, 60, .inl (xA (el))))] (xT cyI cyJ cyO))) (xq (some (.int (iI (ovZ el ex x))))) 0 0 (fun _ => False) := by
  refine Met.ofW (cc := cX0_overs) (maxL := 4) (ret := (some .int)) (by decide) rfl ?_
  intro p e s m args below meth c s₁ B hml hv
  obtain ⟨rfl, hP, hK⟩ := hv
  have hx := B.exec
  have hb := B.bytes
  have hr := B.returns
  have hts := atoms_spec (ws := wsX0_overs) B.pre
  have hown : s.vm.findClass RX0 = some m.cls := findClass_of_methodNamed B.named
  have hlocks := B.notSynchronized
  have hcX0 : ∀ w ∈ wsX00, w ∈ wsX0_overs := fun _ h => List.mem_cons_of_mem _ (List.mem_append_right _ h)
  have hP : va_P D vwCl [(qC, .inr (0, [.ref qCy, .ref qCl, .ref qCb, .int (iI (ex)), .int (iI (be)), .int (iI (op)), .int (iI (es)), .int (iI (ge)), .int (iI (rc)), .int (iI (lr)), .int (iI (lw))])), (qCl, .inl (cyI, 60, .inl (xA (el))))] s.heap := hP
  have hl := lv_entry ([.ref qC, .int (iI (x))]) (n := 4) (Nat.le_of_ble_eq_true rfl)
  rw [lg_entry_eq]
  generalize (lg_sl ([.ref qC, .int (iI (x))]) ++ List.replicate (4 - (lg_sl ([.ref qC, .int (iI (x))])).length) Slot.unset).toArray = ls at hl ⊢
  have hl : lv_has ls 4 [(0, .ref qC), (1, .int (iI (x)))] := hl
  have cut_4 : ∀ (N_ : Nat) (i : Int) (a : Int) (hi : 0 ≤ i ∧ i ≤ ex) (ha : a = cntZ (fun j => x ≤ el j) i) (hb9 : 0 ≤ a ∧ a ≤ i) (hN_ : (ex - i).toNat < N_) (ls : Array Slot) (hl : lv_has ls 4 [(0, .ref qC), (1, .int (iI (x))), (2, .int (iI (a))), (3, .int (iI (i)))]), W p l e (headSpec wsX0_overs ({ frames := 0, cells := 0, slots := 0, locals := 0 })).room s m ([.ref qC, .int (iI (x))] : List Value).toArray below meth c s.heap [] 0 0 (MQ below (xq (some (.int (iI (ovZ el ex x))))) ([.ref qC, .int (iI (x))] : List Value).toArray s 0 0 (fun _ => False)) (F0 m 4 ls []) := by
    intro N_
    induction N_ with
    | zero => intro i a hi ha hb9 hN_ ls hl; exact absurd hN_ (Nat.not_lt_zero _)
    | succ N_ ih_4 =>
      intro i a hi ha hb9 hN_ ls hl
      refine lv_iload_n hx hb dX0_overs_4 rfl (lv_at hl 3 rfl) ?_
      refine lv_aload_n hx hb dX0_overs_5 rfl (lv_at hl 0 rfl) ?_
      refine va_get (D := D) (ci := 0) (C := RX0) (T := TX0) (N := 11) hx hb hts hcX0 hown hK hP 0 rfl rfl 3 (by decide) (hts (.fieldLink RX0 21 "WallMarks$Counted" "exacts" "I") (List.mem_of_getElem? (i := 1) (by decide +kernel))) (fun _ h9 => h9) rfl dX0_overs_6 ?_
      refine xb_icmp_ge (tgt := 31) hx hb dX0_overs_9 (by decide) (by omega) (fun h_1 => ?_) (fun h_1 => ?_)
      · refine lv_iload_n hx hb dX0_overs_31 rfl (lv_at hl 2 rfl) ?_
        exact W.iret (v := iI (a)) hx hb hr (fun t_ ht_ _ => ⟨congrArg (fun z => Outcome.returned (some (Value.int (iI z)))) (show (a) = (ovZ el ex x) from by rw [ha, show i = ex from by omega]; rfl), ht_⟩) (fun _ h9 => absurd h9 List.not_mem_nil) dX0_overs_32
      · refine lv_aload_n hx hb dX0_overs_12 rfl (lv_at hl 0 rfl) ?_
        refine va_get (D := D) (ci := 0) (C := RX0) (T := TX0) (N := 11) hx hb hts hcX0 hown hK hP 0 rfl rfl 1 (by decide) (hts (.fieldLink RX0 15 "WallMarks$Counted" "exactLevels" "[I") (List.mem_of_getElem? (i := 2) (by decide +kernel))) (fun _ h9 => h9) rfl dX0_overs_13 ?_
        refine lv_iload_n hx hb dX0_overs_16 rfl (lv_at hl 3 rfl) ?_
        refine xi_ald (D := D) hx hb hK hP 1 0 rfl rfl (by decide) (by omega) dX0_overs_17 ?_
        have hr_2 := h_el (i)
        refine lv_iload_n hx hb dX0_overs_18 rfl (lv_at hl 1 rfl) ?_
        refine xb_icmp_lt (tgt := 25) hx hb dX0_overs_19 (by decide) (by omega) (fun h_3 => ?_) (fun h_3 => ?_)
        · refine xi_inc (k := 3) (lv' := [(3, .int (iI (i + 1))), (0, .ref qC), (1, .int (iI (x))), (2, .int (iI (a)))]) hx hb dX0_overs_25 hl rfl (by decide) rfl (fun ls hl => ?_)
          refine lv_goto (tgt := 4) hx hb dX0_overs_28 (by decide) ?_
          exact ih_4 (i + 1) (a) (by first | assumption | omega | (constructor <;> omega)) (by first | (rw [cntZ_t (by omega) (by omega)]; omega) | (rw [cntZ_f (by omega) (by omega)]; omega) | rfl) (by first | assumption | omega | (constructor <;> omega)) (by omega) ls (lv_sub hl [1, 2, 3, 0] rfl)
        · refine xi_inc (k := 2) (lv' := [(2, .int (iI (a + 1))), (0, .ref qC), (1, .int (iI (x))), (3, .int (iI (i)))]) hx hb dX0_overs_22 hl rfl (by decide) rfl (fun ls hl => ?_)
          refine xi_inc (k := 3) (lv' := [(3, .int (iI (i + 1))), (2, .int (iI (a + 1))), (0, .ref qC), (1, .int (iI (x)))]) hx hb dX0_overs_25 hl rfl (by decide) rfl (fun ls hl => ?_)
          refine lv_goto (tgt := 4) hx hb dX0_overs_28 (by decide) ?_
          exact ih_4 (i + 1) (a + 1) (by first | assumption | omega | (constructor <;> omega)) (by first | (rw [cntZ_t (by omega) (by omega)]; omega) | (rw [cntZ_f (by omega) (by omega)]; omega) | rfl) (by first | assumption | omega | (constructor <;> omega)) (by omega) ls (lv_sub hl [2, 3, 1, 0] rfl)
  refine xi_const hx hb dX0_overs_0 ?_
  refine lv_istore_n (lv' := [(2, .int (iI (0))), (0, .ref qC), (1, .int (iI (x)))]) hx hb dX0_overs_1 rfl hl (by decide) rfl (fun ls hl => ?_)
  refine xi_const hx hb dX0_overs_2 ?_
  refine lv_istore_n (lv' := [(3, .int (iI (0))), (2, .int (iI (0))), (0, .ref qC), (1, .int (iI (x)))]) hx hb dX0_overs_3 rfl hl (by decide) rfl (fun ls hl => ?_)
  exact cut_4 ((ex - 0 : Int).toNat + 1) (0) (0) (by first | assumption | omega | (constructor <;> omega)) (by first | (rw [cntZ_t (by omega) (by omega)]; omega) | (rw [cntZ_f (by omega) (by omega)]; omega) | rfl) (by first | assumption | omega | (constructor <;> omega)) (by exact Nat.lt_succ_self _) ls (lv_sub hl [2, 3, 1, 0] rfl)
set_option maxHeartbeats 1000000 in
set_option maxRecDepth 100000 in
theorem c_X0_belowsUnder (l : Launch) (D : va_G) (cyI cyJ cyO : ClassId) (qC : Nat) (qCy : Nat) (qCl : Nat) (qCb : Nat) (ex : Int) (be : Int) (op : Int) (es : Int) (ge : Int) (rc : Int) (lr : Int) (lw : Int) (bl : Int → Int) (x : Int) (h_ex : 0 ≤ ex ∧ ex ≤ 60) (h_be : 0 ≤ be ∧ be ≤ 60) (h_op : 0 ≤ op ∧ op ≤ 60) (h_bl : ∀ j, 0 ≤ bl j ∧ bl j ≤ 999) (h_x : -2147483648 ≤ x ∧ x ≤ 2147483647) : Met l yX0_belowsUnder wsX0_belowsUnder ({ frames := 0, cells := 0, slots := 0, locals := 0 }) (va_Pc [.ref qC, .int (iI (x))] (xR D vwCl [(qC, .inr (0, [.ref qCy, .ref qCl, .ref qCb, .int (iI (ex)), .int (iI (be)), .int (iI (op)), .int (iI (es)), .int (iI (ge)), .int (iI (rc)), .int (iI (lr)), .int (iI (lw))])), (qCb, .inl (cyI, 60, .inl (xA (bl))))] (xT cyI cyJ cyO))) (xq (some (.int (iI (buZ bl be x))))) 0 0 (fun _ => False) := by
  refine Met.ofW (cc := cX0_belowsUnder) (maxL := 4) (ret := (some .int)) (by decide) rfl ?_
  intro p e s m args below meth c s₁ B hml hv
  obtain ⟨rfl, hP, hK⟩ := hv
  have hx := B.exec
  have hb := B.bytes
  have hr := B.returns
  have hts := atoms_spec (ws := wsX0_belowsUnder) B.pre
  have hown : s.vm.findClass RX0 = some m.cls := findClass_of_methodNamed B.named
  have hlocks := B.notSynchronized
  have hcX0 : ∀ w ∈ wsX00, w ∈ wsX0_belowsUnder := fun _ h => List.mem_cons_of_mem _ (List.mem_append_right _ h)
  have hP : va_P D vwCl [(qC, .inr (0, [.ref qCy, .ref qCl, .ref qCb, .int (iI (ex)), .int (iI (be)), .int (iI (op)), .int (iI (es)), .int (iI (ge)), .int (iI (rc)), .int (iI (lr)), .int (iI (lw))])), (qCb, .inl (cyI, 60, .inl (xA (bl))))] s.heap := hP
  have hl := lv_entry ([.ref qC, .int (iI (x))]) (n := 4) (Nat.le_of_ble_eq_true rfl)
  rw [lg_entry_eq]
  generalize (lg_sl ([.ref qC, .int (iI (x))]) ++ List.replicate (4 - (lg_sl ([.ref qC, .int (iI (x))])).length) Slot.unset).toArray = ls at hl ⊢
  have hl : lv_has ls 4 [(0, .ref qC), (1, .int (iI (x)))] := hl
  have cut_4 : ∀ (N_ : Nat) (i : Int) (a : Int) (hi : 0 ≤ i ∧ i ≤ be) (ha : a = cntZ (fun j => bl j ≤ x) i) (hb9 : 0 ≤ a ∧ a ≤ i) (hN_ : (be - i).toNat < N_) (ls : Array Slot) (hl : lv_has ls 4 [(0, .ref qC), (1, .int (iI (x))), (2, .int (iI (a))), (3, .int (iI (i)))]), W p l e (headSpec wsX0_belowsUnder ({ frames := 0, cells := 0, slots := 0, locals := 0 })).room s m ([.ref qC, .int (iI (x))] : List Value).toArray below meth c s.heap [] 0 0 (MQ below (xq (some (.int (iI (buZ bl be x))))) ([.ref qC, .int (iI (x))] : List Value).toArray s 0 0 (fun _ => False)) (F0 m 4 ls []) := by
    intro N_
    induction N_ with
    | zero => intro i a hi ha hb9 hN_ ls hl; exact absurd hN_ (Nat.not_lt_zero _)
    | succ N_ ih_4 =>
      intro i a hi ha hb9 hN_ ls hl
      refine lv_iload_n hx hb dX0_belowsUnder_4 rfl (lv_at hl 3 rfl) ?_
      refine lv_aload_n hx hb dX0_belowsUnder_5 rfl (lv_at hl 0 rfl) ?_
      refine va_get (D := D) (ci := 0) (C := RX0) (T := TX0) (N := 11) hx hb hts hcX0 hown hK hP 0 rfl rfl 4 (by decide) (hts (.fieldLink RX0 25 "WallMarks$Counted" "belows" "I") (List.mem_of_getElem? (i := 1) (by decide +kernel))) (fun _ h9 => h9) rfl dX0_belowsUnder_6 ?_
      refine xb_icmp_ge (tgt := 31) hx hb dX0_belowsUnder_9 (by decide) (by omega) (fun h_1 => ?_) (fun h_1 => ?_)
      · refine lv_iload_n hx hb dX0_belowsUnder_31 rfl (lv_at hl 2 rfl) ?_
        exact W.iret (v := iI (a)) hx hb hr (fun t_ ht_ _ => ⟨congrArg (fun z => Outcome.returned (some (Value.int (iI z)))) (show (a) = (buZ bl be x) from by rw [ha, show i = be from by omega]; rfl), ht_⟩) (fun _ h9 => absurd h9 List.not_mem_nil) dX0_belowsUnder_32
      · refine lv_aload_n hx hb dX0_belowsUnder_12 rfl (lv_at hl 0 rfl) ?_
        refine va_get (D := D) (ci := 0) (C := RX0) (T := TX0) (N := 11) hx hb hts hcX0 hown hK hP 0 rfl rfl 2 (by decide) (hts (.fieldLink RX0 18 "WallMarks$Counted" "belowLevels" "[I") (List.mem_of_getElem? (i := 2) (by decide +kernel))) (fun _ h9 => h9) rfl dX0_belowsUnder_13 ?_
        refine lv_iload_n hx hb dX0_belowsUnder_16 rfl (lv_at hl 3 rfl) ?_
        refine xi_ald (D := D) hx hb hK hP 1 0 rfl rfl (by decide) (by omega) dX0_belowsUnder_17 ?_
        have hr_2 := h_bl (i)
        refine lv_iload_n hx hb dX0_belowsUnder_18 rfl (lv_at hl 1 rfl) ?_
        refine xb_icmp_gt (tgt := 25) hx hb dX0_belowsUnder_19 (by decide) (by omega) (fun h_3 => ?_) (fun h_3 => ?_)
        · refine xi_inc (k := 3) (lv' := [(3, .int (iI (i + 1))), (0, .ref qC), (1, .int (iI (x))), (2, .int (iI (a)))]) hx hb dX0_belowsUnder_25 hl rfl (by decide) rfl (fun ls hl => ?_)
          refine lv_goto (tgt := 4) hx hb dX0_belowsUnder_28 (by decide) ?_
          exact ih_4 (i + 1) (a) (by first | assumption | omega | (constructor <;> omega)) (by first | (rw [cntZ_t (by omega) (by omega)]; omega) | (rw [cntZ_f (by omega) (by omega)]; omega) | rfl) (by first | assumption | omega | (constructor <;> omega)) (by omega) ls (lv_sub hl [1, 2, 3, 0] rfl)
        · refine xi_inc (k := 2) (lv' := [(2, .int (iI (a + 1))), (0, .ref qC), (1, .int (iI (x))), (3, .int (iI (i)))]) hx hb dX0_belowsUnder_22 hl rfl (by decide) rfl (fun ls hl => ?_)
          refine xi_inc (k := 3) (lv' := [(3, .int (iI (i + 1))), (2, .int (iI (a + 1))), (0, .ref qC), (1, .int (iI (x)))]) hx hb dX0_belowsUnder_25 hl rfl (by decide) rfl (fun ls hl => ?_)
          refine lv_goto (tgt := 4) hx hb dX0_belowsUnder_28 (by decide) ?_
          exact ih_4 (i + 1) (a + 1) (by first | assumption | omega | (constructor <;> omega)) (by first | (rw [cntZ_t (by omega) (by omega)]; omega) | (rw [cntZ_f (by omega) (by omega)]; omega) | rfl) (by first | assumption | omega | (constructor <;> omega)) (by omega) ls (lv_sub hl [2, 3, 1, 0] rfl)
  refine xi_const hx hb dX0_belowsUnder_0 ?_
  refine lv_istore_n (lv' := [(2, .int (iI (0))), (0, .ref qC), (1, .int (iI (x)))]) hx hb dX0_belowsUnder_1 rfl hl (by decide) rfl (fun ls hl => ?_)
  refine xi_const hx hb dX0_belowsUnder_2 ?_
  refine lv_istore_n (lv' := [(3, .int (iI (0))), (2, .int (iI (0))), (0, .ref qC), (1, .int (iI (x)))]) hx hb dX0_belowsUnder_3 rfl hl (by decide) rfl (fun ls hl => ?_)
  exact cut_4 ((be - 0 : Int).toNat + 1) (0) (0) (by first | assumption | omega | (constructor <;> omega)) (by first | (rw [cntZ_t (by omega) (by omega)]; omega) | (rw [cntZ_f (by omega) (by omega)]; omega) | rfl) (by first | assumption | omega | (constructor <;> omega)) (by exact Nat.lt_succ_self _) ls (lv_sub hl [2, 3, 1, 0] rfl)
set_option maxHeartbeats 1000000 in
set_option maxRecDepth 100000 in
theorem c_X0_unders (l : Launch) (D : va_G) (cyI cyJ cyO : ClassId) (qC : Nat) (qCy : Nat) (qCl : Nat) (qCb : Nat) (ex : Int) (be : Int) (op : Int) (es : Int) (ge : Int) (rc : Int) (lr : Int) (lw : Int) (el : Int → Int) (bl : Int → Int) (x : Int) (h_ex : 0 ≤ ex ∧ ex ≤ 60) (h_be : 0 ≤ be ∧ be ≤ 60) (h_op : 0 ≤ op ∧ op ≤ 60) (h_el : ∀ j, 0 ≤ el j ∧ el j ≤ 999) (h_bl : ∀ j, 0 ≤ bl j ∧ bl j ≤ 999) (h_x : -2147483648 ≤ x ∧ x ≤ 2147483647) : Met l yX0_unders wsX0_unders ({ frames := 1, cells := 0, slots := 0, locals := 23 }) (va_Pc [.ref qC, .int (iI (x))] (xR D vwCl [(qC, .inr (0, [.ref qCy, .ref qCl, .ref qCb, .int (iI (ex)), .int (iI (be)), .int (iI (op)), .int (iI (es)), .int (iI (ge)), .int (iI (rc)), .int (iI (lr)), .int (iI (lw))])), (qCl, .inl (cyI, 60, .inl (xA (el)))), (qCb, .inl (cyI, 60, .inl (xA (bl))))] (xT cyI cyJ cyO))) (xq (some (.int (iI (ex - ovZ el ex x + buZ bl be x))))) 0 0 (fun _ => False) := by
  refine Met.ofW (cc := cX0_unders) (maxL := 2) (ret := (some .int)) (by decide) rfl ?_
  intro p e s m args below meth c s₁ B hml hv
  obtain ⟨rfl, hP, hK⟩ := hv
  have hx := B.exec
  have hb := B.bytes
  have hr := B.returns
  have hts := atoms_spec (ws := wsX0_unders) B.pre
  have hown : s.vm.findClass RX0 = some m.cls := findClass_of_methodNamed B.named
  have hlocks := B.notSynchronized
  have hcX0 : ∀ w ∈ wsX00, w ∈ wsX0_unders := fun _ h => List.mem_cons_of_mem _ (List.mem_append_right _ h)
  have hP : va_P D vwCl [(qC, .inr (0, [.ref qCy, .ref qCl, .ref qCb, .int (iI (ex)), .int (iI (be)), .int (iI (op)), .int (iI (es)), .int (iI (ge)), .int (iI (rc)), .int (iI (lr)), .int (iI (lw))])), (qCl, .inl (cyI, 60, .inl (xA (el)))), (qCb, .inl (cyI, 60, .inl (xA (bl))))] s.heap := hP
  have hl := lv_entry ([.ref qC, .int (iI (x))]) (n := 2) (Nat.le_of_ble_eq_true rfl)
  rw [lg_entry_eq]
  generalize (lg_sl ([.ref qC, .int (iI (x))]) ++ List.replicate (2 - (lg_sl ([.ref qC, .int (iI (x))])).length) Slot.unset).toArray = ls at hl ⊢
  have hl : lv_has ls 2 [(0, .ref qC), (1, .int (iI (x)))] := hl
  refine lv_aload_n hx hb dX0_unders_0 rfl (lv_at hl 0 rfl) ?_
  refine va_get (D := D) (ci := 0) (C := RX0) (T := TX0) (N := 11) hx hb hts hcX0 hown hK hP 0 rfl rfl 3 (by decide) (hts (.fieldLink RX0 21 "WallMarks$Counted" "exacts" "I") (List.mem_of_getElem? (i := 1) (by decide +kernel))) (fun _ h9 => h9) rfl dX0_unders_1 ?_
  refine lv_aload_n hx hb dX0_unders_4 rfl (lv_at hl 0 rfl) ?_
  refine lv_iload_n hx hb dX0_unders_5 rfl (lv_at hl 1 rfl) ?_
  have hf_1 := ovZ_in el ex x (by omega)
  have hPc := hP.sub (ws' := [(qC, .inr (0, [.ref qCy, .ref qCl, .ref qCb, .int (iI (ex)), .int (iI (be)), .int (iI (op)), .int (iI (es)), .int (iI (ge)), .int (iI (rc)), .int (iI (lr)), .int (iI (lw))])), (qCl, .inl (cyI, 60, .inl (xA (el))))]) [0, 1] rfl
  refine xc_i (va_runV (As := [.int (iI (x))]) (rest := [.int (iI (ex))]) ⟨hx, hb, hml, hown, hts⟩ (c_X0_overs l D cyI cyJ cyO qC qCy qCl qCb ex be op es ge rc lr lw el x (by first | exact h_ex | assumption | omega) (by first | exact h_be | assumption | omega) (by first | exact h_op | assumption | omega) (by first | exact h_el | assumption | omega) (by first | exact h_x | assumption | omega)) (cwV 1 hts gX0_unders_X0_overs rfl rfl rfl (by decide +kernel) ⟨Nat.le_of_ble_eq_true rfl, Nat.le_of_ble_eq_true rfl⟩) (xpV hPc hK (ci := 0) (q0 := 0) (q := (RX0, TX0, 11)) rfl rfl) rfl rfl hl.1 rfl (lv_room (Nat.le_of_ble_eq_true rfl)) dX0_unders_6 ⟨Nat.le_of_ble_eq_true rfl, Nat.le_of_ble_eq_true rfl⟩) ?_
  refine xi_sub hx hb dX0_unders_9 ?_
  refine lv_aload_n hx hb dX0_unders_10 rfl (lv_at hl 0 rfl) ?_
  refine lv_iload_n hx hb dX0_unders_11 rfl (lv_at hl 1 rfl) ?_
  have hf_2 := buZ_in bl be x (by omega)
  have hPc := hP.sub (ws' := [(qC, .inr (0, [.ref qCy, .ref qCl, .ref qCb, .int (iI (ex)), .int (iI (be)), .int (iI (op)), .int (iI (es)), .int (iI (ge)), .int (iI (rc)), .int (iI (lr)), .int (iI (lw))])), (qCb, .inl (cyI, 60, .inl (xA (bl))))]) [0, 2] rfl
  refine xc_i (va_runV (As := [.int (iI (x))]) (rest := [.int (iI (ex - (ovZ el ex x)))]) ⟨hx, hb, hml, hown, hts⟩ (c_X0_belowsUnder l D cyI cyJ cyO qC qCy qCl qCb ex be op es ge rc lr lw bl x (by first | exact h_ex | assumption | omega) (by first | exact h_be | assumption | omega) (by first | exact h_op | assumption | omega) (by first | exact h_bl | assumption | omega) (by first | exact h_x | assumption | omega)) (cwV 1 hts gX0_unders_X0_belowsUnder rfl rfl rfl (by decide +kernel) ⟨Nat.le_of_ble_eq_true rfl, Nat.le_of_ble_eq_true rfl⟩) (xpV hPc hK (ci := 0) (q0 := 0) (q := (RX0, TX0, 11)) rfl rfl) rfl rfl hl.1 rfl (lv_room (Nat.le_of_ble_eq_true rfl)) dX0_unders_12 ⟨Nat.le_of_ble_eq_true rfl, Nat.le_of_ble_eq_true rfl⟩) ?_
  refine xi_add hx hb dX0_unders_15 ?_
  exact W.iret (v := iI ((ex - (ovZ el ex x)) + (buZ bl be x))) hx hb hr (fun t_ ht_ _ => ⟨congrArg (fun z => Outcome.returned (some (Value.int (iI z)))) (show ((ex - (ovZ el ex x)) + (buZ bl be x)) = (ex - ovZ el ex x + buZ bl be x) from by first | rfl | omega), ht_⟩) (fun _ h9 => absurd h9 List.not_mem_nil) dX0_unders_16
set_option maxHeartbeats 1000000 in
set_option maxRecDepth 100000 in
theorem c_X0_darks (l : Launch) (D : va_G) (cyI cyJ cyO : ClassId) (qC : Nat) (qCy : Nat) (qCl : Nat) (qCb : Nat) (ex : Int) (be : Int) (op : Int) (es : Int) (ge : Int) (rc : Int) (lr : Int) (lw : Int) (bl : Int → Int) (x : Int) (h_ex : 0 ≤ ex ∧ ex ≤ 60) (h_be : 0 ≤ be ∧ be ≤ 60) (h_op : 0 ≤ op ∧ op ≤ 60) (h_bl : ∀ j, 0 ≤ bl j ∧ bl j ≤ 999) (h_x : -2147483648 ≤ x ∧ x ≤ 2147483647) : Met l yX0_darks wsX0_darks ({ frames := 1, cells := 0, slots := 0, locals := 23 }) (va_Pc [.ref qC, .int (iI (x))] (xR D vwCl [(qC, .inr (0, [.ref qCy, .ref qCl, .ref qCb, .int (iI (ex)), .int (iI (be)), .int (iI (op)), .int (iI (es)), .int (iI (ge)), .int (iI (rc)), .int (iI (lr)), .int (iI (lw))])), (qCb, .inl (cyI, 60, .inl (xA (bl))))] (xT cyI cyJ cyO))) (xq (some (.int (iI (op + be - buZ bl be x))))) 0 0 (fun _ => False) := by
  refine Met.ofW (cc := cX0_darks) (maxL := 2) (ret := (some .int)) (by decide) rfl ?_
  intro p e s m args below meth c s₁ B hml hv
  obtain ⟨rfl, hP, hK⟩ := hv
  have hx := B.exec
  have hb := B.bytes
  have hr := B.returns
  have hts := atoms_spec (ws := wsX0_darks) B.pre
  have hown : s.vm.findClass RX0 = some m.cls := findClass_of_methodNamed B.named
  have hlocks := B.notSynchronized
  have hcX0 : ∀ w ∈ wsX00, w ∈ wsX0_darks := fun _ h => List.mem_cons_of_mem _ (List.mem_append_right _ h)
  have hP : va_P D vwCl [(qC, .inr (0, [.ref qCy, .ref qCl, .ref qCb, .int (iI (ex)), .int (iI (be)), .int (iI (op)), .int (iI (es)), .int (iI (ge)), .int (iI (rc)), .int (iI (lr)), .int (iI (lw))])), (qCb, .inl (cyI, 60, .inl (xA (bl))))] s.heap := hP
  have hl := lv_entry ([.ref qC, .int (iI (x))]) (n := 2) (Nat.le_of_ble_eq_true rfl)
  rw [lg_entry_eq]
  generalize (lg_sl ([.ref qC, .int (iI (x))]) ++ List.replicate (2 - (lg_sl ([.ref qC, .int (iI (x))])).length) Slot.unset).toArray = ls at hl ⊢
  have hl : lv_has ls 2 [(0, .ref qC), (1, .int (iI (x)))] := hl
  refine lv_aload_n hx hb dX0_darks_0 rfl (lv_at hl 0 rfl) ?_
  refine va_get (D := D) (ci := 0) (C := RX0) (T := TX0) (N := 11) hx hb hts hcX0 hown hK hP 0 rfl rfl 5 (by decide) (hts (.fieldLink RX0 28 "WallMarks$Counted" "opens" "I") (List.mem_of_getElem? (i := 1) (by decide +kernel))) (fun _ h9 => h9) rfl dX0_darks_1 ?_
  refine lv_aload_n hx hb dX0_darks_4 rfl (lv_at hl 0 rfl) ?_
  refine va_get (D := D) (ci := 0) (C := RX0) (T := TX0) (N := 11) hx hb hts hcX0 hown hK hP 0 rfl rfl 4 (by decide) (hts (.fieldLink RX0 25 "WallMarks$Counted" "belows" "I") (List.mem_of_getElem? (i := 2) (by decide +kernel))) (fun _ h9 => h9) rfl dX0_darks_5 ?_
  refine xi_add hx hb dX0_darks_8 ?_
  refine lv_aload_n hx hb dX0_darks_9 rfl (lv_at hl 0 rfl) ?_
  refine lv_iload_n hx hb dX0_darks_10 rfl (lv_at hl 1 rfl) ?_
  have hf_1 := buZ_in bl be x (by omega)
  have hPc := hP.sub (ws' := [(qC, .inr (0, [.ref qCy, .ref qCl, .ref qCb, .int (iI (ex)), .int (iI (be)), .int (iI (op)), .int (iI (es)), .int (iI (ge)), .int (iI (rc)), .int (iI (lr)), .int (iI (lw))])), (qCb, .inl (cyI, 60, .inl (xA (bl))))]) [0, 1] rfl
  refine xc_i (va_runV (As := [.int (iI (x))]) (rest := [.int (iI (op + be))]) ⟨hx, hb, hml, hown, hts⟩ (c_X0_belowsUnder l D cyI cyJ cyO qC qCy qCl qCb ex be op es ge rc lr lw bl x (by first | exact h_ex | assumption | omega) (by first | exact h_be | assumption | omega) (by first | exact h_op | assumption | omega) (by first | exact h_bl | assumption | omega) (by first | exact h_x | assumption | omega)) (cwV 1 hts gX0_darks_X0_belowsUnder rfl rfl rfl (by decide +kernel) ⟨Nat.le_of_ble_eq_true rfl, Nat.le_of_ble_eq_true rfl⟩) (xpV hPc hK (ci := 0) (q0 := 0) (q := (RX0, TX0, 11)) rfl rfl) rfl rfl hl.1 rfl (lv_room (Nat.le_of_ble_eq_true rfl)) dX0_darks_11 ⟨Nat.le_of_ble_eq_true rfl, Nat.le_of_ble_eq_true rfl⟩) ?_
  refine xi_sub hx hb dX0_darks_14 ?_
  exact W.iret (v := iI ((op + be) - (buZ bl be x))) hx hb hr (fun t_ ht_ _ => ⟨congrArg (fun z => Outcome.returned (some (Value.int (iI z)))) (show ((op + be) - (buZ bl be x)) = (op + be - buZ bl be x) from by first | rfl | omega), ht_⟩) (fun _ h9 => absurd h9 List.not_mem_nil) dX0_darks_15
set_option maxHeartbeats 1000000 in
set_option maxRecDepth 100000 in
theorem c_X0_rareBelow (l : Launch) (D : va_G) (cyI cyJ cyO : ClassId) (qC : Nat) (qCy : Nat) (qCl : Nat) (qCb : Nat) (ex : Int) (be : Int) (op : Int) (es : Int) (ge : Int) (rc : Int) (lr : Int) (lw : Int) (bl : Int → Int) (x : Int) (h_ex : 0 ≤ ex ∧ ex ≤ 60) (h_be : 0 ≤ be ∧ be ≤ 60) (h_op : 0 ≤ op ∧ op ≤ 60) (h_bl : ∀ j, 0 ≤ bl j ∧ bl j ≤ 999) (h_x : -2147483648 ≤ x ∧ x ≤ 2147483647) : Met l yX0_rareBelow wsX0_rareBelow ({ frames := 1, cells := 0, slots := 0, locals := 23 }) (va_Pc [.ref qC, .int (iI (x))] (xR D vwCl [(qC, .inr (0, [.ref qCy, .ref qCl, .ref qCb, .int (iI (ex)), .int (iI (be)), .int (iI (op)), .int (iI (es)), .int (iI (ge)), .int (iI (rc)), .int (iI (lr)), .int (iI (lw))])), (qCb, .inl (cyI, 60, .inl (xA (bl))))] (xT cyI cyJ cyO))) (xq (some (.int (iI (ex + buZ bl be x + 1))))) 0 0 (fun _ => False) := by
  refine Met.ofW (cc := cX0_rareBelow) (maxL := 2) (ret := (some .int)) (by decide) rfl ?_
  intro p e s m args below meth c s₁ B hml hv
  obtain ⟨rfl, hP, hK⟩ := hv
  have hx := B.exec
  have hb := B.bytes
  have hr := B.returns
  have hts := atoms_spec (ws := wsX0_rareBelow) B.pre
  have hown : s.vm.findClass RX0 = some m.cls := findClass_of_methodNamed B.named
  have hlocks := B.notSynchronized
  have hcX0 : ∀ w ∈ wsX00, w ∈ wsX0_rareBelow := fun _ h => List.mem_cons_of_mem _ (List.mem_append_right _ h)
  have hP : va_P D vwCl [(qC, .inr (0, [.ref qCy, .ref qCl, .ref qCb, .int (iI (ex)), .int (iI (be)), .int (iI (op)), .int (iI (es)), .int (iI (ge)), .int (iI (rc)), .int (iI (lr)), .int (iI (lw))])), (qCb, .inl (cyI, 60, .inl (xA (bl))))] s.heap := hP
  have hl := lv_entry ([.ref qC, .int (iI (x))]) (n := 2) (Nat.le_of_ble_eq_true rfl)
  rw [lg_entry_eq]
  generalize (lg_sl ([.ref qC, .int (iI (x))]) ++ List.replicate (2 - (lg_sl ([.ref qC, .int (iI (x))])).length) Slot.unset).toArray = ls at hl ⊢
  have hl : lv_has ls 2 [(0, .ref qC), (1, .int (iI (x)))] := hl
  refine lv_aload_n hx hb dX0_rareBelow_0 rfl (lv_at hl 0 rfl) ?_
  refine va_get (D := D) (ci := 0) (C := RX0) (T := TX0) (N := 11) hx hb hts hcX0 hown hK hP 0 rfl rfl 3 (by decide) (hts (.fieldLink RX0 21 "WallMarks$Counted" "exacts" "I") (List.mem_of_getElem? (i := 1) (by decide +kernel))) (fun _ h9 => h9) rfl dX0_rareBelow_1 ?_
  refine lv_aload_n hx hb dX0_rareBelow_4 rfl (lv_at hl 0 rfl) ?_
  refine lv_iload_n hx hb dX0_rareBelow_5 rfl (lv_at hl 1 rfl) ?_
  have hf_1 := buZ_in bl be x (by omega)
  have hPc := hP.sub (ws' := [(qC, .inr (0, [.ref qCy, .ref qCl, .ref qCb, .int (iI (ex)), .int (iI (be)), .int (iI (op)), .int (iI (es)), .int (iI (ge)), .int (iI (rc)), .int (iI (lr)), .int (iI (lw))])), (qCb, .inl (cyI, 60, .inl (xA (bl))))]) [0, 1] rfl
  refine xc_i (va_runV (As := [.int (iI (x))]) (rest := [.int (iI (ex))]) ⟨hx, hb, hml, hown, hts⟩ (c_X0_belowsUnder l D cyI cyJ cyO qC qCy qCl qCb ex be op es ge rc lr lw bl x (by first | exact h_ex | assumption | omega) (by first | exact h_be | assumption | omega) (by first | exact h_op | assumption | omega) (by first | exact h_bl | assumption | omega) (by first | exact h_x | assumption | omega)) (cwV 1 hts gX0_rareBelow_X0_belowsUnder rfl rfl rfl (by decide +kernel) ⟨Nat.le_of_ble_eq_true rfl, Nat.le_of_ble_eq_true rfl⟩) (xpV hPc hK (ci := 0) (q0 := 0) (q := (RX0, TX0, 11)) rfl rfl) rfl rfl hl.1 rfl (lv_room (Nat.le_of_ble_eq_true rfl)) dX0_rareBelow_6 ⟨Nat.le_of_ble_eq_true rfl, Nat.le_of_ble_eq_true rfl⟩) ?_
  refine xi_add hx hb dX0_rareBelow_9 ?_
  refine xi_const hx hb dX0_rareBelow_10 ?_
  refine xi_add hx hb dX0_rareBelow_11 ?_
  exact W.iret (v := iI ((ex + (buZ bl be x)) + 1)) hx hb hr (fun t_ ht_ _ => ⟨congrArg (fun z => Outcome.returned (some (Value.int (iI z)))) (show ((ex + (buZ bl be x)) + 1) = (ex + buZ bl be x + 1) from by first | rfl | omega), ht_⟩) (fun _ h9 => absurd h9 List.not_mem_nil) dX0_rareBelow_12
set_option maxHeartbeats 1000000 in
set_option maxRecDepth 100000 in
theorem c_X0_steps (l : Launch) (D : va_G) (cyI cyJ cyO : ClassId) (qC : Nat) (qCy : Nat) (qCl : Nat) (qCb : Nat) (ex : Int) (be : Int) (op : Int) (es : Int) (ge : Int) (rc : Int) (lr : Int) (lw : Int) (h_ex : 0 ≤ ex ∧ ex ≤ 60) (h_be : 0 ≤ be ∧ be ≤ 60) (h_op : 0 ≤ op ∧ op ≤ 60) : Met l yX0_steps wsX0_steps ({ frames := 0, cells := 0, slots := 0, locals := 0 }) (va_Pc [.ref qC] (xR D vwCl [(qC, .inr (0, [.ref qCy, .ref qCl, .ref qCb, .int (iI (ex)), .int (iI (be)), .int (iI (op)), .int (iI (es)), .int (iI (ge)), .int (iI (rc)), .int (iI (lr)), .int (iI (lw))]))] (xT cyI cyJ cyO))) (xq (some (.int (iI (ex + be))))) 0 0 (fun _ => False) := by
  refine Met.ofW (cc := cX0_steps) (maxL := 1) (ret := (some .int)) (by decide) rfl ?_
  intro p e s m args below meth c s₁ B hml hv
  obtain ⟨rfl, hP, hK⟩ := hv
  have hx := B.exec
  have hb := B.bytes
  have hr := B.returns
  have hts := atoms_spec (ws := wsX0_steps) B.pre
  have hown : s.vm.findClass RX0 = some m.cls := findClass_of_methodNamed B.named
  have hlocks := B.notSynchronized
  have hcX0 : ∀ w ∈ wsX00, w ∈ wsX0_steps := fun _ h => List.mem_cons_of_mem _ (List.mem_append_right _ h)
  have hP : va_P D vwCl [(qC, .inr (0, [.ref qCy, .ref qCl, .ref qCb, .int (iI (ex)), .int (iI (be)), .int (iI (op)), .int (iI (es)), .int (iI (ge)), .int (iI (rc)), .int (iI (lr)), .int (iI (lw))]))] s.heap := hP
  have hl := lv_entry ([.ref qC]) (n := 1) (Nat.le_of_ble_eq_true rfl)
  rw [lg_entry_eq]
  generalize (lg_sl ([.ref qC]) ++ List.replicate (1 - (lg_sl ([.ref qC])).length) Slot.unset).toArray = ls at hl ⊢
  have hl : lv_has ls 1 [(0, .ref qC)] := hl
  refine lv_aload_n hx hb dX0_steps_0 rfl (lv_at hl 0 rfl) ?_
  refine va_get (D := D) (ci := 0) (C := RX0) (T := TX0) (N := 11) hx hb hts hcX0 hown hK hP 0 rfl rfl 3 (by decide) (hts (.fieldLink RX0 21 "WallMarks$Counted" "exacts" "I") (List.mem_of_getElem? (i := 1) (by decide +kernel))) (fun _ h9 => h9) rfl dX0_steps_1 ?_
  refine lv_aload_n hx hb dX0_steps_4 rfl (lv_at hl 0 rfl) ?_
  refine va_get (D := D) (ci := 0) (C := RX0) (T := TX0) (N := 11) hx hb hts hcX0 hown hK hP 0 rfl rfl 4 (by decide) (hts (.fieldLink RX0 25 "WallMarks$Counted" "belows" "I") (List.mem_of_getElem? (i := 2) (by decide +kernel))) (fun _ h9 => h9) rfl dX0_steps_5 ?_
  refine xi_add hx hb dX0_steps_8 ?_
  exact W.iret (v := iI (ex + be)) hx hb hr (fun t_ ht_ _ => ⟨congrArg (fun z => Outcome.returned (some (Value.int (iI z)))) rfl, ht_⟩) (fun _ h9 => absurd h9 List.not_mem_nil) dX0_steps_9
set_option maxHeartbeats 1000000 in
set_option maxRecDepth 100000 in
theorem c_X0_stepAt (l : Launch) (D : va_G) (cyI cyJ cyO : ClassId) (qC : Nat) (qCy : Nat) (qCl : Nat) (qCb : Nat) (ex : Int) (be : Int) (op : Int) (es : Int) (ge : Int) (rc : Int) (lr : Int) (lw : Int) (el : Int → Int) (bl : Int → Int) (i : Int) (h_ex : 0 ≤ ex ∧ ex ≤ 60) (h_be : 0 ≤ be ∧ be ≤ 60) (h_op : 0 ≤ op ∧ op ≤ 60) (h_el : ∀ j, 0 ≤ el j ∧ el j ≤ 999) (h_bl : ∀ j, 0 ≤ bl j ∧ bl j ≤ 999) (h_i : -2147483648 ≤ i ∧ i ≤ 2147483647) : Met l yX0_stepAt wsX0_stepAt ({ frames := 1, cells := 0, slots := 0, locals := 20 }) (va_Pc [.ref qC, .int (iI (i))] (xR D vwCl [(qC, .inr (0, [.ref qCy, .ref qCl, .ref qCb, .int (iI (ex)), .int (iI (be)), .int (iI (op)), .int (iI (es)), .int (iI (ge)), .int (iI (rc)), .int (iI (lr)), .int (iI (lw))])), (qCl, .inl (cyI, 60, .inl (xA (el)))), (qCb, .inl (cyI, 60, .inl (xA (bl))))] (xT cyI cyJ cyO))) (xq (some (.int (iI (stepf ex be el bl i))))) 0 0 (fun _ => False) := by
  refine Met.ofW (cc := cX0_stepAt) (maxL := 2) (ret := (some .int)) (by decide) rfl ?_
  intro p e s m args below meth c s₁ B hml hv
  obtain ⟨rfl, hP, hK⟩ := hv
  have hx := B.exec
  have hb := B.bytes
  have hr := B.returns
  have hts := atoms_spec (ws := wsX0_stepAt) B.pre
  have hown : s.vm.findClass RX0 = some m.cls := findClass_of_methodNamed B.named
  have hlocks := B.notSynchronized
  have hcX0 : ∀ w ∈ wsX00, w ∈ wsX0_stepAt := fun _ h => List.mem_cons_of_mem _ (List.mem_append_right _ h)
  have hP : va_P D vwCl [(qC, .inr (0, [.ref qCy, .ref qCl, .ref qCb, .int (iI (ex)), .int (iI (be)), .int (iI (op)), .int (iI (es)), .int (iI (ge)), .int (iI (rc)), .int (iI (lr)), .int (iI (lw))])), (qCl, .inl (cyI, 60, .inl (xA (el)))), (qCb, .inl (cyI, 60, .inl (xA (bl))))] s.heap := hP
  have hl := lv_entry ([.ref qC, .int (iI (i))]) (n := 2) (Nat.le_of_ble_eq_true rfl)
  rw [lg_entry_eq]
  generalize (lg_sl ([.ref qC, .int (iI (i))]) ++ List.replicate (2 - (lg_sl ([.ref qC, .int (iI (i))])).length) Slot.unset).toArray = ls at hl ⊢
  have hl : lv_has ls 2 [(0, .ref qC), (1, .int (iI (i)))] := hl
  refine lv_iload_n hx hb dX0_stepAt_0 rfl (lv_at hl 1 rfl) ?_
  refine xb_if_lt (tgt := 12) hx hb dX0_stepAt_1 (by decide) (by omega) (fun h_1 => ?_) (fun h_1 => ?_)
  · refine xi_const hx hb dX0_stepAt_12 ?_
    exact W.iret (v := iI (0)) hx hb hr (fun t_ ht_ _ => ⟨congrArg (fun z => Outcome.returned (some (Value.int (iI z)))) (show (0) = (stepf ex be el bl i) from by unfold stepf; first | rw [if_pos (by omega)] | rw [if_neg (by omega), if_pos (by omega)] | rw [if_neg (by omega), if_neg (by omega)]), ht_⟩) (fun _ h9 => absurd h9 List.not_mem_nil) dX0_stepAt_13
  · refine lv_iload_n hx hb dX0_stepAt_4 rfl (lv_at hl 1 rfl) ?_
    refine lv_aload_n hx hb dX0_stepAt_5 rfl (lv_at hl 0 rfl) ?_
    have hPc := hP.sub (ws' := [(qC, .inr (0, [.ref qCy, .ref qCl, .ref qCb, .int (iI (ex)), .int (iI (be)), .int (iI (op)), .int (iI (es)), .int (iI (ge)), .int (iI (rc)), .int (iI (lr)), .int (iI (lw))]))]) [0] rfl
    refine xc_i (va_runV (As := []) (rest := [.int (iI (i))]) ⟨hx, hb, hml, hown, hts⟩ (c_X0_steps l D cyI cyJ cyO qC qCy qCl qCb ex be op es ge rc lr lw (by first | exact h_ex | assumption | omega) (by first | exact h_be | assumption | omega) (by first | exact h_op | assumption | omega)) (cwV 0 hts gX0_stepAt_X0_steps rfl rfl rfl (by decide +kernel) ⟨Nat.le_of_ble_eq_true rfl, Nat.le_of_ble_eq_true rfl⟩) (xpV hPc hK (ci := 0) (q0 := 0) (q := (RX0, TX0, 11)) rfl rfl) rfl rfl hl.1 rfl (lv_room (Nat.le_of_ble_eq_true rfl)) dX0_stepAt_6 ⟨Nat.le_of_ble_eq_true rfl, Nat.le_of_ble_eq_true rfl⟩) ?_
    refine xb_icmp_lt (tgt := 14) hx hb dX0_stepAt_9 (by decide) (by omega) (fun h_2 => ?_) (fun h_2 => ?_)
    · refine lv_iload_n hx hb dX0_stepAt_14 rfl (lv_at hl 1 rfl) ?_
      refine lv_aload_n hx hb dX0_stepAt_15 rfl (lv_at hl 0 rfl) ?_
      refine va_get (D := D) (ci := 0) (C := RX0) (T := TX0) (N := 11) hx hb hts hcX0 hown hK hP 0 rfl rfl 3 (by decide) (hts (.fieldLink RX0 21 "WallMarks$Counted" "exacts" "I") (List.mem_of_getElem? (i := 1) (by decide +kernel))) (fun _ h9 => h9) rfl dX0_stepAt_16 ?_
      refine xb_icmp_ge (tgt := 33) hx hb dX0_stepAt_19 (by decide) (by omega) (fun h_3 => ?_) (fun h_3 => ?_)
      · refine lv_aload_n hx hb dX0_stepAt_33 rfl (lv_at hl 0 rfl) ?_
        refine va_get (D := D) (ci := 0) (C := RX0) (T := TX0) (N := 11) hx hb hts hcX0 hown hK hP 0 rfl rfl 2 (by decide) (hts (.fieldLink RX0 18 "WallMarks$Counted" "belowLevels" "[I") (List.mem_of_getElem? (i := 3) (by decide +kernel))) (fun _ h9 => h9) rfl dX0_stepAt_34 ?_
        refine lv_iload_n hx hb dX0_stepAt_37 rfl (lv_at hl 1 rfl) ?_
        refine lv_aload_n hx hb dX0_stepAt_38 rfl (lv_at hl 0 rfl) ?_
        refine va_get (D := D) (ci := 0) (C := RX0) (T := TX0) (N := 11) hx hb hts hcX0 hown hK hP 0 rfl rfl 3 (by decide) (hts (.fieldLink RX0 21 "WallMarks$Counted" "exacts" "I") (List.mem_of_getElem? (i := 1) (by decide +kernel))) (fun _ h9 => h9) rfl dX0_stepAt_39 ?_
        refine xi_sub hx hb dX0_stepAt_42 ?_
        refine xi_ald (D := D) hx hb hK hP 2 0 rfl rfl (by decide) (by omega) dX0_stepAt_43 ?_
        have hr_4 := h_bl (i - ex)
        exact W.iret (v := iI (bl (i - ex))) hx hb hr (fun t_ ht_ _ => ⟨congrArg (fun z => Outcome.returned (some (Value.int (iI z)))) (show (bl (i - ex)) = (stepf ex be el bl i) from by unfold stepf; first | rw [if_pos (by omega)] | rw [if_neg (by omega), if_pos (by omega)] | rw [if_neg (by omega), if_neg (by omega)]), ht_⟩) (fun _ h9 => absurd h9 List.not_mem_nil) dX0_stepAt_44
      · refine lv_aload_n hx hb dX0_stepAt_22 rfl (lv_at hl 0 rfl) ?_
        refine va_get (D := D) (ci := 0) (C := RX0) (T := TX0) (N := 11) hx hb hts hcX0 hown hK hP 0 rfl rfl 1 (by decide) (hts (.fieldLink RX0 15 "WallMarks$Counted" "exactLevels" "[I") (List.mem_of_getElem? (i := 2) (by decide +kernel))) (fun _ h9 => h9) rfl dX0_stepAt_23 ?_
        refine lv_iload_n hx hb dX0_stepAt_26 rfl (lv_at hl 1 rfl) ?_
        refine xi_ald (D := D) hx hb hK hP 1 0 rfl rfl (by decide) (by omega) dX0_stepAt_27 ?_
        have hr_5 := h_el (i)
        refine xi_const hx hb dX0_stepAt_28 ?_
        refine xi_add hx hb dX0_stepAt_29 ?_
        refine lv_goto (tgt := 44) hx hb dX0_stepAt_30 (by decide) ?_
        exact W.iret (v := iI ((el (i)) + 1)) hx hb hr (fun t_ ht_ _ => ⟨congrArg (fun z => Outcome.returned (some (Value.int (iI z)))) (show ((el (i)) + 1) = (stepf ex be el bl i) from by unfold stepf; first | rw [if_pos (by omega)] | rw [if_neg (by omega), if_pos (by omega)] | rw [if_neg (by omega), if_neg (by omega)]), ht_⟩) (fun _ h9 => absurd h9 List.not_mem_nil) dX0_stepAt_44
    · refine xi_const hx hb dX0_stepAt_12 ?_
      exact W.iret (v := iI (0)) hx hb hr (fun t_ ht_ _ => ⟨congrArg (fun z => Outcome.returned (some (Value.int (iI z)))) (show (0) = (stepf ex be el bl i) from by unfold stepf; first | rw [if_pos (by omega)] | rw [if_neg (by omega), if_pos (by omega)] | rw [if_neg (by omega), if_neg (by omega)]), ht_⟩) (fun _ h9 => absurd h9 List.not_mem_nil) dX0_stepAt_13
set_option maxHeartbeats 1000000 in
set_option maxRecDepth 100000 in
theorem c_X0_exactsAhead (l : Launch) (D : va_G) (cyI cyJ cyO : ClassId) (qC : Nat) (qCy : Nat) (qCl : Nat) (qCb : Nat) (ex : Int) (be : Int) (op : Int) (es : Int) (ge : Int) (rc : Int) (lr : Int) (lw : Int) (ey : Int → Int) (y : Int) (h_ex : 0 ≤ ex ∧ ex ≤ 60) (h_be : 0 ≤ be ∧ be ≤ 60) (h_op : 0 ≤ op ∧ op ≤ 60) (h_ey : ∀ j, 0 ≤ ey j ∧ ey j ≤ 59) (h_y : -2147483648 ≤ y ∧ y ≤ 2147483647) : Met l yX0_exactsAhead wsX0_exactsAhead ({ frames := 0, cells := 0, slots := 0, locals := 0 }) (va_Pc [.ref qC, .int (iI (y))] (xR D vwCl [(qC, .inr (0, [.ref qCy, .ref qCl, .ref qCb, .int (iI (ex)), .int (iI (be)), .int (iI (op)), .int (iI (es)), .int (iI (ge)), .int (iI (rc)), .int (iI (lr)), .int (iI (lw))])), (qCy, .inl (cyI, 60, .inl (xA (ey))))] (xT cyI cyJ cyO))) (xq (some (.int (iI (ahZ ey ex y))))) 0 0 (fun _ => False) := by
  refine Met.ofW (cc := cX0_exactsAhead) (maxL := 4) (ret := (some .int)) (by decide) rfl ?_
  intro p e s m args below meth c s₁ B hml hv
  obtain ⟨rfl, hP, hK⟩ := hv
  have hx := B.exec
  have hb := B.bytes
  have hr := B.returns
  have hts := atoms_spec (ws := wsX0_exactsAhead) B.pre
  have hown : s.vm.findClass RX0 = some m.cls := findClass_of_methodNamed B.named
  have hlocks := B.notSynchronized
  have hcX0 : ∀ w ∈ wsX00, w ∈ wsX0_exactsAhead := fun _ h => List.mem_cons_of_mem _ (List.mem_append_right _ h)
  have hP : va_P D vwCl [(qC, .inr (0, [.ref qCy, .ref qCl, .ref qCb, .int (iI (ex)), .int (iI (be)), .int (iI (op)), .int (iI (es)), .int (iI (ge)), .int (iI (rc)), .int (iI (lr)), .int (iI (lw))])), (qCy, .inl (cyI, 60, .inl (xA (ey))))] s.heap := hP
  have hl := lv_entry ([.ref qC, .int (iI (y))]) (n := 4) (Nat.le_of_ble_eq_true rfl)
  rw [lg_entry_eq]
  generalize (lg_sl ([.ref qC, .int (iI (y))]) ++ List.replicate (4 - (lg_sl ([.ref qC, .int (iI (y))])).length) Slot.unset).toArray = ls at hl ⊢
  have hl : lv_has ls 4 [(0, .ref qC), (1, .int (iI (y)))] := hl
  have cut_4 : ∀ (N_ : Nat) (i : Int) (a : Int) (hi : 0 ≤ i ∧ i ≤ ex) (ha : a = cntZ (fun j => ey j < y) i) (hb9 : 0 ≤ a ∧ a ≤ i) (hN_ : (ex - i).toNat < N_) (ls : Array Slot) (hl : lv_has ls 4 [(0, .ref qC), (1, .int (iI (y))), (2, .int (iI (a))), (3, .int (iI (i)))]), W p l e (headSpec wsX0_exactsAhead ({ frames := 0, cells := 0, slots := 0, locals := 0 })).room s m ([.ref qC, .int (iI (y))] : List Value).toArray below meth c s.heap [] 0 0 (MQ below (xq (some (.int (iI (ahZ ey ex y))))) ([.ref qC, .int (iI (y))] : List Value).toArray s 0 0 (fun _ => False)) (F0 m 4 ls []) := by
    intro N_
    induction N_ with
    | zero => intro i a hi ha hb9 hN_ ls hl; exact absurd hN_ (Nat.not_lt_zero _)
    | succ N_ ih_4 =>
      intro i a hi ha hb9 hN_ ls hl
      refine lv_iload_n hx hb dX0_exactsAhead_4 rfl (lv_at hl 3 rfl) ?_
      refine lv_aload_n hx hb dX0_exactsAhead_5 rfl (lv_at hl 0 rfl) ?_
      refine va_get (D := D) (ci := 0) (C := RX0) (T := TX0) (N := 11) hx hb hts hcX0 hown hK hP 0 rfl rfl 3 (by decide) (hts (.fieldLink RX0 21 "WallMarks$Counted" "exacts" "I") (List.mem_of_getElem? (i := 1) (by decide +kernel))) (fun _ h9 => h9) rfl dX0_exactsAhead_6 ?_
      refine xb_icmp_ge (tgt := 31) hx hb dX0_exactsAhead_9 (by decide) (by omega) (fun h_1 => ?_) (fun h_1 => ?_)
      · refine lv_iload_n hx hb dX0_exactsAhead_31 rfl (lv_at hl 2 rfl) ?_
        exact W.iret (v := iI (a)) hx hb hr (fun t_ ht_ _ => ⟨congrArg (fun z => Outcome.returned (some (Value.int (iI z)))) (show (a) = (ahZ ey ex y) from by rw [ha, show i = ex from by omega]; rfl), ht_⟩) (fun _ h9 => absurd h9 List.not_mem_nil) dX0_exactsAhead_32
      · refine lv_aload_n hx hb dX0_exactsAhead_12 rfl (lv_at hl 0 rfl) ?_
        refine va_get (D := D) (ci := 0) (C := RX0) (T := TX0) (N := 11) hx hb hts hcX0 hown hK hP 0 rfl rfl 0 (by decide) (hts (.fieldLink RX0 9 "WallMarks$Counted" "exactYears" "[I") (List.mem_of_getElem? (i := 2) (by decide +kernel))) (fun _ h9 => h9) rfl dX0_exactsAhead_13 ?_
        refine lv_iload_n hx hb dX0_exactsAhead_16 rfl (lv_at hl 3 rfl) ?_
        refine xi_ald (D := D) hx hb hK hP 1 0 rfl rfl (by decide) (by omega) dX0_exactsAhead_17 ?_
        have hr_2 := h_ey (i)
        refine lv_iload_n hx hb dX0_exactsAhead_18 rfl (lv_at hl 1 rfl) ?_
        refine xb_icmp_ge (tgt := 25) hx hb dX0_exactsAhead_19 (by decide) (by omega) (fun h_3 => ?_) (fun h_3 => ?_)
        · refine xi_inc (k := 3) (lv' := [(3, .int (iI (i + 1))), (0, .ref qC), (1, .int (iI (y))), (2, .int (iI (a)))]) hx hb dX0_exactsAhead_25 hl rfl (by decide) rfl (fun ls hl => ?_)
          refine lv_goto (tgt := 4) hx hb dX0_exactsAhead_28 (by decide) ?_
          exact ih_4 (i + 1) (a) (by first | assumption | omega | (constructor <;> omega)) (by first | (rw [cntZ_t (by omega) (by omega)]; omega) | (rw [cntZ_f (by omega) (by omega)]; omega) | rfl) (by first | assumption | omega | (constructor <;> omega)) (by omega) ls (lv_sub hl [1, 2, 3, 0] rfl)
        · refine xi_inc (k := 2) (lv' := [(2, .int (iI (a + 1))), (0, .ref qC), (1, .int (iI (y))), (3, .int (iI (i)))]) hx hb dX0_exactsAhead_22 hl rfl (by decide) rfl (fun ls hl => ?_)
          refine xi_inc (k := 3) (lv' := [(3, .int (iI (i + 1))), (2, .int (iI (a + 1))), (0, .ref qC), (1, .int (iI (y)))]) hx hb dX0_exactsAhead_25 hl rfl (by decide) rfl (fun ls hl => ?_)
          refine lv_goto (tgt := 4) hx hb dX0_exactsAhead_28 (by decide) ?_
          exact ih_4 (i + 1) (a + 1) (by first | assumption | omega | (constructor <;> omega)) (by first | (rw [cntZ_t (by omega) (by omega)]; omega) | (rw [cntZ_f (by omega) (by omega)]; omega) | rfl) (by first | assumption | omega | (constructor <;> omega)) (by omega) ls (lv_sub hl [2, 3, 1, 0] rfl)
  refine xi_const hx hb dX0_exactsAhead_0 ?_
  refine lv_istore_n (lv' := [(2, .int (iI (0))), (0, .ref qC), (1, .int (iI (y)))]) hx hb dX0_exactsAhead_1 rfl hl (by decide) rfl (fun ls hl => ?_)
  refine xi_const hx hb dX0_exactsAhead_2 ?_
  refine lv_istore_n (lv' := [(3, .int (iI (0))), (2, .int (iI (0))), (0, .ref qC), (1, .int (iI (y)))]) hx hb dX0_exactsAhead_3 rfl hl (by decide) rfl (fun ls hl => ?_)
  exact cut_4 ((ex - 0 : Int).toNat + 1) (0) (0) (by first | assumption | omega | (constructor <;> omega)) (by first | (rw [cntZ_t (by omega) (by omega)]; omega) | (rw [cntZ_f (by omega) (by omega)]; omega) | rfl) (by first | assumption | omega | (constructor <;> omega)) (by exact Nat.lt_succ_self _) ls (lv_sub hl [2, 3, 1, 0] rfl)
set_option maxHeartbeats 1000000 in
set_option maxRecDepth 100000 in
theorem c_X0_sumAhead (l : Launch) (D : va_G) (cyI cyJ cyO : ClassId) (qC : Nat) (qCy : Nat) (qCl : Nat) (qCb : Nat) (ex : Int) (be : Int) (op : Int) (es : Int) (ge : Int) (rc : Int) (lr : Int) (lw : Int) (ey : Int → Int) (el : Int → Int) (y : Int) (h_ex : 0 ≤ ex ∧ ex ≤ 60) (h_be : 0 ≤ be ∧ be ≤ 60) (h_op : 0 ≤ op ∧ op ≤ 60) (h_ey : ∀ j, 0 ≤ ey j ∧ ey j ≤ 59) (h_el : ∀ j, 0 ≤ el j ∧ el j ≤ 999) (h_y : -2147483648 ≤ y ∧ y ≤ 2147483647) : Met l yX0_sumAhead wsX0_sumAhead ({ frames := 0, cells := 0, slots := 0, locals := 0 }) (va_Pc [.ref qC, .int (iI (y))] (xR D vwCl [(qC, .inr (0, [.ref qCy, .ref qCl, .ref qCb, .int (iI (ex)), .int (iI (be)), .int (iI (op)), .int (iI (es)), .int (iI (ge)), .int (iI (rc)), .int (iI (lr)), .int (iI (lw))])), (qCy, .inl (cyI, 60, .inl (xA (ey)))), (qCl, .inl (cyI, 60, .inl (xA (el))))] (xT cyI cyJ cyO))) (xq (some (.int (iI (saZ ey el ex y))))) 0 0 (fun _ => False) := by
  refine Met.ofW (cc := cX0_sumAhead) (maxL := 4) (ret := (some .int)) (by decide) rfl ?_
  intro p e s m args below meth c s₁ B hml hv
  obtain ⟨rfl, hP, hK⟩ := hv
  have hx := B.exec
  have hb := B.bytes
  have hr := B.returns
  have hts := atoms_spec (ws := wsX0_sumAhead) B.pre
  have hown : s.vm.findClass RX0 = some m.cls := findClass_of_methodNamed B.named
  have hlocks := B.notSynchronized
  have hcX0 : ∀ w ∈ wsX00, w ∈ wsX0_sumAhead := fun _ h => List.mem_cons_of_mem _ (List.mem_append_right _ h)
  have hP : va_P D vwCl [(qC, .inr (0, [.ref qCy, .ref qCl, .ref qCb, .int (iI (ex)), .int (iI (be)), .int (iI (op)), .int (iI (es)), .int (iI (ge)), .int (iI (rc)), .int (iI (lr)), .int (iI (lw))])), (qCy, .inl (cyI, 60, .inl (xA (ey)))), (qCl, .inl (cyI, 60, .inl (xA (el))))] s.heap := hP
  have hl := lv_entry ([.ref qC, .int (iI (y))]) (n := 4) (Nat.le_of_ble_eq_true rfl)
  rw [lg_entry_eq]
  generalize (lg_sl ([.ref qC, .int (iI (y))]) ++ List.replicate (4 - (lg_sl ([.ref qC, .int (iI (y))])).length) Slot.unset).toArray = ls at hl ⊢
  have hl : lv_has ls 4 [(0, .ref qC), (1, .int (iI (y)))] := hl
  have cut_4 : ∀ (N_ : Nat) (i : Int) (a : Int) (hi : 0 ≤ i ∧ i ≤ ex) (ha : a = sumZ (fun j => if ey j < y then el j else 0) i) (hN_ : (ex - i).toNat < N_) (ls : Array Slot) (hl : lv_has ls 4 [(0, .ref qC), (1, .int (iI (y))), (2, .int (iI (a))), (3, .int (iI (i)))]), W p l e (headSpec wsX0_sumAhead ({ frames := 0, cells := 0, slots := 0, locals := 0 })).room s m ([.ref qC, .int (iI (y))] : List Value).toArray below meth c s.heap [] 0 0 (MQ below (xq (some (.int (iI (saZ ey el ex y))))) ([.ref qC, .int (iI (y))] : List Value).toArray s 0 0 (fun _ => False)) (F0 m 4 ls []) := by
    intro N_
    induction N_ with
    | zero => intro i a hi ha hN_ ls hl; exact absurd hN_ (Nat.not_lt_zero _)
    | succ N_ ih_4 =>
      intro i a hi ha hN_ ls hl
      refine lv_iload_n hx hb dX0_sumAhead_4 rfl (lv_at hl 3 rfl) ?_
      refine lv_aload_n hx hb dX0_sumAhead_5 rfl (lv_at hl 0 rfl) ?_
      refine va_get (D := D) (ci := 0) (C := RX0) (T := TX0) (N := 11) hx hb hts hcX0 hown hK hP 0 rfl rfl 3 (by decide) (hts (.fieldLink RX0 21 "WallMarks$Counted" "exacts" "I") (List.mem_of_getElem? (i := 1) (by decide +kernel))) (fun _ h9 => h9) rfl dX0_sumAhead_6 ?_
      refine xb_icmp_ge (tgt := 37) hx hb dX0_sumAhead_9 (by decide) (by omega) (fun h_1 => ?_) (fun h_1 => ?_)
      · refine lv_iload_n hx hb dX0_sumAhead_37 rfl (lv_at hl 2 rfl) ?_
        exact W.iret (v := iI (a)) hx hb hr (fun t_ ht_ _ => ⟨congrArg (fun z => Outcome.returned (some (Value.int (iI z)))) (show (a) = (saZ ey el ex y) from by rw [ha, show i = ex from by omega]; rfl), ht_⟩) (fun _ h9 => absurd h9 List.not_mem_nil) dX0_sumAhead_38
      · refine lv_aload_n hx hb dX0_sumAhead_12 rfl (lv_at hl 0 rfl) ?_
        refine va_get (D := D) (ci := 0) (C := RX0) (T := TX0) (N := 11) hx hb hts hcX0 hown hK hP 0 rfl rfl 0 (by decide) (hts (.fieldLink RX0 9 "WallMarks$Counted" "exactYears" "[I") (List.mem_of_getElem? (i := 2) (by decide +kernel))) (fun _ h9 => h9) rfl dX0_sumAhead_13 ?_
        refine lv_iload_n hx hb dX0_sumAhead_16 rfl (lv_at hl 3 rfl) ?_
        refine xi_ald (D := D) hx hb hK hP 1 0 rfl rfl (by decide) (by omega) dX0_sumAhead_17 ?_
        have hr_2 := h_ey (i)
        refine lv_iload_n hx hb dX0_sumAhead_18 rfl (lv_at hl 1 rfl) ?_
        refine xb_icmp_ge (tgt := 31) hx hb dX0_sumAhead_19 (by decide) (by omega) (fun h_3 => ?_) (fun h_3 => ?_)
        · refine xi_inc (k := 3) (lv' := [(3, .int (iI (i + 1))), (0, .ref qC), (1, .int (iI (y))), (2, .int (iI (a)))]) hx hb dX0_sumAhead_31 hl rfl (by decide) rfl (fun ls hl => ?_)
          refine lv_goto (tgt := 4) hx hb dX0_sumAhead_34 (by decide) ?_
          exact ih_4 (i + 1) (a) (by first | assumption | omega | (constructor <;> omega)) (by first | (rw [sumZ_s _ (by omega), if_pos (by omega)]; omega) | (rw [sumZ_s _ (by omega), if_neg (by omega)]; omega) | rfl) (by omega) ls (lv_sub hl [1, 2, 3, 0] rfl)
        · refine lv_iload_n hx hb dX0_sumAhead_22 rfl (lv_at hl 2 rfl) ?_
          refine lv_aload_n hx hb dX0_sumAhead_23 rfl (lv_at hl 0 rfl) ?_
          refine va_get (D := D) (ci := 0) (C := RX0) (T := TX0) (N := 11) hx hb hts hcX0 hown hK hP 0 rfl rfl 1 (by decide) (hts (.fieldLink RX0 15 "WallMarks$Counted" "exactLevels" "[I") (List.mem_of_getElem? (i := 3) (by decide +kernel))) (fun _ h9 => h9) rfl dX0_sumAhead_24 ?_
          refine lv_iload_n hx hb dX0_sumAhead_27 rfl (lv_at hl 3 rfl) ?_
          refine xi_ald (D := D) hx hb hK hP 2 0 rfl rfl (by decide) (by omega) dX0_sumAhead_28 ?_
          have hr_4 := h_el (i)
          refine xi_add hx hb dX0_sumAhead_29 ?_
          refine lv_istore_n (lv' := [(2, .int (iI (a + (el (i))))), (0, .ref qC), (1, .int (iI (y))), (3, .int (iI (i)))]) hx hb dX0_sumAhead_30 rfl hl (by decide) rfl (fun ls hl => ?_)
          refine xi_inc (k := 3) (lv' := [(3, .int (iI (i + 1))), (2, .int (iI (a + (el (i))))), (0, .ref qC), (1, .int (iI (y)))]) hx hb dX0_sumAhead_31 hl rfl (by decide) rfl (fun ls hl => ?_)
          refine lv_goto (tgt := 4) hx hb dX0_sumAhead_34 (by decide) ?_
          exact ih_4 (i + 1) (a + (el (i))) (by first | assumption | omega | (constructor <;> omega)) (by first | (rw [sumZ_s _ (by omega), if_pos (by omega)]; omega) | (rw [sumZ_s _ (by omega), if_neg (by omega)]; omega) | rfl) (by omega) ls (lv_sub hl [2, 3, 1, 0] rfl)
  refine xi_const hx hb dX0_sumAhead_0 ?_
  refine lv_istore_n (lv' := [(2, .int (iI (0))), (0, .ref qC), (1, .int (iI (y)))]) hx hb dX0_sumAhead_1 rfl hl (by decide) rfl (fun ls hl => ?_)
  refine xi_const hx hb dX0_sumAhead_2 ?_
  refine lv_istore_n (lv' := [(3, .int (iI (0))), (2, .int (iI (0))), (0, .ref qC), (1, .int (iI (y)))]) hx hb dX0_sumAhead_3 rfl hl (by decide) rfl (fun ls hl => ?_)
  exact cut_4 ((ex - 0 : Int).toNat + 1) (0) (0) (by first | assumption | omega | (constructor <;> omega)) (by first | (rw [sumZ_s _ (by omega), if_pos (by omega)]; omega) | (rw [sumZ_s _ (by omega), if_neg (by omega)]; omega) | rfl) (by exact Nat.lt_succ_self _) ls (lv_sub hl [2, 3, 1, 0] rfl)
set_option maxHeartbeats 1000000 in
set_option maxRecDepth 100000 in
theorem c_X0_meansBelow (l : Launch) (D : va_G) (cyI cyJ cyO : ClassId) (qC : Nat) (qCy : Nat) (qCl : Nat) (qCb : Nat) (ex : Int) (be : Int) (op : Int) (es : Int) (ge : Int) (rc : Int) (lr : Int) (lw : Int) (ey : Int → Int) (y : Int) (h_ex : 0 ≤ ex ∧ ex ≤ 60) (h_be : 0 ≤ be ∧ be ≤ 60) (h_op : 0 ≤ op ∧ op ≤ 60) (h_ey : ∀ j, 0 ≤ ey j ∧ ey j ≤ 59) (h_y : -2147483648 ≤ y ∧ y ≤ 2147483647) : Met l yX0_meansBelow wsX0_meansBelow ({ frames := 1, cells := 0, slots := 0, locals := 23 }) (va_Pc [.ref qC, .int (iI (y))] (xR D vwCl [(qC, .inr (0, [.ref qCy, .ref qCl, .ref qCb, .int (iI (ex)), .int (iI (be)), .int (iI (op)), .int (iI (es)), .int (iI (ge)), .int (iI (rc)), .int (iI (lr)), .int (iI (lw))])), (qCy, .inl (cyI, 60, .inl (xA (ey))))] (xT cyI cyJ cyO))) (xq (some (.long (lI (mbF ey ex y))))) 0 0 (fun _ => False) := by
  refine Met.ofW (cc := cX0_meansBelow) (maxL := 3) (ret := (some .long)) (by decide) rfl ?_
  intro p e s m args below meth c s₁ B hml hv
  obtain ⟨rfl, hP, hK⟩ := hv
  have hx := B.exec
  have hb := B.bytes
  have hr := B.returns
  have hts := atoms_spec (ws := wsX0_meansBelow) B.pre
  have hown : s.vm.findClass RX0 = some m.cls := findClass_of_methodNamed B.named
  have hlocks := B.notSynchronized
  have hcX0 : ∀ w ∈ wsX00, w ∈ wsX0_meansBelow := fun _ h => List.mem_cons_of_mem _ (List.mem_append_right _ h)
  have hP : va_P D vwCl [(qC, .inr (0, [.ref qCy, .ref qCl, .ref qCb, .int (iI (ex)), .int (iI (be)), .int (iI (op)), .int (iI (es)), .int (iI (ge)), .int (iI (rc)), .int (iI (lr)), .int (iI (lw))])), (qCy, .inl (cyI, 60, .inl (xA (ey))))] s.heap := hP
  have hl := lv_entry ([.ref qC, .int (iI (y))]) (n := 3) (Nat.le_of_ble_eq_true rfl)
  rw [lg_entry_eq]
  generalize (lg_sl ([.ref qC, .int (iI (y))]) ++ List.replicate (3 - (lg_sl ([.ref qC, .int (iI (y))])).length) Slot.unset).toArray = ls at hl ⊢
  have hl : lv_has ls 3 [(0, .ref qC), (1, .int (iI (y)))] := hl
  refine lv_aload_n hx hb dX0_meansBelow_0 rfl (lv_at hl 0 rfl) ?_
  refine lv_iload_n hx hb dX0_meansBelow_1 rfl (lv_at hl 1 rfl) ?_
  have hf_1 := ahZ_in ey ex y (by omega)
  have hPc := hP.sub (ws' := [(qC, .inr (0, [.ref qCy, .ref qCl, .ref qCb, .int (iI (ex)), .int (iI (be)), .int (iI (op)), .int (iI (es)), .int (iI (ge)), .int (iI (rc)), .int (iI (lr)), .int (iI (lw))])), (qCy, .inl (cyI, 60, .inl (xA (ey))))]) [0, 1] rfl
  refine xc_i (va_runV (As := [.int (iI (y))]) (rest := []) ⟨hx, hb, hml, hown, hts⟩ (c_X0_exactsAhead l D cyI cyJ cyO qC qCy qCl qCb ex be op es ge rc lr lw ey y (by first | exact h_ex | assumption | omega) (by first | exact h_be | assumption | omega) (by first | exact h_op | assumption | omega) (by first | exact h_ey | assumption | omega) (by first | exact h_y | assumption | omega)) (cwV 1 hts gX0_meansBelow_X0_exactsAhead rfl rfl rfl (by decide +kernel) ⟨Nat.le_of_ble_eq_true rfl, Nat.le_of_ble_eq_true rfl⟩) (xpV hPc hK (ci := 0) (q0 := 0) (q := (RX0, TX0, 11)) rfl rfl) rfl rfl hl.1 rfl (lv_room (Nat.le_of_ble_eq_true rfl)) dX0_meansBelow_2 ⟨Nat.le_of_ble_eq_true rfl, Nat.le_of_ble_eq_true rfl⟩) ?_
  refine lv_istore_n (lv' := [(2, .int (iI (ahZ ey ex y))), (0, .ref qC), (1, .int (iI (y)))]) hx hb dX0_meansBelow_5 rfl hl (by decide) rfl (fun ls hl => ?_)
  refine lv_iload_n hx hb dX0_meansBelow_6 rfl (lv_at hl 0 rfl) ?_
  refine xi_i2l hx hb dX0_meansBelow_7 (by omega) ?_
  refine lv_aload_n hx hb dX0_meansBelow_8 rfl (lv_at hl 1 rfl) ?_
  refine va_get (D := D) (ci := 0) (C := RX0) (T := TX0) (N := 11) hx hb hts hcX0 hown hK hP 0 rfl rfl 3 (by decide) (hts (.fieldLink RX0 21 "WallMarks$Counted" "exacts" "I") (List.mem_of_getElem? (i := 1) (by decide +kernel))) (fun _ h9 => h9) rfl dX0_meansBelow_9 ?_
  refine lv_iload_n hx hb dX0_meansBelow_12 rfl (lv_at hl 0 rfl) ?_
  refine xi_sub hx hb dX0_meansBelow_13 ?_
  refine xi_i2l hx hb dX0_meansBelow_14 (by omega) ?_
  refine xl_mul hx hb dX0_meansBelow_15 ?_
  exact W.lret (v := lI ((ahZ ey ex y) * (ex - (ahZ ey ex y)))) hx hb hr (fun t_ ht_ _ => ⟨congrArg (fun z => Outcome.returned (some (Value.long (lI z)))) (show ((ahZ ey ex y) * (ex - (ahZ ey ex y))) = (mbF ey ex y) from by rfl), ht_⟩) (fun _ h9 => absurd h9 List.not_mem_nil) dX0_meansBelow_16
set_option maxHeartbeats 1000000 in
set_option maxRecDepth 100000 in
theorem c_X0_meansApart (l : Launch) (D : va_G) (cyI cyJ cyO : ClassId) (qC : Nat) (qCy : Nat) (qCl : Nat) (qCb : Nat) (ex : Int) (be : Int) (op : Int) (es : Int) (ge : Int) (rc : Int) (lr : Int) (lw : Int) (t : Int) (sm : Int) (h_ex : 0 ≤ ex ∧ ex ≤ 60) (h_be : 0 ≤ be ∧ be ≤ 60) (h_op : 0 ≤ op ∧ op ≤ 60) (h_es : 0 ≤ es ∧ es ≤ 59940) (h_t : 0 ≤ t ∧ t ≤ 60) (h_sm : 0 ≤ sm ∧ sm ≤ 1000000) : Met l yX0_meansApart wsX0_meansApart ({ frames := 0, cells := 0, slots := 0, locals := 0 }) (va_Pc [.ref qC, .int (iI (t)), .int (iI (sm))] (xR D vwCl [(qC, .inr (0, [.ref qCy, .ref qCl, .ref qCb, .int (iI (ex)), .int (iI (be)), .int (iI (op)), .int (iI (es)), .int (iI (ge)), .int (iI (rc)), .int (iI (lr)), .int (iI (lw))]))] (xT cyI cyJ cyO))) (xq (some (.long (lI (t * (es - sm) - (ex - t) * sm))))) 0 0 (fun _ => False) := by
  refine Met.ofW (cc := cX0_meansApart) (maxL := 3) (ret := (some .long)) (by decide) rfl ?_
  intro p e s m args below meth c s₁ B hml hv
  obtain ⟨rfl, hP, hK⟩ := hv
  have hx := B.exec
  have hb := B.bytes
  have hr := B.returns
  have hts := atoms_spec (ws := wsX0_meansApart) B.pre
  have hown : s.vm.findClass RX0 = some m.cls := findClass_of_methodNamed B.named
  have hlocks := B.notSynchronized
  have hcX0 : ∀ w ∈ wsX00, w ∈ wsX0_meansApart := fun _ h => List.mem_cons_of_mem _ (List.mem_append_right _ h)
  have hP : va_P D vwCl [(qC, .inr (0, [.ref qCy, .ref qCl, .ref qCb, .int (iI (ex)), .int (iI (be)), .int (iI (op)), .int (iI (es)), .int (iI (ge)), .int (iI (rc)), .int (iI (lr)), .int (iI (lw))]))] s.heap := hP
  have hl := lv_entry ([.ref qC, .int (iI (t)), .int (iI (sm))]) (n := 3) (Nat.le_of_ble_eq_true rfl)
  rw [lg_entry_eq]
  generalize (lg_sl ([.ref qC, .int (iI (t)), .int (iI (sm))]) ++ List.replicate (3 - (lg_sl ([.ref qC, .int (iI (t)), .int (iI (sm))])).length) Slot.unset).toArray = ls at hl ⊢
  have hl : lv_has ls 3 [(0, .ref qC), (1, .int (iI (t))), (2, .int (iI (sm)))] := hl
  refine lv_iload_n hx hb dX0_meansApart_0 rfl (lv_at hl 1 rfl) ?_
  refine xi_i2l hx hb dX0_meansApart_1 (by omega) ?_
  refine lv_aload_n hx hb dX0_meansApart_2 rfl (lv_at hl 0 rfl) ?_
  refine va_get (D := D) (ci := 0) (C := RX0) (T := TX0) (N := 11) hx hb hts hcX0 hown hK hP 0 rfl rfl 6 (by decide) (hts (.fieldLink RX0 31 "WallMarks$Counted" "exactSum" "I") (List.mem_of_getElem? (i := 1) (by decide +kernel))) (fun _ h9 => h9) rfl dX0_meansApart_3 ?_
  refine lv_iload_n hx hb dX0_meansApart_6 rfl (lv_at hl 2 rfl) ?_
  refine xi_sub hx hb dX0_meansApart_7 ?_
  refine xi_i2l hx hb dX0_meansApart_8 (by omega) ?_
  refine xl_mul hx hb dX0_meansApart_9 ?_
  refine lv_aload_n hx hb dX0_meansApart_10 rfl (lv_at hl 0 rfl) ?_
  refine va_get (D := D) (ci := 0) (C := RX0) (T := TX0) (N := 11) hx hb hts hcX0 hown hK hP 0 rfl rfl 3 (by decide) (hts (.fieldLink RX0 21 "WallMarks$Counted" "exacts" "I") (List.mem_of_getElem? (i := 2) (by decide +kernel))) (fun _ h9 => h9) rfl dX0_meansApart_11 ?_
  refine lv_iload_n hx hb dX0_meansApart_14 rfl (lv_at hl 1 rfl) ?_
  refine xi_sub hx hb dX0_meansApart_15 ?_
  refine xi_i2l hx hb dX0_meansApart_16 (by omega) ?_
  refine lv_iload_n hx hb dX0_meansApart_17 rfl (lv_at hl 2 rfl) ?_
  refine xi_i2l hx hb dX0_meansApart_18 (by omega) ?_
  refine xl_mul hx hb dX0_meansApart_19 ?_
  refine xl_sub hx hb dX0_meansApart_20 ?_
  exact W.lret (v := lI ((t * (es - sm)) - ((ex - t) * sm))) hx hb hr (fun t_ ht_ _ => ⟨congrArg (fun z => Outcome.returned (some (Value.long (lI z)))) (show ((t * (es - sm)) - ((ex - t) * sm)) = (t * (es - sm) - (ex - t) * sm) from by first | rfl | omega), ht_⟩) (fun _ h9 => absurd h9 List.not_mem_nil) dX0_meansApart_21
set_option maxHeartbeats 1000000 in
set_option maxRecDepth 100000 in
theorem c_X0_meansAbove (l : Launch) (D : va_G) (cyI cyJ cyO : ClassId) (qC : Nat) (qCy : Nat) (qCl : Nat) (qCb : Nat) (ex : Int) (be : Int) (op : Int) (es : Int) (ge : Int) (rc : Int) (lr : Int) (lw : Int) (ey : Int → Int) (el : Int → Int) (y : Int) (h_ex : 0 ≤ ex ∧ ex ≤ 60) (h_be : 0 ≤ be ∧ be ≤ 60) (h_op : 0 ≤ op ∧ op ≤ 60) (h_ey : ∀ j, 0 ≤ ey j ∧ ey j ≤ 59) (h_el : ∀ j, 0 ≤ el j ∧ el j ≤ 999) (h_es : 0 ≤ es ∧ es ≤ 59940) (h_y : -2147483648 ≤ y ∧ y ≤ 2147483647) : Met l yX0_meansAbove wsX0_meansAbove ({ frames := 1, cells := 0, slots := 0, locals := 23 }) (va_Pc [.ref qC, .int (iI (y))] (xR D vwCl [(qC, .inr (0, [.ref qCy, .ref qCl, .ref qCb, .int (iI (ex)), .int (iI (be)), .int (iI (op)), .int (iI (es)), .int (iI (ge)), .int (iI (rc)), .int (iI (lr)), .int (iI (lw))])), (qCy, .inl (cyI, 60, .inl (xA (ey)))), (qCl, .inl (cyI, 60, .inl (xA (el))))] (xT cyI cyJ cyO))) (xq (some (.long (lI (maF ey el ex es y))))) 0 0 (fun _ => False) := by
  refine Met.ofW (cc := cX0_meansAbove) (maxL := 2) (ret := (some .long)) (by decide) rfl ?_
  intro p e s m args below meth c s₁ B hml hv
  obtain ⟨rfl, hP, hK⟩ := hv
  have hx := B.exec
  have hb := B.bytes
  have hr := B.returns
  have hts := atoms_spec (ws := wsX0_meansAbove) B.pre
  have hown : s.vm.findClass RX0 = some m.cls := findClass_of_methodNamed B.named
  have hlocks := B.notSynchronized
  have hP : va_P D vwCl [(qC, .inr (0, [.ref qCy, .ref qCl, .ref qCb, .int (iI (ex)), .int (iI (be)), .int (iI (op)), .int (iI (es)), .int (iI (ge)), .int (iI (rc)), .int (iI (lr)), .int (iI (lw))])), (qCy, .inl (cyI, 60, .inl (xA (ey)))), (qCl, .inl (cyI, 60, .inl (xA (el))))] s.heap := hP
  have hl := lv_entry ([.ref qC, .int (iI (y))]) (n := 2) (Nat.le_of_ble_eq_true rfl)
  rw [lg_entry_eq]
  generalize (lg_sl ([.ref qC, .int (iI (y))]) ++ List.replicate (2 - (lg_sl ([.ref qC, .int (iI (y))])).length) Slot.unset).toArray = ls at hl ⊢
  have hl : lv_has ls 2 [(0, .ref qC), (1, .int (iI (y)))] := hl
  refine lv_aload_n hx hb dX0_meansAbove_0 rfl (lv_at hl 0 rfl) ?_
  refine lv_aload_n hx hb dX0_meansAbove_1 rfl (lv_at hl 0 rfl) ?_
  refine lv_iload_n hx hb dX0_meansAbove_2 rfl (lv_at hl 1 rfl) ?_
  have hf_1 := ahZ_in ey ex y (by omega)
  have hPc := hP.sub (ws' := [(qC, .inr (0, [.ref qCy, .ref qCl, .ref qCb, .int (iI (ex)), .int (iI (be)), .int (iI (op)), .int (iI (es)), .int (iI (ge)), .int (iI (rc)), .int (iI (lr)), .int (iI (lw))])), (qCy, .inl (cyI, 60, .inl (xA (ey))))]) [0, 1] rfl
  refine xc_i (va_runV (As := [.int (iI (y))]) (rest := [.ref qC]) ⟨hx, hb, hml, hown, hts⟩ (c_X0_exactsAhead l D cyI cyJ cyO qC qCy qCl qCb ex be op es ge rc lr lw ey y (by first | exact h_ex | assumption | omega) (by first | exact h_be | assumption | omega) (by first | exact h_op | assumption | omega) (by first | exact h_ey | assumption | omega) (by first | exact h_y | assumption | omega)) (cwV 1 hts gX0_meansAbove_X0_exactsAhead rfl rfl rfl (by decide +kernel) ⟨Nat.le_of_ble_eq_true rfl, Nat.le_of_ble_eq_true rfl⟩) (xpV hPc hK (ci := 0) (q0 := 0) (q := (RX0, TX0, 11)) rfl rfl) rfl rfl hl.1 rfl (lv_room (Nat.le_of_ble_eq_true rfl)) dX0_meansAbove_3 ⟨Nat.le_of_ble_eq_true rfl, Nat.le_of_ble_eq_true rfl⟩) ?_
  refine lv_aload_n hx hb dX0_meansAbove_6 rfl (lv_at hl 0 rfl) ?_
  refine lv_iload_n hx hb dX0_meansAbove_7 rfl (lv_at hl 1 rfl) ?_
  have hf_2 := saZ_in ey ex y h_el (by omega)
  have hPc := hP.sub (ws' := [(qC, .inr (0, [.ref qCy, .ref qCl, .ref qCb, .int (iI (ex)), .int (iI (be)), .int (iI (op)), .int (iI (es)), .int (iI (ge)), .int (iI (rc)), .int (iI (lr)), .int (iI (lw))])), (qCy, .inl (cyI, 60, .inl (xA (ey)))), (qCl, .inl (cyI, 60, .inl (xA (el))))]) [0, 1, 2] rfl
  refine xc_i (va_runV (As := [.int (iI (y))]) (rest := [.int (iI (ahZ ey ex y)), .ref qC]) ⟨hx, hb, hml, hown, hts⟩ (c_X0_sumAhead l D cyI cyJ cyO qC qCy qCl qCb ex be op es ge rc lr lw ey el y (by first | exact h_ex | assumption | omega) (by first | exact h_be | assumption | omega) (by first | exact h_op | assumption | omega) (by first | exact h_ey | assumption | omega) (by first | exact h_el | assumption | omega) (by first | exact h_y | assumption | omega)) (cwV 1 hts gX0_meansAbove_X0_sumAhead rfl rfl rfl (by decide +kernel) ⟨Nat.le_of_ble_eq_true rfl, Nat.le_of_ble_eq_true rfl⟩) (xpV hPc hK (ci := 0) (q0 := 0) (q := (RX0, TX0, 11)) rfl rfl) rfl rfl hl.1 rfl (lv_room (Nat.le_of_ble_eq_true rfl)) dX0_meansAbove_8 ⟨Nat.le_of_ble_eq_true rfl, Nat.le_of_ble_eq_true rfl⟩) ?_
  have hPc := hP.sub (ws' := [(qC, .inr (0, [.ref qCy, .ref qCl, .ref qCb, .int (iI (ex)), .int (iI (be)), .int (iI (op)), .int (iI (es)), .int (iI (ge)), .int (iI (rc)), .int (iI (lr)), .int (iI (lw))]))]) [0] rfl
  refine xc_l (va_runV (As := [.int (iI (ahZ ey ex y)), .int (iI (saZ ey el ex y))]) (rest := []) ⟨hx, hb, hml, hown, hts⟩ (c_X0_meansApart l D cyI cyJ cyO qC qCy qCl qCb ex be op es ge rc lr lw (ahZ ey ex y) (saZ ey el ex y) (by first | exact h_ex | assumption | omega) (by first | exact h_be | assumption | omega) (by first | exact h_op | assumption | omega) (by first | exact h_es | assumption | omega) (by first | exact h_t | assumption | omega) (by first | exact h_sm | assumption | omega)) (cwV 2 hts gX0_meansAbove_X0_meansApart rfl rfl rfl (by decide +kernel) ⟨Nat.le_of_ble_eq_true rfl, Nat.le_of_ble_eq_true rfl⟩) (xpV hPc hK (ci := 0) (q0 := 0) (q := (RX0, TX0, 11)) rfl rfl) rfl rfl hl.1 rfl (lv_room (Nat.le_of_ble_eq_true rfl)) dX0_meansAbove_11 ⟨Nat.le_of_ble_eq_true rfl, Nat.le_of_ble_eq_true rfl⟩) ?_
  exact W.lret (v := lI ((ahZ ey ex y) * (es - (saZ ey el ex y)) - (ex - (ahZ ey ex y)) * (saZ ey el ex y))) hx hb hr (fun t_ ht_ _ => ⟨congrArg (fun z => Outcome.returned (some (Value.long (lI z)))) (show ((ahZ ey ex y) * (es - (saZ ey el ex y)) - (ex - (ahZ ey ex y)) * (saZ ey el ex y)) = (maF ey el ex es y) from by rfl), ht_⟩) (fun _ h9 => absurd h9 List.not_mem_nil) dX0_meansAbove_14
set_option maxHeartbeats 1000000 in
set_option maxRecDepth 100000 in
theorem c_X0_holdAgainstRecord (l : Launch) (D : va_G) (cyI cyJ cyO : ClassId) (qC : Nat) (qCy : Nat) (qCl : Nat) (qCb : Nat) (ex : Int) (be : Int) (op : Int) (es : Int) (ge : Int) (rc : Int) (lr : Int) (lw : Int) (sz : Nat) (y : Int) (v : Int) (h_ge : -1 ≤ ge ∧ ge ≤ 999) (h_rc : 0 ≤ rc ∧ rc ≤ 60) (h_lr : -1 ≤ lr ∧ lr ≤ 59) (h_lw : 0 ≤ lw ∧ lw ≤ 60) (h_y : 0 ≤ y ∧ y ≤ 59) (h_v : 0 ≤ v ∧ v ≤ 999) : Met l yX0_holdAgainstRecord wsX0_holdAgainstRecord ({ frames := 1, cells := 0, slots := 0, locals := 24 }) (va_Pc [.ref qC, .int (iI (y)), .int (iI (v))] (xM D vwCl [(qC, .inr (0, [.ref qCy, .ref qCl, .ref qCb, .int (iI (ex)), .int (iI (be)), .int (iI (op)), .int (iI (es)), .int (iI (ge)), .int (iI (rc)), .int (iI (lr)), .int (iI (lw))]))] (xT cyI cyJ cyO) sz)) (va_Qv (fun (u : Unit) => True) (xB D vwCl (xT cyI cyJ cyO) (va_A [(qC, .inr (0, [.ref qCy, .ref qCl, .ref qCb, .int (iI (ex)), .int (iI (be)), .int (iI (op)), .int (iI (es)), .int (iI (ge)), .int (iI (rc)), .int (iI (lr)), .int (iI (lw))]))] sz) (fun u : Unit => [(qC, .inr (0, [.ref qCy, .ref qCl, .ref qCb, .int (iI (ex)), .int (iI (be)), .int (iI (op)), .int (iI (es)), .int (iI ((recS y v (ge, rc, lr, lw)).1)), .int (iI ((recS y v (ge, rc, lr, lw)).2.1)), .int (iI ((recS y v (ge, rc, lr, lw)).2.2.1)), .int (iI ((recS y v (ge, rc, lr, lw)).2.2.2))]))])) (va_A [(qC, .inr (0, [.ref qCy, .ref qCl, .ref qCb, .int (iI (ex)), .int (iI (be)), .int (iI (op)), .int (iI (es)), .int (iI (ge)), .int (iI (rc)), .int (iI (lr)), .int (iI (lw))]))] sz)) 0 0 (va_A [(qC, .inr (0, [.ref qCy, .ref qCl, .ref qCb, .int (iI (ex)), .int (iI (be)), .int (iI (op)), .int (iI (es)), .int (iI (ge)), .int (iI (rc)), .int (iI (lr)), .int (iI (lw))]))] sz) := by
  refine Met.ofW (cc := cX0_holdAgainstRecord) (maxL := 3) (ret := none) (by decide) rfl ?_
  intro p e s m args below meth c s₁ B hml hv
  obtain ⟨rfl, hsz, hP, hK, hD0⟩ := hv
  have hx := B.exec
  have hb := B.bytes
  have hr := B.returns
  have hts := atoms_spec (ws := wsX0_holdAgainstRecord) B.pre
  have hown : s.vm.findClass RX0 = some m.cls := findClass_of_methodNamed B.named
  have hlocks := B.notSynchronized
  have hcX0 : ∀ w ∈ wsX00, w ∈ wsX0_holdAgainstRecord := fun _ h => List.mem_cons_of_mem _ (List.mem_append_right _ h)
  subst hsz
  have hD := hD0.self (sz := s.heap.size)
  generalize hAe : va_A [(qC, .inr (0, [.ref qCy, .ref qCl, .ref qCb, .int (iI (ex)), .int (iI (be)), .int (iI (op)), .int (iI (es)), .int (iI (ge)), .int (iI (rc)), .int (iI (lr)), .int (iI (lw))]))] s.heap.size = A at hD ⊢
  have hA : ∀ q : Nat, s.heap.size ≤ q → A q := fun q h => by rw [← hAe]; exact Or.inr h
  have hS : va_S A s.heap s.heap [] := va_S.rf
  have hP : va_P D vwCl [(qC, .inr (0, [.ref qCy, .ref qCl, .ref qCb, .int (iI (ex)), .int (iI (be)), .int (iI (op)), .int (iI (es)), .int (iI (ge)), .int (iI (rc)), .int (iI (lr)), .int (iI (lw))]))] s.heap := hP
  have hl := lv_entry ([.ref qC, .int (iI (y)), .int (iI (v))]) (n := 3) (Nat.le_of_ble_eq_true rfl)
  rw [lg_entry_eq]
  generalize (lg_sl ([.ref qC, .int (iI (y)), .int (iI (v))]) ++ List.replicate (3 - (lg_sl ([.ref qC, .int (iI (y)), .int (iI (v))])).length) Slot.unset).toArray = ls at hl ⊢
  have hl : lv_has ls 3 [(0, .ref qC), (1, .int (iI (y))), (2, .int (iI (v)))] := hl
  refine lv_iload_n hx hb dX0_holdAgainstRecord_0 rfl (lv_at hl 2 rfl) ?_
  refine lv_aload_n hx hb dX0_holdAgainstRecord_1 rfl (lv_at hl 0 rfl) ?_
  refine va_get (D := D) (ci := 0) (C := RX0) (T := TX0) (N := 11) hx hb hts hcX0 hown hK hP 0 rfl rfl 7 (by decide) (hts (.fieldLink RX0 34 "WallMarks$Counted" "greatestExact" "I") (List.mem_of_getElem? (i := 1) (by decide +kernel))) (fun _ h9 => h9) rfl dX0_holdAgainstRecord_2 ?_
  refine xb_icmp_le (tgt := 57) hx hb dX0_holdAgainstRecord_5 (by decide) (by omega) (fun h_1 => ?_) (fun h_1 => ?_)
  · have he0 : (ge : Int) = ((recS y v (ge, rc, lr, lw)).1) := by unfold recS; first | (rw [if_pos (by omega), if_pos (by omega)]) | (rw [if_pos (by omega), if_neg (by omega)]) | (rw [if_pos (by omega)]) | (rw [if_neg (by omega)])
    have he1 : (rc : Int) = ((recS y v (ge, rc, lr, lw)).2.1) := by unfold recS; first | (rw [if_pos (by omega), if_pos (by omega)]) | (rw [if_pos (by omega), if_neg (by omega)]) | (rw [if_pos (by omega)]) | (rw [if_neg (by omega)])
    have he2 : (lr : Int) = ((recS y v (ge, rc, lr, lw)).2.2.1) := by unfold recS; first | (rw [if_pos (by omega), if_pos (by omega)]) | (rw [if_pos (by omega), if_neg (by omega)]) | (rw [if_pos (by omega)]) | (rw [if_neg (by omega)])
    have he3 : (lw : Int) = ((recS y v (ge, rc, lr, lw)).2.2.2) := by unfold recS; first | (rw [if_pos (by omega), if_pos (by omega)]) | (rw [if_pos (by omega), if_neg (by omega)]) | (rw [if_pos (by omega)]) | (rw [if_neg (by omega)])
    have hW8 := congr (congr (congr (congrArg (fun (xv0 : Int) (xv1 : Int) (xv2 : Int) (xv3 : Int) => ([(qC, .inr (0, [.ref qCy, .ref qCl, .ref qCb, .int (iI (ex)), .int (iI (be)), .int (iI (op)), .int (iI (es)), .int (iI (xv0)), .int (iI (xv1)), .int (iI (xv2)), .int (iI (xv3))]))] : va_W)) he0) he1) he2) he3
    have hW9 : ([(qC, .inr (0, [.ref qCy, .ref qCl, .ref qCb, .int (iI (ex)), .int (iI (be)), .int (iI (op)), .int (iI (es)), .int (iI (ge)), .int (iI (rc)), .int (iI (lr)), .int (iI (lw))]))] : va_W) = [(qC, .inr (0, [.ref qCy, .ref qCl, .ref qCb, .int (iI (ex)), .int (iI (be)), .int (iI (op)), .int (iI (es)), .int (iI ((recS y v (ge, rc, lr, lw)).1)), .int (iI ((recS y v (ge, rc, lr, lw)).2.1)), .int (iI ((recS y v (ge, rc, lr, lw)).2.2.1)), .int (iI ((recS y v (ge, rc, lr, lw)).2.2.2))]))] := hW8
    rw [hW9] at hP hD
    exact W.vret hx hb hr (fun t_ ht_ hW_ => ⟨⟨(), rfl, trivial, by rw [ht_]; exact hP, va_K.moved hW_.alike hK, hD⟩, hS.F ht_⟩) hS.2.2 dX0_holdAgainstRecord_57
  · refine lv_aload_n hx hb dX0_holdAgainstRecord_8 rfl (lv_at hl 0 rfl) ?_
    refine lv_aload_n hx hb dX0_holdAgainstRecord_9 rfl (lv_at hl 0 rfl) ?_
    refine va_get (D := D) (ci := 0) (C := RX0) (T := TX0) (N := 11) hx hb hts hcX0 hown hK hP 0 rfl rfl 9 (by decide) (hts (.fieldLink RX0 40 "WallMarks$Counted" "lastRecord" "I") (List.mem_of_getElem? (i := 2) (by decide +kernel))) (fun _ h9 => h9) rfl dX0_holdAgainstRecord_10 ?_
    refine xi_const hx hb dX0_holdAgainstRecord_13 ?_
    refine xb_icmp_ne (tgt := 21) hx hb dX0_holdAgainstRecord_14 (by decide) (by omega) (fun h_2 => ?_) (fun h_2 => ?_)
    · refine lv_aload_n hx hb dX0_holdAgainstRecord_21 rfl (lv_at hl 0 rfl) ?_
      refine va_get (D := D) (ci := 0) (C := RX0) (T := TX0) (N := 11) hx hb hts hcX0 hown hK hP 0 rfl rfl 10 (by decide) (hts (.fieldLink RX0 43 "WallMarks$Counted" "longestWait" "I") (List.mem_of_getElem? (i := 3) (by decide +kernel))) (fun _ h9 => h9) rfl dX0_holdAgainstRecord_22 ?_
      refine lv_iload_n hx hb dX0_holdAgainstRecord_25 rfl (lv_at hl 1 rfl) ?_
      refine lv_aload_n hx hb dX0_holdAgainstRecord_26 rfl (lv_at hl 0 rfl) ?_
      refine va_get (D := D) (ci := 0) (C := RX0) (T := TX0) (N := 11) hx hb hts hcX0 hown hK hP 0 rfl rfl 9 (by decide) (hts (.fieldLink RX0 40 "WallMarks$Counted" "lastRecord" "I") (List.mem_of_getElem? (i := 2) (by decide +kernel))) (fun _ h9 => h9) rfl dX0_holdAgainstRecord_27 ?_
      refine xi_sub hx hb dX0_holdAgainstRecord_30 ?_
      refine xm_max hx hb (hml.trans hl.1.symm) hown (hts (.methodLink RX0 62 Lib.Math.max.name) (List.mem_of_getElem? (i := 4) (by decide +kernel))) (hts (.static Lib.Math.max.name) (List.mem_of_getElem? (i := 5) (by decide +kernel))) (hts (.initialized "java/lang/Math") (List.mem_of_getElem? (i := 6) (by decide +kernel))) (hts (.code Lib.Math.max.name Lib.Math.max.code 2 (some .int)) (List.mem_of_getElem? (i := 7) (by decide +kernel))) (Nat.le_of_ble_eq_true rfl) (Nat.le_of_ble_eq_true rfl) (Nat.le_of_ble_eq_true rfl) (Nat.le_of_ble_eq_true rfl) dX0_holdAgainstRecord_31 (by omega) ?_
      refine va_put (D := D) (ci := 0) (v := .int (iI (zmax (lw) (y - lr)))) (ty := .int) (C := RX0) (T := TX0) (N := 11) hx hb hts hcX0 tyX0 tyX0_ok nmX0 hown hK hP hD hS 0 rfl rfl 10 (by decide) (hts (.fieldLink RX0 43 "WallMarks$Counted" "longestWait" "I") (List.mem_of_getElem? (i := 3) (by decide +kernel))) (fun _ h9 => h9) rfl (by decide +kernel) rfl rfl (Nat.le_of_ble_eq_true rfl) dX0_holdAgainstRecord_34 (fun H locs hP hD hS => ?_)
      have hP : va_P D vwCl [(qC, .inr (0, [.ref qCy, .ref qCl, .ref qCb, .int (iI (ex)), .int (iI (be)), .int (iI (op)), .int (iI (es)), .int (iI (ge)), .int (iI (rc)), .int (iI (lr)), .int (iI (zmax (lw) (y - lr)))]))] H := hP
      have hD : va_D A [(qC, .inr (0, [.ref qCy, .ref qCl, .ref qCb, .int (iI (ex)), .int (iI (be)), .int (iI (op)), .int (iI (es)), .int (iI (ge)), .int (iI (rc)), .int (iI (lr)), .int (iI (zmax (lw) (y - lr)))]))] := hD
      refine lv_aload_n hx hb dX0_holdAgainstRecord_37 rfl (lv_at hl 0 rfl) ?_
      refine lv_iload_n hx hb dX0_holdAgainstRecord_38 rfl (lv_at hl 1 rfl) ?_
      refine va_put (D := D) (ci := 0) (v := .int (iI (y))) (ty := .int) (C := RX0) (T := TX0) (N := 11) hx hb hts hcX0 tyX0 tyX0_ok nmX0 hown hK hP hD hS 0 rfl rfl 9 (by decide) (hts (.fieldLink RX0 40 "WallMarks$Counted" "lastRecord" "I") (List.mem_of_getElem? (i := 2) (by decide +kernel))) (fun _ h9 => h9) rfl (by decide +kernel) rfl rfl (Nat.le_of_ble_eq_true rfl) dX0_holdAgainstRecord_39 (fun H locs hP hD hS => ?_)
      have hP : va_P D vwCl [(qC, .inr (0, [.ref qCy, .ref qCl, .ref qCb, .int (iI (ex)), .int (iI (be)), .int (iI (op)), .int (iI (es)), .int (iI (ge)), .int (iI (rc)), .int (iI (y)), .int (iI (zmax (lw) (y - lr)))]))] H := hP
      have hD : va_D A [(qC, .inr (0, [.ref qCy, .ref qCl, .ref qCb, .int (iI (ex)), .int (iI (be)), .int (iI (op)), .int (iI (es)), .int (iI (ge)), .int (iI (rc)), .int (iI (y)), .int (iI (zmax (lw) (y - lr)))]))] := hD
      refine lv_aload_n hx hb dX0_holdAgainstRecord_42 rfl (lv_at hl 0 rfl) ?_
      refine lv_iload_n hx hb dX0_holdAgainstRecord_43 rfl (lv_at hl 2 rfl) ?_
      refine va_put (D := D) (ci := 0) (v := .int (iI (v))) (ty := .int) (C := RX0) (T := TX0) (N := 11) hx hb hts hcX0 tyX0 tyX0_ok nmX0 hown hK hP hD hS 0 rfl rfl 7 (by decide) (hts (.fieldLink RX0 34 "WallMarks$Counted" "greatestExact" "I") (List.mem_of_getElem? (i := 1) (by decide +kernel))) (fun _ h9 => h9) rfl (by decide +kernel) rfl rfl (Nat.le_of_ble_eq_true rfl) dX0_holdAgainstRecord_44 (fun H locs hP hD hS => ?_)
      have hP : va_P D vwCl [(qC, .inr (0, [.ref qCy, .ref qCl, .ref qCb, .int (iI (ex)), .int (iI (be)), .int (iI (op)), .int (iI (es)), .int (iI (v)), .int (iI (rc)), .int (iI (y)), .int (iI (zmax (lw) (y - lr)))]))] H := hP
      have hD : va_D A [(qC, .inr (0, [.ref qCy, .ref qCl, .ref qCb, .int (iI (ex)), .int (iI (be)), .int (iI (op)), .int (iI (es)), .int (iI (v)), .int (iI (rc)), .int (iI (y)), .int (iI (zmax (lw) (y - lr)))]))] := hD
      refine lv_aload_n hx hb dX0_holdAgainstRecord_47 rfl (lv_at hl 0 rfl) ?_
      refine lv_dup hx hb dX0_holdAgainstRecord_48 rfl ?_
      refine va_get (D := D) (ci := 0) (C := RX0) (T := TX0) (N := 11) hx hb hts hcX0 hown hK hP 0 rfl rfl 8 (by decide) (hts (.fieldLink RX0 37 "WallMarks$Counted" "records" "I") (List.mem_of_getElem? (i := 8) (by decide +kernel))) (fun _ h9 => h9) rfl dX0_holdAgainstRecord_49 ?_
      refine xi_const hx hb dX0_holdAgainstRecord_52 ?_
      refine xi_add hx hb dX0_holdAgainstRecord_53 ?_
      refine va_put (D := D) (ci := 0) (v := .int (iI (rc + 1))) (ty := .int) (C := RX0) (T := TX0) (N := 11) hx hb hts hcX0 tyX0 tyX0_ok nmX0 hown hK hP hD hS 0 rfl rfl 8 (by decide) (hts (.fieldLink RX0 37 "WallMarks$Counted" "records" "I") (List.mem_of_getElem? (i := 8) (by decide +kernel))) (fun _ h9 => h9) rfl (by decide +kernel) rfl rfl (Nat.le_of_ble_eq_true rfl) dX0_holdAgainstRecord_54 (fun H locs hP hD hS => ?_)
      have hP : va_P D vwCl [(qC, .inr (0, [.ref qCy, .ref qCl, .ref qCb, .int (iI (ex)), .int (iI (be)), .int (iI (op)), .int (iI (es)), .int (iI (v)), .int (iI (rc + 1)), .int (iI (y)), .int (iI (zmax (lw) (y - lr)))]))] H := hP
      have hD : va_D A [(qC, .inr (0, [.ref qCy, .ref qCl, .ref qCb, .int (iI (ex)), .int (iI (be)), .int (iI (op)), .int (iI (es)), .int (iI (v)), .int (iI (rc + 1)), .int (iI (y)), .int (iI (zmax (lw) (y - lr)))]))] := hD
      have he0 : (v : Int) = ((recS y v (ge, rc, lr, lw)).1) := by unfold recS; first | (rw [if_pos (by omega), if_pos (by omega)]) | (rw [if_pos (by omega), if_neg (by omega)]) | (rw [if_pos (by omega)]) | (rw [if_neg (by omega)])
      have he1 : (rc + 1 : Int) = ((recS y v (ge, rc, lr, lw)).2.1) := by unfold recS; first | (rw [if_pos (by omega), if_pos (by omega)]) | (rw [if_pos (by omega), if_neg (by omega)]) | (rw [if_pos (by omega)]) | (rw [if_neg (by omega)])
      have he2 : (y : Int) = ((recS y v (ge, rc, lr, lw)).2.2.1) := by unfold recS; first | (rw [if_pos (by omega), if_pos (by omega)]) | (rw [if_pos (by omega), if_neg (by omega)]) | (rw [if_pos (by omega)]) | (rw [if_neg (by omega)])
      have he3 : (zmax (lw) (y - lr) : Int) = ((recS y v (ge, rc, lr, lw)).2.2.2) := by unfold recS; first | (rw [if_pos (by omega), if_pos (by omega)]) | (rw [if_pos (by omega), if_neg (by omega)]) | (rw [if_pos (by omega)]) | (rw [if_neg (by omega)])
      have hW8 := congr (congr (congr (congrArg (fun (xv0 : Int) (xv1 : Int) (xv2 : Int) (xv3 : Int) => ([(qC, .inr (0, [.ref qCy, .ref qCl, .ref qCb, .int (iI (ex)), .int (iI (be)), .int (iI (op)), .int (iI (es)), .int (iI (xv0)), .int (iI (xv1)), .int (iI (xv2)), .int (iI (xv3))]))] : va_W)) he0) he1) he2) he3
      have hW9 : ([(qC, .inr (0, [.ref qCy, .ref qCl, .ref qCb, .int (iI (ex)), .int (iI (be)), .int (iI (op)), .int (iI (es)), .int (iI (v)), .int (iI (rc + 1)), .int (iI (y)), .int (iI (zmax (lw) (y - lr)))]))] : va_W) = [(qC, .inr (0, [.ref qCy, .ref qCl, .ref qCb, .int (iI (ex)), .int (iI (be)), .int (iI (op)), .int (iI (es)), .int (iI ((recS y v (ge, rc, lr, lw)).1)), .int (iI ((recS y v (ge, rc, lr, lw)).2.1)), .int (iI ((recS y v (ge, rc, lr, lw)).2.2.1)), .int (iI ((recS y v (ge, rc, lr, lw)).2.2.2))]))] := hW8
      rw [hW9] at hP hD
      exact W.vret hx hb hr (fun t_ ht_ hW_ => ⟨⟨(), rfl, trivial, by rw [ht_]; exact hP, va_K.moved hW_.alike hK, hD⟩, hS.F ht_⟩) hS.2.2 dX0_holdAgainstRecord_57
    · refine xi_const hx hb dX0_holdAgainstRecord_17 ?_
      refine lv_goto (tgt := 34) hx hb dX0_holdAgainstRecord_18 (by decide) ?_
      refine va_put (D := D) (ci := 0) (v := .int (iI (0))) (ty := .int) (C := RX0) (T := TX0) (N := 11) hx hb hts hcX0 tyX0 tyX0_ok nmX0 hown hK hP hD hS 0 rfl rfl 10 (by decide) (hts (.fieldLink RX0 43 "WallMarks$Counted" "longestWait" "I") (List.mem_of_getElem? (i := 3) (by decide +kernel))) (fun _ h9 => h9) rfl (by decide +kernel) rfl rfl (Nat.le_of_ble_eq_true rfl) dX0_holdAgainstRecord_34 (fun H locs hP hD hS => ?_)
      have hP : va_P D vwCl [(qC, .inr (0, [.ref qCy, .ref qCl, .ref qCb, .int (iI (ex)), .int (iI (be)), .int (iI (op)), .int (iI (es)), .int (iI (ge)), .int (iI (rc)), .int (iI (lr)), .int (iI (0))]))] H := hP
      have hD : va_D A [(qC, .inr (0, [.ref qCy, .ref qCl, .ref qCb, .int (iI (ex)), .int (iI (be)), .int (iI (op)), .int (iI (es)), .int (iI (ge)), .int (iI (rc)), .int (iI (lr)), .int (iI (0))]))] := hD
      refine lv_aload_n hx hb dX0_holdAgainstRecord_37 rfl (lv_at hl 0 rfl) ?_
      refine lv_iload_n hx hb dX0_holdAgainstRecord_38 rfl (lv_at hl 1 rfl) ?_
      refine va_put (D := D) (ci := 0) (v := .int (iI (y))) (ty := .int) (C := RX0) (T := TX0) (N := 11) hx hb hts hcX0 tyX0 tyX0_ok nmX0 hown hK hP hD hS 0 rfl rfl 9 (by decide) (hts (.fieldLink RX0 40 "WallMarks$Counted" "lastRecord" "I") (List.mem_of_getElem? (i := 2) (by decide +kernel))) (fun _ h9 => h9) rfl (by decide +kernel) rfl rfl (Nat.le_of_ble_eq_true rfl) dX0_holdAgainstRecord_39 (fun H locs hP hD hS => ?_)
      have hP : va_P D vwCl [(qC, .inr (0, [.ref qCy, .ref qCl, .ref qCb, .int (iI (ex)), .int (iI (be)), .int (iI (op)), .int (iI (es)), .int (iI (ge)), .int (iI (rc)), .int (iI (y)), .int (iI (0))]))] H := hP
      have hD : va_D A [(qC, .inr (0, [.ref qCy, .ref qCl, .ref qCb, .int (iI (ex)), .int (iI (be)), .int (iI (op)), .int (iI (es)), .int (iI (ge)), .int (iI (rc)), .int (iI (y)), .int (iI (0))]))] := hD
      refine lv_aload_n hx hb dX0_holdAgainstRecord_42 rfl (lv_at hl 0 rfl) ?_
      refine lv_iload_n hx hb dX0_holdAgainstRecord_43 rfl (lv_at hl 2 rfl) ?_
      refine va_put (D := D) (ci := 0) (v := .int (iI (v))) (ty := .int) (C := RX0) (T := TX0) (N := 11) hx hb hts hcX0 tyX0 tyX0_ok nmX0 hown hK hP hD hS 0 rfl rfl 7 (by decide) (hts (.fieldLink RX0 34 "WallMarks$Counted" "greatestExact" "I") (List.mem_of_getElem? (i := 1) (by decide +kernel))) (fun _ h9 => h9) rfl (by decide +kernel) rfl rfl (Nat.le_of_ble_eq_true rfl) dX0_holdAgainstRecord_44 (fun H locs hP hD hS => ?_)
      have hP : va_P D vwCl [(qC, .inr (0, [.ref qCy, .ref qCl, .ref qCb, .int (iI (ex)), .int (iI (be)), .int (iI (op)), .int (iI (es)), .int (iI (v)), .int (iI (rc)), .int (iI (y)), .int (iI (0))]))] H := hP
      have hD : va_D A [(qC, .inr (0, [.ref qCy, .ref qCl, .ref qCb, .int (iI (ex)), .int (iI (be)), .int (iI (op)), .int (iI (es)), .int (iI (v)), .int (iI (rc)), .int (iI (y)), .int (iI (0))]))] := hD
      refine lv_aload_n hx hb dX0_holdAgainstRecord_47 rfl (lv_at hl 0 rfl) ?_
      refine lv_dup hx hb dX0_holdAgainstRecord_48 rfl ?_
      refine va_get (D := D) (ci := 0) (C := RX0) (T := TX0) (N := 11) hx hb hts hcX0 hown hK hP 0 rfl rfl 8 (by decide) (hts (.fieldLink RX0 37 "WallMarks$Counted" "records" "I") (List.mem_of_getElem? (i := 8) (by decide +kernel))) (fun _ h9 => h9) rfl dX0_holdAgainstRecord_49 ?_
      refine xi_const hx hb dX0_holdAgainstRecord_52 ?_
      refine xi_add hx hb dX0_holdAgainstRecord_53 ?_
      refine va_put (D := D) (ci := 0) (v := .int (iI (rc + 1))) (ty := .int) (C := RX0) (T := TX0) (N := 11) hx hb hts hcX0 tyX0 tyX0_ok nmX0 hown hK hP hD hS 0 rfl rfl 8 (by decide) (hts (.fieldLink RX0 37 "WallMarks$Counted" "records" "I") (List.mem_of_getElem? (i := 8) (by decide +kernel))) (fun _ h9 => h9) rfl (by decide +kernel) rfl rfl (Nat.le_of_ble_eq_true rfl) dX0_holdAgainstRecord_54 (fun H locs hP hD hS => ?_)
      have hP : va_P D vwCl [(qC, .inr (0, [.ref qCy, .ref qCl, .ref qCb, .int (iI (ex)), .int (iI (be)), .int (iI (op)), .int (iI (es)), .int (iI (v)), .int (iI (rc + 1)), .int (iI (y)), .int (iI (0))]))] H := hP
      have hD : va_D A [(qC, .inr (0, [.ref qCy, .ref qCl, .ref qCb, .int (iI (ex)), .int (iI (be)), .int (iI (op)), .int (iI (es)), .int (iI (v)), .int (iI (rc + 1)), .int (iI (y)), .int (iI (0))]))] := hD
      have he0 : (v : Int) = ((recS y v (ge, rc, lr, lw)).1) := by unfold recS; first | (rw [if_pos (by omega), if_pos (by omega)]) | (rw [if_pos (by omega), if_neg (by omega)]) | (rw [if_pos (by omega)]) | (rw [if_neg (by omega)])
      have he1 : (rc + 1 : Int) = ((recS y v (ge, rc, lr, lw)).2.1) := by unfold recS; first | (rw [if_pos (by omega), if_pos (by omega)]) | (rw [if_pos (by omega), if_neg (by omega)]) | (rw [if_pos (by omega)]) | (rw [if_neg (by omega)])
      have he2 : (y : Int) = ((recS y v (ge, rc, lr, lw)).2.2.1) := by unfold recS; first | (rw [if_pos (by omega), if_pos (by omega)]) | (rw [if_pos (by omega), if_neg (by omega)]) | (rw [if_pos (by omega)]) | (rw [if_neg (by omega)])
      have he3 : (0 : Int) = ((recS y v (ge, rc, lr, lw)).2.2.2) := by unfold recS; first | (rw [if_pos (by omega), if_pos (by omega)]) | (rw [if_pos (by omega), if_neg (by omega)]) | (rw [if_pos (by omega)]) | (rw [if_neg (by omega)])
      have hW8 := congr (congr (congr (congrArg (fun (xv0 : Int) (xv1 : Int) (xv2 : Int) (xv3 : Int) => ([(qC, .inr (0, [.ref qCy, .ref qCl, .ref qCb, .int (iI (ex)), .int (iI (be)), .int (iI (op)), .int (iI (es)), .int (iI (xv0)), .int (iI (xv1)), .int (iI (xv2)), .int (iI (xv3))]))] : va_W)) he0) he1) he2) he3
      have hW9 : ([(qC, .inr (0, [.ref qCy, .ref qCl, .ref qCb, .int (iI (ex)), .int (iI (be)), .int (iI (op)), .int (iI (es)), .int (iI (v)), .int (iI (rc + 1)), .int (iI (y)), .int (iI (0))]))] : va_W) = [(qC, .inr (0, [.ref qCy, .ref qCl, .ref qCb, .int (iI (ex)), .int (iI (be)), .int (iI (op)), .int (iI (es)), .int (iI ((recS y v (ge, rc, lr, lw)).1)), .int (iI ((recS y v (ge, rc, lr, lw)).2.1)), .int (iI ((recS y v (ge, rc, lr, lw)).2.2.1)), .int (iI ((recS y v (ge, rc, lr, lw)).2.2.2))]))] := hW8
      rw [hW9] at hP hD
      exact W.vret hx hb hr (fun t_ ht_ hW_ => ⟨⟨(), rfl, trivial, by rw [ht_]; exact hP, va_K.moved hW_.alike hK, hD⟩, hS.F ht_⟩) hS.2.2 dX0_holdAgainstRecord_57
set_option maxHeartbeats 1000000 in
set_option maxRecDepth 100000 in
theorem c_X0_add_vE (l : Launch) (D : va_G) (cyI cyJ cyO : ClassId) (qC : Nat) (qCy : Nat) (qCl : Nat) (qCb : Nat) (ex : Int) (be : Int) (op : Int) (es : Int) (ge : Int) (rc : Int) (lr : Int) (lw : Int) (ey : Int → Int) (el : Int → Int) (bl : Int → Int) (sz : Nat) (y : Int) (k : Int) (v : Int) (h_k : k = 0) (h_ex : 0 ≤ ex ∧ ex < 60) (h_es : 0 ≤ es ∧ es ≤ 100000) (h_ge : -1 ≤ ge ∧ ge ≤ 999) (h_rc : 0 ≤ rc ∧ rc ≤ 60) (h_lr : -1 ≤ lr ∧ lr ≤ 59) (h_lw : 0 ≤ lw ∧ lw ≤ 60) (h_y : 0 ≤ y ∧ y ≤ 59) (h_v : 0 ≤ v ∧ v ≤ 999) : Met l yX0_add wsX0_add ({ frames := 2, cells := 0, slots := 0, locals := 46 }) (va_Pc [.ref qC, .int (iI (y)), .int (iI (k)), .int (iI (v))] (xM D vwCl [(qC, .inr (0, [.ref qCy, .ref qCl, .ref qCb, .int (iI (ex)), .int (iI (be)), .int (iI (op)), .int (iI (es)), .int (iI (ge)), .int (iI (rc)), .int (iI (lr)), .int (iI (lw))])), (qCy, .inl (cyI, 60, .inl (xA (ey)))), (qCl, .inl (cyI, 60, .inl (xA (el)))), (qCb, .inl (cyI, 60, .inl (xA (bl))))] (xT cyI cyJ cyO) sz)) (va_Qv (fun (u : Unit) => True) (xB D vwCl (xT cyI cyJ cyO) (va_A [(qC, .inr (0, [.ref qCy, .ref qCl, .ref qCb, .int (iI (ex)), .int (iI (be)), .int (iI (op)), .int (iI (es)), .int (iI (ge)), .int (iI (rc)), .int (iI (lr)), .int (iI (lw))])), (qCy, .inl (cyI, 60, .inl (xA (ey)))), (qCl, .inl (cyI, 60, .inl (xA (el)))), (qCb, .inl (cyI, 60, .inl (xA (bl))))] sz) (fun u : Unit => [(qC, .inr (0, [.ref qCy, .ref qCl, .ref qCb, .int (iI (ex + 1)), .int (iI (be)), .int (iI (op)), .int (iI (es + v)), .int (iI ((recS y v (ge, rc, lr, lw)).1)), .int (iI ((recS y v (ge, rc, lr, lw)).2.1)), .int (iI ((recS y v (ge, rc, lr, lw)).2.2.1)), .int (iI ((recS y v (ge, rc, lr, lw)).2.2.2))])), (qCy, .inl (cyI, 60, .inl (xA (uz ey ex y)))), (qCl, .inl (cyI, 60, .inl (xA (uz el ex v)))), (qCb, .inl (cyI, 60, .inl (xA (bl))))])) (va_A [(qC, .inr (0, [.ref qCy, .ref qCl, .ref qCb, .int (iI (ex)), .int (iI (be)), .int (iI (op)), .int (iI (es)), .int (iI (ge)), .int (iI (rc)), .int (iI (lr)), .int (iI (lw))])), (qCy, .inl (cyI, 60, .inl (xA (ey)))), (qCl, .inl (cyI, 60, .inl (xA (el)))), (qCb, .inl (cyI, 60, .inl (xA (bl))))] sz)) 0 0 (va_A [(qC, .inr (0, [.ref qCy, .ref qCl, .ref qCb, .int (iI (ex)), .int (iI (be)), .int (iI (op)), .int (iI (es)), .int (iI (ge)), .int (iI (rc)), .int (iI (lr)), .int (iI (lw))])), (qCy, .inl (cyI, 60, .inl (xA (ey)))), (qCl, .inl (cyI, 60, .inl (xA (el)))), (qCb, .inl (cyI, 60, .inl (xA (bl))))] sz) := by
  refine Met.ofW (cc := cX0_add) (maxL := 4) (ret := none) (by decide) rfl ?_
  intro p e s m args below meth c s₁ B hml hv
  obtain ⟨rfl, hsz, hP, hK, hD0⟩ := hv
  have hx := B.exec
  have hb := B.bytes
  have hr := B.returns
  have hts := atoms_spec (ws := wsX0_add) B.pre
  have hown : s.vm.findClass RX0 = some m.cls := findClass_of_methodNamed B.named
  have hlocks := B.notSynchronized
  have hcX0 : ∀ w ∈ wsX00, w ∈ wsX0_add := fun _ h => List.mem_cons_of_mem _ (List.mem_append_right _ h)
  subst hsz
  have hD := hD0.self (sz := s.heap.size)
  generalize hAe : va_A [(qC, .inr (0, [.ref qCy, .ref qCl, .ref qCb, .int (iI (ex)), .int (iI (be)), .int (iI (op)), .int (iI (es)), .int (iI (ge)), .int (iI (rc)), .int (iI (lr)), .int (iI (lw))])), (qCy, .inl (cyI, 60, .inl (xA (ey)))), (qCl, .inl (cyI, 60, .inl (xA (el)))), (qCb, .inl (cyI, 60, .inl (xA (bl))))] s.heap.size = A at hD ⊢
  have hA : ∀ q : Nat, s.heap.size ≤ q → A q := fun q h => by rw [← hAe]; exact Or.inr h
  have hS : va_S A s.heap s.heap [] := va_S.rf
  have hP : va_P D vwCl [(qC, .inr (0, [.ref qCy, .ref qCl, .ref qCb, .int (iI (ex)), .int (iI (be)), .int (iI (op)), .int (iI (es)), .int (iI (ge)), .int (iI (rc)), .int (iI (lr)), .int (iI (lw))])), (qCy, .inl (cyI, 60, .inl (xA (ey)))), (qCl, .inl (cyI, 60, .inl (xA (el)))), (qCb, .inl (cyI, 60, .inl (xA (bl))))] s.heap := hP
  have hl := lv_entry ([.ref qC, .int (iI (y)), .int (iI (k)), .int (iI (v))]) (n := 4) (Nat.le_of_ble_eq_true rfl)
  rw [lg_entry_eq]
  generalize (lg_sl ([.ref qC, .int (iI (y)), .int (iI (k)), .int (iI (v))]) ++ List.replicate (4 - (lg_sl ([.ref qC, .int (iI (y)), .int (iI (k)), .int (iI (v))])).length) Slot.unset).toArray = ls at hl ⊢
  have hl : lv_has ls 4 [(0, .ref qC), (1, .int (iI (y))), (2, .int (iI (k))), (3, .int (iI (v)))] := hl
  refine lv_iload_n hx hb dX0_add_0 rfl (lv_at hl 2 rfl) ?_
  refine xb_if_ne (tgt := 62) hx hb dX0_add_1 (by decide) (by omega) (fun h_1 => by exfalso; omega) (fun h_1 => ?_)
  refine lv_aload_n hx hb dX0_add_4 rfl (lv_at hl 0 rfl) ?_
  refine va_get (D := D) (ci := 0) (C := RX0) (T := TX0) (N := 11) hx hb hts hcX0 hown hK hP 0 rfl rfl 3 (by decide) (hts (.fieldLink RX0 21 "WallMarks$Counted" "exacts" "I") (List.mem_of_getElem? (i := 1) (by decide +kernel))) (fun _ h9 => h9) rfl dX0_add_5 ?_
  refine xi_bipush hx hb dX0_add_8 (by decide +kernel) ?_
  refine xb_icmp_ge (tgt := 62) hx hb dX0_add_10 (by decide) (by omega) (fun h_2 => by exfalso; omega) (fun h_2 => ?_)
  refine lv_aload_n hx hb dX0_add_13 rfl (lv_at hl 0 rfl) ?_
  refine va_get (D := D) (ci := 0) (C := RX0) (T := TX0) (N := 11) hx hb hts hcX0 hown hK hP 0 rfl rfl 0 (by decide) (hts (.fieldLink RX0 9 "WallMarks$Counted" "exactYears" "[I") (List.mem_of_getElem? (i := 2) (by decide +kernel))) (fun _ h9 => h9) rfl dX0_add_14 ?_
  refine lv_aload_n hx hb dX0_add_17 rfl (lv_at hl 0 rfl) ?_
  refine va_get (D := D) (ci := 0) (C := RX0) (T := TX0) (N := 11) hx hb hts hcX0 hown hK hP 0 rfl rfl 3 (by decide) (hts (.fieldLink RX0 21 "WallMarks$Counted" "exacts" "I") (List.mem_of_getElem? (i := 1) (by decide +kernel))) (fun _ h9 => h9) rfl dX0_add_18 ?_
  refine lv_iload_n hx hb dX0_add_21 rfl (lv_at hl 1 rfl) ?_
  refine xi_ast (D := D) hx hb hK hP hD hS 1 0 rfl rfl (by decide) (by omega) dX0_add_22 (fun H locs hP hD hS => ?_)
  have hP : va_P D vwCl [(qC, .inr (0, [.ref qCy, .ref qCl, .ref qCb, .int (iI (ex)), .int (iI (be)), .int (iI (op)), .int (iI (es)), .int (iI (ge)), .int (iI (rc)), .int (iI (lr)), .int (iI (lw))])), (qCy, .inl (cyI, 60, .inl (xA (uz ey (ex) (y))))), (qCl, .inl (cyI, 60, .inl (xA (el)))), (qCb, .inl (cyI, 60, .inl (xA (bl))))] H := hP
  have hD : va_D A [(qC, .inr (0, [.ref qCy, .ref qCl, .ref qCb, .int (iI (ex)), .int (iI (be)), .int (iI (op)), .int (iI (es)), .int (iI (ge)), .int (iI (rc)), .int (iI (lr)), .int (iI (lw))])), (qCy, .inl (cyI, 60, .inl (xA (uz ey (ex) (y))))), (qCl, .inl (cyI, 60, .inl (xA (el)))), (qCb, .inl (cyI, 60, .inl (xA (bl))))] := hD
  refine lv_aload_n hx hb dX0_add_23 rfl (lv_at hl 0 rfl) ?_
  refine va_get (D := D) (ci := 0) (C := RX0) (T := TX0) (N := 11) hx hb hts hcX0 hown hK hP 0 rfl rfl 1 (by decide) (hts (.fieldLink RX0 15 "WallMarks$Counted" "exactLevels" "[I") (List.mem_of_getElem? (i := 3) (by decide +kernel))) (fun _ h9 => h9) rfl dX0_add_24 ?_
  refine lv_aload_n hx hb dX0_add_27 rfl (lv_at hl 0 rfl) ?_
  refine va_get (D := D) (ci := 0) (C := RX0) (T := TX0) (N := 11) hx hb hts hcX0 hown hK hP 0 rfl rfl 3 (by decide) (hts (.fieldLink RX0 21 "WallMarks$Counted" "exacts" "I") (List.mem_of_getElem? (i := 1) (by decide +kernel))) (fun _ h9 => h9) rfl dX0_add_28 ?_
  refine lv_iload_n hx hb dX0_add_31 rfl (lv_at hl 3 rfl) ?_
  refine xi_ast (D := D) hx hb hK hP hD hS 2 0 rfl rfl (by decide) (by omega) dX0_add_32 (fun H locs hP hD hS => ?_)
  have hP : va_P D vwCl [(qC, .inr (0, [.ref qCy, .ref qCl, .ref qCb, .int (iI (ex)), .int (iI (be)), .int (iI (op)), .int (iI (es)), .int (iI (ge)), .int (iI (rc)), .int (iI (lr)), .int (iI (lw))])), (qCy, .inl (cyI, 60, .inl (xA (uz ey (ex) (y))))), (qCl, .inl (cyI, 60, .inl (xA (uz el (ex) (v))))), (qCb, .inl (cyI, 60, .inl (xA (bl))))] H := hP
  have hD : va_D A [(qC, .inr (0, [.ref qCy, .ref qCl, .ref qCb, .int (iI (ex)), .int (iI (be)), .int (iI (op)), .int (iI (es)), .int (iI (ge)), .int (iI (rc)), .int (iI (lr)), .int (iI (lw))])), (qCy, .inl (cyI, 60, .inl (xA (uz ey (ex) (y))))), (qCl, .inl (cyI, 60, .inl (xA (uz el (ex) (v))))), (qCb, .inl (cyI, 60, .inl (xA (bl))))] := hD
  refine lv_aload_n hx hb dX0_add_33 rfl (lv_at hl 0 rfl) ?_
  refine lv_dup hx hb dX0_add_34 rfl ?_
  refine va_get (D := D) (ci := 0) (C := RX0) (T := TX0) (N := 11) hx hb hts hcX0 hown hK hP 0 rfl rfl 6 (by decide) (hts (.fieldLink RX0 31 "WallMarks$Counted" "exactSum" "I") (List.mem_of_getElem? (i := 4) (by decide +kernel))) (fun _ h9 => h9) rfl dX0_add_35 ?_
  refine lv_iload_n hx hb dX0_add_38 rfl (lv_at hl 3 rfl) ?_
  refine xi_add hx hb dX0_add_39 ?_
  refine va_put (D := D) (ci := 0) (v := .int (iI (es + v))) (ty := .int) (C := RX0) (T := TX0) (N := 11) hx hb hts hcX0 tyX0 tyX0_ok nmX0 hown hK hP hD hS 0 rfl rfl 6 (by decide) (hts (.fieldLink RX0 31 "WallMarks$Counted" "exactSum" "I") (List.mem_of_getElem? (i := 4) (by decide +kernel))) (fun _ h9 => h9) rfl (by decide +kernel) rfl rfl (Nat.le_of_ble_eq_true rfl) dX0_add_40 (fun H locs hP hD hS => ?_)
  have hP : va_P D vwCl [(qC, .inr (0, [.ref qCy, .ref qCl, .ref qCb, .int (iI (ex)), .int (iI (be)), .int (iI (op)), .int (iI (es + v)), .int (iI (ge)), .int (iI (rc)), .int (iI (lr)), .int (iI (lw))])), (qCy, .inl (cyI, 60, .inl (xA (uz ey (ex) (y))))), (qCl, .inl (cyI, 60, .inl (xA (uz el (ex) (v))))), (qCb, .inl (cyI, 60, .inl (xA (bl))))] H := hP
  have hD : va_D A [(qC, .inr (0, [.ref qCy, .ref qCl, .ref qCb, .int (iI (ex)), .int (iI (be)), .int (iI (op)), .int (iI (es + v)), .int (iI (ge)), .int (iI (rc)), .int (iI (lr)), .int (iI (lw))])), (qCy, .inl (cyI, 60, .inl (xA (uz ey (ex) (y))))), (qCl, .inl (cyI, 60, .inl (xA (uz el (ex) (v))))), (qCb, .inl (cyI, 60, .inl (xA (bl))))] := hD
  refine lv_aload_n hx hb dX0_add_43 rfl (lv_at hl 0 rfl) ?_
  refine lv_dup hx hb dX0_add_44 rfl ?_
  refine va_get (D := D) (ci := 0) (C := RX0) (T := TX0) (N := 11) hx hb hts hcX0 hown hK hP 0 rfl rfl 3 (by decide) (hts (.fieldLink RX0 21 "WallMarks$Counted" "exacts" "I") (List.mem_of_getElem? (i := 1) (by decide +kernel))) (fun _ h9 => h9) rfl dX0_add_45 ?_
  refine xi_const hx hb dX0_add_48 ?_
  refine xi_add hx hb dX0_add_49 ?_
  refine va_put (D := D) (ci := 0) (v := .int (iI (ex + 1))) (ty := .int) (C := RX0) (T := TX0) (N := 11) hx hb hts hcX0 tyX0 tyX0_ok nmX0 hown hK hP hD hS 0 rfl rfl 3 (by decide) (hts (.fieldLink RX0 21 "WallMarks$Counted" "exacts" "I") (List.mem_of_getElem? (i := 1) (by decide +kernel))) (fun _ h9 => h9) rfl (by decide +kernel) rfl rfl (Nat.le_of_ble_eq_true rfl) dX0_add_50 (fun H locs hP hD hS => ?_)
  have hP : va_P D vwCl [(qC, .inr (0, [.ref qCy, .ref qCl, .ref qCb, .int (iI (ex + 1)), .int (iI (be)), .int (iI (op)), .int (iI (es + v)), .int (iI (ge)), .int (iI (rc)), .int (iI (lr)), .int (iI (lw))])), (qCy, .inl (cyI, 60, .inl (xA (uz ey (ex) (y))))), (qCl, .inl (cyI, 60, .inl (xA (uz el (ex) (v))))), (qCb, .inl (cyI, 60, .inl (xA (bl))))] H := hP
  have hD : va_D A [(qC, .inr (0, [.ref qCy, .ref qCl, .ref qCb, .int (iI (ex + 1)), .int (iI (be)), .int (iI (op)), .int (iI (es + v)), .int (iI (ge)), .int (iI (rc)), .int (iI (lr)), .int (iI (lw))])), (qCy, .inl (cyI, 60, .inl (xA (uz ey (ex) (y))))), (qCl, .inl (cyI, 60, .inl (xA (uz el (ex) (v))))), (qCb, .inl (cyI, 60, .inl (xA (bl))))] := hD
  refine lv_aload_n hx hb dX0_add_53 rfl (lv_at hl 0 rfl) ?_
  refine lv_iload_n hx hb dX0_add_54 rfl (lv_at hl 1 rfl) ?_
  refine lv_iload_n hx hb dX0_add_55 rfl (lv_at hl 3 rfl) ?_
  have hPc := hP.sub (ws' := [(qC, .inr (0, [.ref qCy, .ref qCl, .ref qCb, .int (iI (ex + 1)), .int (iI (be)), .int (iI (op)), .int (iI (es + v)), .int (iI (ge)), .int (iI (rc)), .int (iI (lr)), .int (iI (lw))]))]) [0] rfl
  have hDc := hD.sub (ws' := [(qC, .inr (0, [.ref qCy, .ref qCl, .ref qCb, .int (iI (ex + 1)), .int (iI (be)), .int (iI (op)), .int (iI (es + v)), .int (iI (ge)), .int (iI (rc)), .int (iI (lr)), .int (iI (lw))]))]) [0] (by decide) rfl
  have hFc := va_free (wc := [(qC, .inr (0, [.ref qCy, .ref qCl, .ref qCb, .int (iI (ex + 1)), .int (iI (be)), .int (iI (op)), .int (iI (es + v)), .int (iI (ge)), .int (iI (rc)), .int (iI (lr)), .int (iI (lw))]))]) hD hS hA [0] rfl
  refine va_callv (va_runV (As := [.int (iI (y)), .int (iI (v))]) (rest := []) ⟨hx, hb, hml, hown, hts⟩ (c_X0_holdAgainstRecord l D cyI cyJ cyO qC qCy qCl qCb (ex + 1) be op (es + v) ge rc lr lw H.size y v (by first | exact h_ge | assumption | omega) (by first | exact h_rc | assumption | omega) (by first | exact h_lr | assumption | omega) (by first | exact h_lw | assumption | omega) (by first | exact h_y | assumption | omega) (by first | exact h_v | assumption | omega)) (cwV 2 hts gX0_add_X0_holdAgainstRecord rfl rfl rfl (by decide +kernel) ⟨Nat.le_of_ble_eq_true rfl, Nat.le_of_ble_eq_true rfl⟩) (xpVM hPc hK hDc (ci := 0) (q0 := 0) (q := (RX0, TX0, 11)) rfl rfl) rfl rfl hl.1 rfl (lv_room (Nat.le_of_ble_eq_true rfl)) dX0_add_56 ⟨Nat.le_of_ble_eq_true rfl, Nat.le_of_ble_eq_true rfl⟩) hS (fun q _ h => hFc q h) hFc (fun u_3 t_ H1 locs ht_ hvm hw hB hz1 hk1 hS => ?_)
  obtain ⟨hP1, hK1, hD1⟩ := hB
  rw [ht_] at hP1
  obtain ⟨hP, hD⟩ := xj (wc := [(qC, .inr (0, [.ref qCy, .ref qCl, .ref qCb, .int (iI (ex + 1)), .int (iI (be)), .int (iI (op)), .int (iI (es + v)), .int (iI (ge)), .int (iI (rc)), .int (iI (lr)), .int (iI (lw))]))]) (w1 := [(qC, .inr (0, [.ref qCy, .ref qCl, .ref qCb, .int (iI (ex + 1)), .int (iI (be)), .int (iI (op)), .int (iI (es + v)), .int (iI ((recS y v (ge, rc, lr, lw)).1)), .int (iI ((recS y v (ge, rc, lr, lw)).2.1)), .int (iI ((recS y v (ge, rc, lr, lw)).2.2.1)), .int (iI ((recS y v (ge, rc, lr, lw)).2.2.2))]))]) hP hD [0] rfl rfl hk1 hP1
  generalize H1 = H at hP hS ⊢
  have hP : va_P D vwCl [(qC, .inr (0, [.ref qCy, .ref qCl, .ref qCb, .int (iI (ex + 1)), .int (iI (be)), .int (iI (op)), .int (iI (es + v)), .int (iI ((recS y v (ge, rc, lr, lw)).1)), .int (iI ((recS y v (ge, rc, lr, lw)).2.1)), .int (iI ((recS y v (ge, rc, lr, lw)).2.2.1)), .int (iI ((recS y v (ge, rc, lr, lw)).2.2.2))])), (qCy, .inl (cyI, 60, .inl (xA (uz ey (ex) (y))))), (qCl, .inl (cyI, 60, .inl (xA (uz el (ex) (v))))), (qCb, .inl (cyI, 60, .inl (xA (bl))))] H := hP
  have hD : va_D A [(qC, .inr (0, [.ref qCy, .ref qCl, .ref qCb, .int (iI (ex + 1)), .int (iI (be)), .int (iI (op)), .int (iI (es + v)), .int (iI ((recS y v (ge, rc, lr, lw)).1)), .int (iI ((recS y v (ge, rc, lr, lw)).2.1)), .int (iI ((recS y v (ge, rc, lr, lw)).2.2.1)), .int (iI ((recS y v (ge, rc, lr, lw)).2.2.2))])), (qCy, .inl (cyI, 60, .inl (xA (uz ey (ex) (y))))), (qCl, .inl (cyI, 60, .inl (xA (uz el (ex) (v))))), (qCb, .inl (cyI, 60, .inl (xA (bl))))] := hD
  have hw_4 : True := hw
  refine lv_goto (tgt := 109) hx hb dX0_add_59 (by decide) ?_
  have he0 : (uz ey (ex) (y) : Int → Int) = (uz ey ex y) := by first | rfl | omega
  have he1 : (uz el (ex) (v) : Int → Int) = (uz el ex v) := by first | rfl | omega
  have hW8 := congr (congrArg (fun (xv0 : Int → Int) (xv1 : Int → Int) => ([(qC, .inr (0, [.ref qCy, .ref qCl, .ref qCb, .int (iI (ex + 1)), .int (iI (be)), .int (iI (op)), .int (iI (es + v)), .int (iI ((recS y v (ge, rc, lr, lw)).1)), .int (iI ((recS y v (ge, rc, lr, lw)).2.1)), .int (iI ((recS y v (ge, rc, lr, lw)).2.2.1)), .int (iI ((recS y v (ge, rc, lr, lw)).2.2.2))])), (qCy, .inl (cyI, 60, .inl (xA (xv0)))), (qCl, .inl (cyI, 60, .inl (xA (xv1)))), (qCb, .inl (cyI, 60, .inl (xA (bl))))] : va_W)) he0) he1
  have hW9 : ([(qC, .inr (0, [.ref qCy, .ref qCl, .ref qCb, .int (iI (ex + 1)), .int (iI (be)), .int (iI (op)), .int (iI (es + v)), .int (iI ((recS y v (ge, rc, lr, lw)).1)), .int (iI ((recS y v (ge, rc, lr, lw)).2.1)), .int (iI ((recS y v (ge, rc, lr, lw)).2.2.1)), .int (iI ((recS y v (ge, rc, lr, lw)).2.2.2))])), (qCy, .inl (cyI, 60, .inl (xA (uz ey (ex) (y))))), (qCl, .inl (cyI, 60, .inl (xA (uz el (ex) (v))))), (qCb, .inl (cyI, 60, .inl (xA (bl))))] : va_W) = [(qC, .inr (0, [.ref qCy, .ref qCl, .ref qCb, .int (iI (ex + 1)), .int (iI (be)), .int (iI (op)), .int (iI (es + v)), .int (iI ((recS y v (ge, rc, lr, lw)).1)), .int (iI ((recS y v (ge, rc, lr, lw)).2.1)), .int (iI ((recS y v (ge, rc, lr, lw)).2.2.1)), .int (iI ((recS y v (ge, rc, lr, lw)).2.2.2))])), (qCy, .inl (cyI, 60, .inl (xA (uz ey ex y)))), (qCl, .inl (cyI, 60, .inl (xA (uz el ex v)))), (qCb, .inl (cyI, 60, .inl (xA (bl))))] := hW8
  rw [hW9] at hP hD
  exact W.vret hx hb hr (fun t_ ht_ hW_ => ⟨⟨(), rfl, trivial, by rw [ht_]; exact hP, va_K.moved hW_.alike hK, hD⟩, hS.F ht_⟩) hS.2.2 dX0_add_109
set_option maxHeartbeats 1000000 in
set_option maxRecDepth 100000 in
theorem c_X0_add_vB (l : Launch) (D : va_G) (cyI cyJ cyO : ClassId) (qC : Nat) (qCy : Nat) (qCl : Nat) (qCb : Nat) (ex : Int) (be : Int) (op : Int) (es : Int) (ge : Int) (rc : Int) (lr : Int) (lw : Int) (ey : Int → Int) (el : Int → Int) (bl : Int → Int) (sz : Nat) (y : Int) (k : Int) (v : Int) (h_k : k = 1) (h_be : 0 ≤ be ∧ be < 60) : Met l yX0_add wsX0_add ({ frames := 0, cells := 0, slots := 0, locals := 0 }) (va_Pc [.ref qC, .int (iI (y)), .int (iI (k)), .int (iI (v))] (xM D vwCl [(qC, .inr (0, [.ref qCy, .ref qCl, .ref qCb, .int (iI (ex)), .int (iI (be)), .int (iI (op)), .int (iI (es)), .int (iI (ge)), .int (iI (rc)), .int (iI (lr)), .int (iI (lw))])), (qCy, .inl (cyI, 60, .inl (xA (ey)))), (qCl, .inl (cyI, 60, .inl (xA (el)))), (qCb, .inl (cyI, 60, .inl (xA (bl))))] (xT cyI cyJ cyO) sz)) (va_Qv (fun (u : Unit) => True) (xB D vwCl (xT cyI cyJ cyO) (va_A [(qC, .inr (0, [.ref qCy, .ref qCl, .ref qCb, .int (iI (ex)), .int (iI (be)), .int (iI (op)), .int (iI (es)), .int (iI (ge)), .int (iI (rc)), .int (iI (lr)), .int (iI (lw))])), (qCy, .inl (cyI, 60, .inl (xA (ey)))), (qCl, .inl (cyI, 60, .inl (xA (el)))), (qCb, .inl (cyI, 60, .inl (xA (bl))))] sz) (fun u : Unit => [(qC, .inr (0, [.ref qCy, .ref qCl, .ref qCb, .int (iI (ex)), .int (iI (be + 1)), .int (iI (op)), .int (iI (es)), .int (iI (ge)), .int (iI (rc)), .int (iI (lr)), .int (iI (lw))])), (qCy, .inl (cyI, 60, .inl (xA (ey)))), (qCl, .inl (cyI, 60, .inl (xA (el)))), (qCb, .inl (cyI, 60, .inl (xA (uz bl be v))))])) (va_A [(qC, .inr (0, [.ref qCy, .ref qCl, .ref qCb, .int (iI (ex)), .int (iI (be)), .int (iI (op)), .int (iI (es)), .int (iI (ge)), .int (iI (rc)), .int (iI (lr)), .int (iI (lw))])), (qCy, .inl (cyI, 60, .inl (xA (ey)))), (qCl, .inl (cyI, 60, .inl (xA (el)))), (qCb, .inl (cyI, 60, .inl (xA (bl))))] sz)) 0 0 (va_A [(qC, .inr (0, [.ref qCy, .ref qCl, .ref qCb, .int (iI (ex)), .int (iI (be)), .int (iI (op)), .int (iI (es)), .int (iI (ge)), .int (iI (rc)), .int (iI (lr)), .int (iI (lw))])), (qCy, .inl (cyI, 60, .inl (xA (ey)))), (qCl, .inl (cyI, 60, .inl (xA (el)))), (qCb, .inl (cyI, 60, .inl (xA (bl))))] sz) := by
  refine Met.ofW (cc := cX0_add) (maxL := 4) (ret := none) (by decide) rfl ?_
  intro p e s m args below meth c s₁ B hml hv
  obtain ⟨rfl, hsz, hP, hK, hD0⟩ := hv
  have hx := B.exec
  have hb := B.bytes
  have hr := B.returns
  have hts := atoms_spec (ws := wsX0_add) B.pre
  have hown : s.vm.findClass RX0 = some m.cls := findClass_of_methodNamed B.named
  have hlocks := B.notSynchronized
  have hcX0 : ∀ w ∈ wsX00, w ∈ wsX0_add := fun _ h => List.mem_cons_of_mem _ (List.mem_append_right _ h)
  subst hsz
  have hD := hD0.self (sz := s.heap.size)
  generalize hAe : va_A [(qC, .inr (0, [.ref qCy, .ref qCl, .ref qCb, .int (iI (ex)), .int (iI (be)), .int (iI (op)), .int (iI (es)), .int (iI (ge)), .int (iI (rc)), .int (iI (lr)), .int (iI (lw))])), (qCy, .inl (cyI, 60, .inl (xA (ey)))), (qCl, .inl (cyI, 60, .inl (xA (el)))), (qCb, .inl (cyI, 60, .inl (xA (bl))))] s.heap.size = A at hD ⊢
  have hA : ∀ q : Nat, s.heap.size ≤ q → A q := fun q h => by rw [← hAe]; exact Or.inr h
  have hS : va_S A s.heap s.heap [] := va_S.rf
  have hP : va_P D vwCl [(qC, .inr (0, [.ref qCy, .ref qCl, .ref qCb, .int (iI (ex)), .int (iI (be)), .int (iI (op)), .int (iI (es)), .int (iI (ge)), .int (iI (rc)), .int (iI (lr)), .int (iI (lw))])), (qCy, .inl (cyI, 60, .inl (xA (ey)))), (qCl, .inl (cyI, 60, .inl (xA (el)))), (qCb, .inl (cyI, 60, .inl (xA (bl))))] s.heap := hP
  have hl := lv_entry ([.ref qC, .int (iI (y)), .int (iI (k)), .int (iI (v))]) (n := 4) (Nat.le_of_ble_eq_true rfl)
  rw [lg_entry_eq]
  generalize (lg_sl ([.ref qC, .int (iI (y)), .int (iI (k)), .int (iI (v))]) ++ List.replicate (4 - (lg_sl ([.ref qC, .int (iI (y)), .int (iI (k)), .int (iI (v))])).length) Slot.unset).toArray = ls at hl ⊢
  have hl : lv_has ls 4 [(0, .ref qC), (1, .int (iI (y))), (2, .int (iI (k))), (3, .int (iI (v)))] := hl
  refine lv_iload_n hx hb dX0_add_0 rfl (lv_at hl 2 rfl) ?_
  refine xb_if_ne (tgt := 62) hx hb dX0_add_1 (by decide) (by omega) (fun h_1 => ?_) (fun h_1 => by exfalso; omega)
  refine lv_iload_n hx hb dX0_add_62 rfl (lv_at hl 2 rfl) ?_
  refine xi_const hx hb dX0_add_63 ?_
  refine xb_icmp_ne (tgt := 99) hx hb dX0_add_64 (by decide) (by omega) (fun h_2 => by exfalso; omega) (fun h_2 => ?_)
  refine lv_aload_n hx hb dX0_add_67 rfl (lv_at hl 0 rfl) ?_
  refine va_get (D := D) (ci := 0) (C := RX0) (T := TX0) (N := 11) hx hb hts hcX0 hown hK hP 0 rfl rfl 4 (by decide) (hts (.fieldLink RX0 25 "WallMarks$Counted" "belows" "I") (List.mem_of_getElem? (i := 5) (by decide +kernel))) (fun _ h9 => h9) rfl dX0_add_68 ?_
  refine xi_bipush hx hb dX0_add_71 (by decide +kernel) ?_
  refine xb_icmp_ge (tgt := 99) hx hb dX0_add_73 (by decide) (by omega) (fun h_3 => by exfalso; omega) (fun h_3 => ?_)
  refine lv_aload_n hx hb dX0_add_76 rfl (lv_at hl 0 rfl) ?_
  refine va_get (D := D) (ci := 0) (C := RX0) (T := TX0) (N := 11) hx hb hts hcX0 hown hK hP 0 rfl rfl 2 (by decide) (hts (.fieldLink RX0 18 "WallMarks$Counted" "belowLevels" "[I") (List.mem_of_getElem? (i := 6) (by decide +kernel))) (fun _ h9 => h9) rfl dX0_add_77 ?_
  refine lv_aload_n hx hb dX0_add_80 rfl (lv_at hl 0 rfl) ?_
  refine va_get (D := D) (ci := 0) (C := RX0) (T := TX0) (N := 11) hx hb hts hcX0 hown hK hP 0 rfl rfl 4 (by decide) (hts (.fieldLink RX0 25 "WallMarks$Counted" "belows" "I") (List.mem_of_getElem? (i := 5) (by decide +kernel))) (fun _ h9 => h9) rfl dX0_add_81 ?_
  refine lv_iload_n hx hb dX0_add_84 rfl (lv_at hl 3 rfl) ?_
  refine xi_ast (D := D) hx hb hK hP hD hS 3 0 rfl rfl (by decide) (by omega) dX0_add_85 (fun H locs hP hD hS => ?_)
  have hP : va_P D vwCl [(qC, .inr (0, [.ref qCy, .ref qCl, .ref qCb, .int (iI (ex)), .int (iI (be)), .int (iI (op)), .int (iI (es)), .int (iI (ge)), .int (iI (rc)), .int (iI (lr)), .int (iI (lw))])), (qCy, .inl (cyI, 60, .inl (xA (ey)))), (qCl, .inl (cyI, 60, .inl (xA (el)))), (qCb, .inl (cyI, 60, .inl (xA (uz bl (be) (v)))))] H := hP
  have hD : va_D A [(qC, .inr (0, [.ref qCy, .ref qCl, .ref qCb, .int (iI (ex)), .int (iI (be)), .int (iI (op)), .int (iI (es)), .int (iI (ge)), .int (iI (rc)), .int (iI (lr)), .int (iI (lw))])), (qCy, .inl (cyI, 60, .inl (xA (ey)))), (qCl, .inl (cyI, 60, .inl (xA (el)))), (qCb, .inl (cyI, 60, .inl (xA (uz bl (be) (v)))))] := hD
  refine lv_aload_n hx hb dX0_add_86 rfl (lv_at hl 0 rfl) ?_
  refine lv_dup hx hb dX0_add_87 rfl ?_
  refine va_get (D := D) (ci := 0) (C := RX0) (T := TX0) (N := 11) hx hb hts hcX0 hown hK hP 0 rfl rfl 4 (by decide) (hts (.fieldLink RX0 25 "WallMarks$Counted" "belows" "I") (List.mem_of_getElem? (i := 5) (by decide +kernel))) (fun _ h9 => h9) rfl dX0_add_88 ?_
  refine xi_const hx hb dX0_add_91 ?_
  refine xi_add hx hb dX0_add_92 ?_
  refine va_put (D := D) (ci := 0) (v := .int (iI (be + 1))) (ty := .int) (C := RX0) (T := TX0) (N := 11) hx hb hts hcX0 tyX0 tyX0_ok nmX0 hown hK hP hD hS 0 rfl rfl 4 (by decide) (hts (.fieldLink RX0 25 "WallMarks$Counted" "belows" "I") (List.mem_of_getElem? (i := 5) (by decide +kernel))) (fun _ h9 => h9) rfl (by decide +kernel) rfl rfl (Nat.le_of_ble_eq_true rfl) dX0_add_93 (fun H locs hP hD hS => ?_)
  have hP : va_P D vwCl [(qC, .inr (0, [.ref qCy, .ref qCl, .ref qCb, .int (iI (ex)), .int (iI (be + 1)), .int (iI (op)), .int (iI (es)), .int (iI (ge)), .int (iI (rc)), .int (iI (lr)), .int (iI (lw))])), (qCy, .inl (cyI, 60, .inl (xA (ey)))), (qCl, .inl (cyI, 60, .inl (xA (el)))), (qCb, .inl (cyI, 60, .inl (xA (uz bl (be) (v)))))] H := hP
  have hD : va_D A [(qC, .inr (0, [.ref qCy, .ref qCl, .ref qCb, .int (iI (ex)), .int (iI (be + 1)), .int (iI (op)), .int (iI (es)), .int (iI (ge)), .int (iI (rc)), .int (iI (lr)), .int (iI (lw))])), (qCy, .inl (cyI, 60, .inl (xA (ey)))), (qCl, .inl (cyI, 60, .inl (xA (el)))), (qCb, .inl (cyI, 60, .inl (xA (uz bl (be) (v)))))] := hD
  refine lv_goto (tgt := 109) hx hb dX0_add_96 (by decide) ?_
  have he0 : (uz bl (be) (v) : Int → Int) = (uz bl be v) := by first | rfl | omega
  have hW8 := congrArg (fun (xv0 : Int → Int) => ([(qC, .inr (0, [.ref qCy, .ref qCl, .ref qCb, .int (iI (ex)), .int (iI (be + 1)), .int (iI (op)), .int (iI (es)), .int (iI (ge)), .int (iI (rc)), .int (iI (lr)), .int (iI (lw))])), (qCy, .inl (cyI, 60, .inl (xA (ey)))), (qCl, .inl (cyI, 60, .inl (xA (el)))), (qCb, .inl (cyI, 60, .inl (xA (xv0))))] : va_W)) he0
  have hW9 : ([(qC, .inr (0, [.ref qCy, .ref qCl, .ref qCb, .int (iI (ex)), .int (iI (be + 1)), .int (iI (op)), .int (iI (es)), .int (iI (ge)), .int (iI (rc)), .int (iI (lr)), .int (iI (lw))])), (qCy, .inl (cyI, 60, .inl (xA (ey)))), (qCl, .inl (cyI, 60, .inl (xA (el)))), (qCb, .inl (cyI, 60, .inl (xA (uz bl (be) (v)))))] : va_W) = [(qC, .inr (0, [.ref qCy, .ref qCl, .ref qCb, .int (iI (ex)), .int (iI (be + 1)), .int (iI (op)), .int (iI (es)), .int (iI (ge)), .int (iI (rc)), .int (iI (lr)), .int (iI (lw))])), (qCy, .inl (cyI, 60, .inl (xA (ey)))), (qCl, .inl (cyI, 60, .inl (xA (el)))), (qCb, .inl (cyI, 60, .inl (xA (uz bl be v))))] := hW8
  rw [hW9] at hP hD
  exact W.vret hx hb hr (fun t_ ht_ hW_ => ⟨⟨(), rfl, trivial, by rw [ht_]; exact hP, va_K.moved hW_.alike hK, hD⟩, hS.F ht_⟩) hS.2.2 dX0_add_109
set_option maxHeartbeats 1000000 in
set_option maxRecDepth 100000 in
theorem c_X0_add_vO (l : Launch) (D : va_G) (cyI cyJ cyO : ClassId) (qC : Nat) (qCy : Nat) (qCl : Nat) (qCb : Nat) (ex : Int) (be : Int) (op : Int) (es : Int) (ge : Int) (rc : Int) (lr : Int) (lw : Int) (ey : Int → Int) (el : Int → Int) (bl : Int → Int) (sz : Nat) (y : Int) (k : Int) (v : Int) (h_k : k = 2) : Met l yX0_add wsX0_add ({ frames := 0, cells := 0, slots := 0, locals := 0 }) (va_Pc [.ref qC, .int (iI (y)), .int (iI (k)), .int (iI (v))] (xM D vwCl [(qC, .inr (0, [.ref qCy, .ref qCl, .ref qCb, .int (iI (ex)), .int (iI (be)), .int (iI (op)), .int (iI (es)), .int (iI (ge)), .int (iI (rc)), .int (iI (lr)), .int (iI (lw))])), (qCy, .inl (cyI, 60, .inl (xA (ey)))), (qCl, .inl (cyI, 60, .inl (xA (el)))), (qCb, .inl (cyI, 60, .inl (xA (bl))))] (xT cyI cyJ cyO) sz)) (va_Qv (fun (u : Unit) => True) (xB D vwCl (xT cyI cyJ cyO) (va_A [(qC, .inr (0, [.ref qCy, .ref qCl, .ref qCb, .int (iI (ex)), .int (iI (be)), .int (iI (op)), .int (iI (es)), .int (iI (ge)), .int (iI (rc)), .int (iI (lr)), .int (iI (lw))])), (qCy, .inl (cyI, 60, .inl (xA (ey)))), (qCl, .inl (cyI, 60, .inl (xA (el)))), (qCb, .inl (cyI, 60, .inl (xA (bl))))] sz) (fun u : Unit => [(qC, .inr (0, [.ref qCy, .ref qCl, .ref qCb, .int (iI (ex)), .int (iI (be)), .int (iI (op + 1)), .int (iI (es)), .int (iI (ge)), .int (iI (rc)), .int (iI (lr)), .int (iI (lw))])), (qCy, .inl (cyI, 60, .inl (xA (ey)))), (qCl, .inl (cyI, 60, .inl (xA (el)))), (qCb, .inl (cyI, 60, .inl (xA (bl))))])) (va_A [(qC, .inr (0, [.ref qCy, .ref qCl, .ref qCb, .int (iI (ex)), .int (iI (be)), .int (iI (op)), .int (iI (es)), .int (iI (ge)), .int (iI (rc)), .int (iI (lr)), .int (iI (lw))])), (qCy, .inl (cyI, 60, .inl (xA (ey)))), (qCl, .inl (cyI, 60, .inl (xA (el)))), (qCb, .inl (cyI, 60, .inl (xA (bl))))] sz)) 0 0 (va_A [(qC, .inr (0, [.ref qCy, .ref qCl, .ref qCb, .int (iI (ex)), .int (iI (be)), .int (iI (op)), .int (iI (es)), .int (iI (ge)), .int (iI (rc)), .int (iI (lr)), .int (iI (lw))])), (qCy, .inl (cyI, 60, .inl (xA (ey)))), (qCl, .inl (cyI, 60, .inl (xA (el)))), (qCb, .inl (cyI, 60, .inl (xA (bl))))] sz) := by
  refine Met.ofW (cc := cX0_add) (maxL := 4) (ret := none) (by decide) rfl ?_
  intro p e s m args below meth c s₁ B hml hv
  obtain ⟨rfl, hsz, hP, hK, hD0⟩ := hv
  have hx := B.exec
  have hb := B.bytes
  have hr := B.returns
  have hts := atoms_spec (ws := wsX0_add) B.pre
  have hown : s.vm.findClass RX0 = some m.cls := findClass_of_methodNamed B.named
  have hlocks := B.notSynchronized
  have hcX0 : ∀ w ∈ wsX00, w ∈ wsX0_add := fun _ h => List.mem_cons_of_mem _ (List.mem_append_right _ h)
  subst hsz
  have hD := hD0.self (sz := s.heap.size)
  generalize hAe : va_A [(qC, .inr (0, [.ref qCy, .ref qCl, .ref qCb, .int (iI (ex)), .int (iI (be)), .int (iI (op)), .int (iI (es)), .int (iI (ge)), .int (iI (rc)), .int (iI (lr)), .int (iI (lw))])), (qCy, .inl (cyI, 60, .inl (xA (ey)))), (qCl, .inl (cyI, 60, .inl (xA (el)))), (qCb, .inl (cyI, 60, .inl (xA (bl))))] s.heap.size = A at hD ⊢
  have hA : ∀ q : Nat, s.heap.size ≤ q → A q := fun q h => by rw [← hAe]; exact Or.inr h
  have hS : va_S A s.heap s.heap [] := va_S.rf
  have hP : va_P D vwCl [(qC, .inr (0, [.ref qCy, .ref qCl, .ref qCb, .int (iI (ex)), .int (iI (be)), .int (iI (op)), .int (iI (es)), .int (iI (ge)), .int (iI (rc)), .int (iI (lr)), .int (iI (lw))])), (qCy, .inl (cyI, 60, .inl (xA (ey)))), (qCl, .inl (cyI, 60, .inl (xA (el)))), (qCb, .inl (cyI, 60, .inl (xA (bl))))] s.heap := hP
  have hl := lv_entry ([.ref qC, .int (iI (y)), .int (iI (k)), .int (iI (v))]) (n := 4) (Nat.le_of_ble_eq_true rfl)
  rw [lg_entry_eq]
  generalize (lg_sl ([.ref qC, .int (iI (y)), .int (iI (k)), .int (iI (v))]) ++ List.replicate (4 - (lg_sl ([.ref qC, .int (iI (y)), .int (iI (k)), .int (iI (v))])).length) Slot.unset).toArray = ls at hl ⊢
  have hl : lv_has ls 4 [(0, .ref qC), (1, .int (iI (y))), (2, .int (iI (k))), (3, .int (iI (v)))] := hl
  refine lv_iload_n hx hb dX0_add_0 rfl (lv_at hl 2 rfl) ?_
  refine xb_if_ne (tgt := 62) hx hb dX0_add_1 (by decide) (by omega) (fun h_1 => ?_) (fun h_1 => by exfalso; omega)
  refine lv_iload_n hx hb dX0_add_62 rfl (lv_at hl 2 rfl) ?_
  refine xi_const hx hb dX0_add_63 ?_
  refine xb_icmp_ne (tgt := 99) hx hb dX0_add_64 (by decide) (by omega) (fun h_2 => ?_) (fun h_2 => by exfalso; omega)
  refine lv_aload_n hx hb dX0_add_99 rfl (lv_at hl 0 rfl) ?_
  refine lv_dup hx hb dX0_add_100 rfl ?_
  refine va_get (D := D) (ci := 0) (C := RX0) (T := TX0) (N := 11) hx hb hts hcX0 hown hK hP 0 rfl rfl 5 (by decide) (hts (.fieldLink RX0 28 "WallMarks$Counted" "opens" "I") (List.mem_of_getElem? (i := 7) (by decide +kernel))) (fun _ h9 => h9) rfl dX0_add_101 ?_
  refine xi_const hx hb dX0_add_104 ?_
  refine xi_add hx hb dX0_add_105 ?_
  refine va_put (D := D) (ci := 0) (v := .int (iI (op + 1))) (ty := .int) (C := RX0) (T := TX0) (N := 11) hx hb hts hcX0 tyX0 tyX0_ok nmX0 hown hK hP hD hS 0 rfl rfl 5 (by decide) (hts (.fieldLink RX0 28 "WallMarks$Counted" "opens" "I") (List.mem_of_getElem? (i := 7) (by decide +kernel))) (fun _ h9 => h9) rfl (by decide +kernel) rfl rfl (Nat.le_of_ble_eq_true rfl) dX0_add_106 (fun H locs hP hD hS => ?_)
  have hP : va_P D vwCl [(qC, .inr (0, [.ref qCy, .ref qCl, .ref qCb, .int (iI (ex)), .int (iI (be)), .int (iI (op + 1)), .int (iI (es)), .int (iI (ge)), .int (iI (rc)), .int (iI (lr)), .int (iI (lw))])), (qCy, .inl (cyI, 60, .inl (xA (ey)))), (qCl, .inl (cyI, 60, .inl (xA (el)))), (qCb, .inl (cyI, 60, .inl (xA (bl))))] H := hP
  have hD : va_D A [(qC, .inr (0, [.ref qCy, .ref qCl, .ref qCb, .int (iI (ex)), .int (iI (be)), .int (iI (op + 1)), .int (iI (es)), .int (iI (ge)), .int (iI (rc)), .int (iI (lr)), .int (iI (lw))])), (qCy, .inl (cyI, 60, .inl (xA (ey)))), (qCl, .inl (cyI, 60, .inl (xA (el)))), (qCb, .inl (cyI, 60, .inl (xA (bl))))] := hD
  exact W.vret hx hb hr (fun t_ ht_ hW_ => ⟨⟨(), rfl, trivial, by rw [ht_]; exact hP, va_K.moved hW_.alike hK, hD⟩, hS.F ht_⟩) hS.2.2 dX0_add_109
set_option maxHeartbeats 1000000 in
set_option maxRecDepth 100000 in
theorem c_J7_fill_53178 (l : Launch) (D : va_G) (cyI cyJ cyO : ClassId) (qZ : Nat) (zz : Int → Int) (sz : Nat) (x : Int) : Met l yJ7_fill_53178 wsJ7_fill_53178 ({ frames := 0, cells := 0, slots := 0, locals := 0 }) (va_Pc [.ref qZ, .int (iI (x))] (xM D vwCl [(qZ, .inl (cyI, 60, .inl (xA (zz))))] (xT cyI cyJ cyO) sz)) (va_Qv (fun (u : Unit) => True) (xB D vwCl (xT cyI cyJ cyO) (va_A [(qZ, .inl (cyI, 60, .inl (xA (zz))))] sz) (fun u : Unit => [(qZ, .inl (cyI, 60, .inl (xA (fun _ => x))))])) (va_A [(qZ, .inl (cyI, 60, .inl (xA (zz))))] sz)) 0 0 (va_A [(qZ, .inl (cyI, 60, .inl (xA (zz))))] sz) := by
  refine Met.ofW (cc := cJ7_fill_53178) (maxL := 4) (ret := none) (by decide) rfl ?_
  intro p e s m args below meth c s₁ B hml hv
  obtain ⟨rfl, hsz, hP, hK, hD0⟩ := hv
  have hx := B.exec
  have hb := B.bytes
  have hr := B.returns
  have hts := atoms_spec (ws := wsJ7_fill_53178) B.pre
  have hown : s.vm.findClass RJ7 = some m.cls := findClass_of_methodNamed B.named
  have hlocks := B.notSynchronized
  subst hsz
  have hD := hD0.self (sz := s.heap.size)
  generalize hAe : va_A [(qZ, .inl (cyI, 60, .inl (xA (zz))))] s.heap.size = A at hD ⊢
  have hA : ∀ q : Nat, s.heap.size ≤ q → A q := fun q h => by rw [← hAe]; exact Or.inr h
  have hS : va_S A s.heap s.heap [] := va_S.rf
  have hP : va_P D vwCl [(qZ, .inl (cyI, 60, .inl (xA (zz))))] s.heap := hP
  have hl := lv_entry ([.ref qZ, .int (iI (x))]) (n := 4) (Nat.le_of_ble_eq_true rfl)
  rw [lg_entry_eq]
  generalize (lg_sl ([.ref qZ, .int (iI (x))]) ++ List.replicate (4 - (lg_sl ([.ref qZ, .int (iI (x))])).length) Slot.unset).toArray = ls at hl ⊢
  have hl : lv_has ls 4 [(0, .ref qZ), (1, .int (iI (x)))] := hl
  have cut_5 : ∀ (N_ : Nat) (i : Int) (z : Int → Int) (hi : 0 ≤ i ∧ i ≤ 60) (hf : ∀ j, 0 ≤ j → j < i → z j = x) (hN_ : (60 - i).toNat < N_) (H : Heap) (locs : List Loc) (hP : va_P D vwCl [(qZ, .inl (cyI, 60, .inl (xA (z))))] H) (hD : va_D A [(qZ, .inl (cyI, 60, .inl (xA (z))))]) (hS : va_S A s.heap H locs) (ls : Array Slot) (hl : lv_has ls 4 [(0, .ref qZ), (1, .int (iI (x))), (2, .int (iI (i))), (3, .int (iI (60)))]), W p l e (headSpec wsJ7_fill_53178 ({ frames := 0, cells := 0, slots := 0, locals := 0 })).room s m ([.ref qZ, .int (iI (x))] : List Value).toArray below meth c H locs 0 0 (MQ below (va_Qv (fun (u : Unit) => True) (xB D vwCl (xT cyI cyJ cyO) A (fun u : Unit => [(qZ, .inl (cyI, 60, .inl (xA (fun _ => x))))])) A) ([.ref qZ, .int (iI (x))] : List Value).toArray s 0 0 A) (F0 m 5 ls []) := by
    intro N_
    induction N_ with
    | zero => intro i z hi hf hN_ H locs hP hD hS ls hl; exact absurd hN_ (Nat.not_lt_zero _)
    | succ N_ ih_5 =>
      intro i z hi hf hN_ H locs hP hD hS ls hl
      refine lv_iload_n hx hb dJ7_fill_53178_5 rfl (lv_at hl 2 rfl) ?_
      refine lv_iload_n hx hb dJ7_fill_53178_6 rfl (lv_at hl 3 rfl) ?_
      refine xb_icmp_ge (tgt := 20) hx hb dJ7_fill_53178_7 (by decide) (by omega) (fun h_1 => ?_) (fun h_1 => ?_)
      · have hP := xP_congr hP 0 (fun _ => x) rfl (by intro j h1 h2; exact hf j h1 (by omega))
        have hD := hD.set (p := 0) (e := .inl (cyI, 60, .inl (xA (fun _ => x)))) rfl
        have hP : va_P D vwCl [(qZ, .inl (cyI, 60, .inl (xA (fun _ => x))))] H := hP
        have hD : va_D A [(qZ, .inl (cyI, 60, .inl (xA (fun _ => x))))] := hD
        exact W.vret hx hb hr (fun t_ ht_ hW_ => ⟨⟨(), rfl, trivial, by rw [ht_]; exact hP, va_K.moved hW_.alike hK, hD⟩, hS.F ht_⟩) hS.2.2 dJ7_fill_53178_20
      · refine lv_aload_n hx hb dJ7_fill_53178_10 rfl (lv_at hl 0 rfl) ?_
        refine lv_iload_n hx hb dJ7_fill_53178_11 rfl (lv_at hl 2 rfl) ?_
        refine lv_iload_n hx hb dJ7_fill_53178_12 rfl (lv_at hl 1 rfl) ?_
        refine xi_ast (D := D) hx hb hK hP hD hS 0 0 rfl rfl (by decide) (by omega) dJ7_fill_53178_13 (fun H locs hP hD hS => ?_)
        have hP : va_P D vwCl [(qZ, .inl (cyI, 60, .inl (xA (uz z (i) (x)))))] H := hP
        have hD : va_D A [(qZ, .inl (cyI, 60, .inl (xA (uz z (i) (x)))))] := hD
        refine xi_inc (k := 2) (lv' := [(2, .int (iI (i + 1))), (0, .ref qZ), (1, .int (iI (x))), (3, .int (iI (60)))]) hx hb dJ7_fill_53178_14 hl rfl (by decide) rfl (fun ls hl => ?_)
        refine lv_goto (tgt := 5) hx hb dJ7_fill_53178_17 (by decide) ?_
        exact ih_5 (i + 1) (uz z (i) (x)) (by first | assumption | omega | (constructor <;> omega)) (by first | (intro j h1 h2; exfalso; omega) | (exact fill_s hf)) (by omega) _ _ hP hD hS ls (lv_sub hl [1, 2, 0, 3] rfl)
  refine xi_const hx hb dJ7_fill_53178_0 ?_
  refine lv_istore_n (lv' := [(2, .int (iI (0))), (0, .ref qZ), (1, .int (iI (x)))]) hx hb dJ7_fill_53178_1 rfl hl (by decide) rfl (fun ls hl => ?_)
  refine lv_aload_n hx hb dJ7_fill_53178_2 rfl (lv_at hl 1 rfl) ?_
  refine va_alen (D := D) (v := iI 60) hx hb hK hP 0 0 rfl rfl rfl dJ7_fill_53178_3 ?_
  refine lv_istore_n (lv' := [(3, .int (iI (60))), (2, .int (iI (0))), (0, .ref qZ), (1, .int (iI (x)))]) hx hb dJ7_fill_53178_4 rfl hl (by decide) rfl (fun ls hl => ?_)
  exact cut_5 ((60 - 0 : Int).toNat + 1) (0) (zz) (by first | assumption | omega | (constructor <;> omega)) (by first | (intro j h1 h2; exfalso; omega) | (exact fill_s hf)) (by exact Nat.lt_succ_self _) _ _ hP hD hS ls (lv_sub hl [2, 3, 1, 0] rfl)
set_option maxHeartbeats 1000000 in
set_option maxRecDepth 100000 in
theorem c_J7_fill_d0a16 (l : Launch) (D : va_G) (cyI cyJ cyO : ClassId) (qZL : Nat) (zl : Int → Int) (sz : Nat) (x : Int) : Met l yJ7_fill_d0a16 wsJ7_fill_d0a16 ({ frames := 0, cells := 0, slots := 0, locals := 0 }) (va_Pc [.ref qZL, .long (lI (x))] (xM D vwCl [(qZL, .inl (cyJ, 13, .inr (.inl (xL (zl)))))] (xT cyI cyJ cyO) sz)) (va_Qv (fun (u : (Int → Int)) => (∀ j, 0 ≤ j → j < 13 → u j = x)) (xB D vwCl (xT cyI cyJ cyO) (va_A [(qZL, .inl (cyJ, 13, .inr (.inl (xL (zl)))))] sz) (fun u : (Int → Int) => [(qZL, .inl (cyJ, 13, .inr (.inl (xL (u)))))])) (va_A [(qZL, .inl (cyJ, 13, .inr (.inl (xL (zl)))))] sz)) 0 0 (va_A [(qZL, .inl (cyJ, 13, .inr (.inl (xL (zl)))))] sz) := by
  refine Met.ofW (cc := cJ7_fill_d0a16) (maxL := 5) (ret := none) (by decide) rfl ?_
  intro p e s m args below meth c s₁ B hml hv
  obtain ⟨rfl, hsz, hP, hK, hD0⟩ := hv
  have hx := B.exec
  have hb := B.bytes
  have hr := B.returns
  have hts := atoms_spec (ws := wsJ7_fill_d0a16) B.pre
  have hown : s.vm.findClass RJ7 = some m.cls := findClass_of_methodNamed B.named
  have hlocks := B.notSynchronized
  subst hsz
  have hD := hD0.self (sz := s.heap.size)
  generalize hAe : va_A [(qZL, .inl (cyJ, 13, .inr (.inl (xL (zl)))))] s.heap.size = A at hD ⊢
  have hA : ∀ q : Nat, s.heap.size ≤ q → A q := fun q h => by rw [← hAe]; exact Or.inr h
  have hS : va_S A s.heap s.heap [] := va_S.rf
  have hP : va_P D vwCl [(qZL, .inl (cyJ, 13, .inr (.inl (xL (zl)))))] s.heap := hP
  have hl := lv_entry ([.ref qZL, .long (lI (x))]) (n := 5) (Nat.le_of_ble_eq_true rfl)
  rw [lg_entry_eq]
  generalize (lg_sl ([.ref qZL, .long (lI (x))]) ++ List.replicate (5 - (lg_sl ([.ref qZL, .long (lI (x))])).length) Slot.unset).toArray = ls at hl ⊢
  have hl : lv_has ls 5 [(0, .ref qZL), (1, .long (lI (x)))] := hl
  have cut_6 : ∀ (N_ : Nat) (i : Int) (z : Int → Int) (hi : 0 ≤ i ∧ i ≤ 13) (hf : ∀ j, 0 ≤ j → j < i → z j = x) (hN_ : (13 - i).toNat < N_) (H : Heap) (locs : List Loc) (hP : va_P D vwCl [(qZL, .inl (cyJ, 13, .inr (.inl (xL (z)))))] H) (hD : va_D A [(qZL, .inl (cyJ, 13, .inr (.inl (xL (z)))))]) (hS : va_S A s.heap H locs) (ls : Array Slot) (hl : lv_has ls 5 [(0, .ref qZL), (1, .long (lI (x))), (3, .int (iI (i))), (4, .int (iI (13)))]), W p l e (headSpec wsJ7_fill_d0a16 ({ frames := 0, cells := 0, slots := 0, locals := 0 })).room s m ([.ref qZL, .long (lI (x))] : List Value).toArray below meth c H locs 0 0 (MQ below (va_Qv (fun (u : (Int → Int)) => (∀ j, 0 ≤ j → j < 13 → u j = x)) (xB D vwCl (xT cyI cyJ cyO) A (fun u : (Int → Int) => [(qZL, .inl (cyJ, 13, .inr (.inl (xL (u)))))])) A) ([.ref qZL, .long (lI (x))] : List Value).toArray s 0 0 A) (F0 m 6 ls []) := by
    intro N_
    induction N_ with
    | zero => intro i z hi hf hN_ H locs hP hD hS ls hl; exact absurd hN_ (Nat.not_lt_zero _)
    | succ N_ ih_6 =>
      intro i z hi hf hN_ H locs hP hD hS ls hl
      refine lv_iload_n hx hb dJ7_fill_d0a16_6 rfl (lv_at hl 2 rfl) ?_
      refine lv_iload hx hb dJ7_fill_d0a16_7 (lv_at hl 3 rfl) ?_
      refine xb_icmp_ge (tgt := 22) hx hb dJ7_fill_d0a16_9 (by decide) (by omega) (fun h_1 => ?_) (fun h_1 => ?_)
      · exact W.vret hx hb hr (fun t_ ht_ hW_ => ⟨⟨(z), rfl, (show ∀ j, 0 ≤ j → j < 13 → z j = x from by intro j h1 h2; exact hf j h1 (by omega)), by rw [ht_]; exact hP, va_K.moved hW_.alike hK, hD⟩, hS.F ht_⟩) hS.2.2 dJ7_fill_d0a16_22
      · refine lv_aload_n hx hb dJ7_fill_d0a16_12 rfl (lv_at hl 0 rfl) ?_
        refine lv_iload_n hx hb dJ7_fill_d0a16_13 rfl (lv_at hl 2 rfl) ?_
        refine lv_lload_n hx hb dJ7_fill_d0a16_14 rfl (lv_at hl 1 rfl) ?_
        refine xl_ast (D := D) hx hb hK hP hD hS 0 1 rfl rfl (by decide) (by omega) dJ7_fill_d0a16_15 (fun H locs hP hD hS => ?_)
        have hP : va_P D vwCl [(qZL, .inl (cyJ, 13, .inr (.inl (xL (uz z (i) (x))))))] H := hP
        have hD : va_D A [(qZL, .inl (cyJ, 13, .inr (.inl (xL (uz z (i) (x))))))] := hD
        refine xi_inc (k := 2) (lv' := [(3, .int (iI (i + 1))), (0, .ref qZL), (1, .long (lI (x))), (4, .int (iI (13)))]) hx hb dJ7_fill_d0a16_16 hl rfl (by decide) rfl (fun ls hl => ?_)
        refine lv_goto (tgt := 6) hx hb dJ7_fill_d0a16_19 (by decide) ?_
        exact ih_6 (i + 1) (uz z (i) (x)) (by first | assumption | omega | (constructor <;> omega)) (by first | (intro j h1 h2; exfalso; omega) | (exact fill_s hf)) (by omega) _ _ hP hD hS ls (lv_sub hl [1, 2, 0, 3] rfl)
  refine xi_const hx hb dJ7_fill_d0a16_0 ?_
  refine lv_istore_n (lv' := [(3, .int (iI (0))), (0, .ref qZL), (1, .long (lI (x)))]) hx hb dJ7_fill_d0a16_1 rfl hl (by decide) rfl (fun ls hl => ?_)
  refine lv_aload_n hx hb dJ7_fill_d0a16_2 rfl (lv_at hl 1 rfl) ?_
  refine va_alen (D := D) (v := iI 13) hx hb hK hP 0 1 rfl rfl rfl dJ7_fill_d0a16_3 ?_
  refine lv_istore (lv' := [(4, .int (iI (13))), (3, .int (iI (0))), (0, .ref qZL), (1, .long (lI (x)))]) hx hb dJ7_fill_d0a16_4 hl (by decide) rfl (fun ls hl => ?_)
  exact cut_6 ((13 - 0 : Int).toNat + 1) (0) (zl) (by first | assumption | omega | (constructor <;> omega)) (by first | (intro j h1 h2; exfalso; omega) | (exact fill_s hf)) (by exact Nat.lt_succ_self _) _ _ hP hD hS ls (lv_sub hl [2, 3, 1, 0] rfl)
set_option maxHeartbeats 1000000 in
set_option maxRecDepth 100000 in
theorem c_X2_forget (l : Launch) (D : va_G) (cyI cyJ cyO : ClassId) (qK : Nat) (qKk : Nat) (qKl : Nat) (kk : Int → Int) (kl : Int → Int) (sz : Nat) : Met l yX2_forget wsX2_forget ({ frames := 1, cells := 0, slots := 0, locals := 23 }) (va_Pc [.ref qK] (xM D vwCl [(qK, .inr (2, [.ref qKk, .ref qKl])), (qKk, .inl (cyI, 60, .inl (xA (kk)))), (qKl, .inl (cyI, 60, .inl (xA (kl))))] (xT cyI cyJ cyO) sz)) (va_Qv (fun (u : Unit) => True) (xB D vwCl (xT cyI cyJ cyO) (va_A [(qK, .inr (2, [.ref qKk, .ref qKl])), (qKk, .inl (cyI, 60, .inl (xA (kk)))), (qKl, .inl (cyI, 60, .inl (xA (kl))))] sz) (fun u : Unit => [(qK, .inr (2, [.ref qKk, .ref qKl])), (qKk, .inl (cyI, 60, .inl (xA (fun _ => 2)))), (qKl, .inl (cyI, 60, .inl (xA (fun _ => -1))))])) (va_A [(qK, .inr (2, [.ref qKk, .ref qKl])), (qKk, .inl (cyI, 60, .inl (xA (kk)))), (qKl, .inl (cyI, 60, .inl (xA (kl))))] sz)) 0 0 (va_A [(qK, .inr (2, [.ref qKk, .ref qKl])), (qKk, .inl (cyI, 60, .inl (xA (kk)))), (qKl, .inl (cyI, 60, .inl (xA (kl))))] sz) := by
  refine Met.ofW (cc := cX2_forget) (maxL := 1) (ret := none) (by decide) rfl ?_
  intro p e s m args below meth c s₁ B hml hv
  obtain ⟨rfl, hsz, hP, hK, hD0⟩ := hv
  have hx := B.exec
  have hb := B.bytes
  have hr := B.returns
  have hts := atoms_spec (ws := wsX2_forget) B.pre
  have hown : s.vm.findClass RX2 = some m.cls := findClass_of_methodNamed B.named
  have hlocks := B.notSynchronized
  have hcX2 : ∀ w ∈ wsX20, w ∈ wsX2_forget := fun _ h => List.mem_cons_of_mem _ (List.mem_append_right _ h)
  subst hsz
  have hD := hD0.self (sz := s.heap.size)
  generalize hAe : va_A [(qK, .inr (2, [.ref qKk, .ref qKl])), (qKk, .inl (cyI, 60, .inl (xA (kk)))), (qKl, .inl (cyI, 60, .inl (xA (kl))))] s.heap.size = A at hD ⊢
  have hA : ∀ q : Nat, s.heap.size ≤ q → A q := fun q h => by rw [← hAe]; exact Or.inr h
  have hS : va_S A s.heap s.heap [] := va_S.rf
  have hP : va_P D vwCl [(qK, .inr (2, [.ref qKk, .ref qKl])), (qKk, .inl (cyI, 60, .inl (xA (kk)))), (qKl, .inl (cyI, 60, .inl (xA (kl))))] s.heap := hP
  have hl := lv_entry ([.ref qK]) (n := 1) (Nat.le_of_ble_eq_true rfl)
  rw [lg_entry_eq]
  generalize (lg_sl ([.ref qK]) ++ List.replicate (1 - (lg_sl ([.ref qK])).length) Slot.unset).toArray = ls at hl ⊢
  have hl : lv_has ls 1 [(0, .ref qK)] := hl
  refine lv_aload_n hx hb dX2_forget_0 rfl (lv_at hl 0 rfl) ?_
  refine va_get (D := D) (ci := 2) (C := RX2) (T := TX2) (N := 2) hx hb hts hcX2 hown hK hP 0 rfl rfl 0 (by decide) (hts (.fieldLink RX2 9 "WallMarks$Known" "kinds" "[I") (List.mem_of_getElem? (i := 1) (by decide +kernel))) (fun _ h9 => h9) rfl dX2_forget_1 ?_
  refine xi_const hx hb dX2_forget_4 ?_
  have hPc := hP.sub (ws' := [(qKk, .inl (cyI, 60, .inl (xA (kk))))]) [1] rfl
  have hDc := hD.sub (ws' := [(qKk, .inl (cyI, 60, .inl (xA (kk))))]) [1] (by decide) rfl
  have hFc := va_free (wc := [(qKk, .inl (cyI, 60, .inl (xA (kk))))]) hD hS hA [1] rfl
  refine va_callv (va_runS (As := [.ref qKk, .int (iI (2))]) (rest := []) ⟨hx, hb, hml, hown, hts⟩ (c_J7_fill_53178 l D cyI cyJ cyO qKk kk s.heap.size 2) (va_cwS 2 hts gX2_forget_J7_fill_53178 rfl rfl rfl (by decide +kernel) ⟨Nat.le_of_ble_eq_true rfl, Nat.le_of_ble_eq_true rfl⟩) (xpSM hPc hK hDc) rfl rfl hl.1 rfl (lv_room (Nat.le_of_ble_eq_true rfl)) dX2_forget_5 ⟨Nat.le_of_ble_eq_true rfl, Nat.le_of_ble_eq_true rfl⟩) hS (fun q _ h => hFc q h) hFc (fun u_1 t_ H1 locs ht_ hvm hw hB hz1 hk1 hS => ?_)
  obtain ⟨hP1, hK1, hD1⟩ := hB
  rw [ht_] at hP1
  obtain ⟨hP, hD⟩ := xj (wc := [(qKk, .inl (cyI, 60, .inl (xA (kk))))]) (w1 := [(qKk, .inl (cyI, 60, .inl (xA (fun _ => 2))))]) hP hD [1] rfl rfl hk1 hP1
  generalize H1 = H at hP hS ⊢
  have hP : va_P D vwCl [(qK, .inr (2, [.ref qKk, .ref qKl])), (qKk, .inl (cyI, 60, .inl (xA (fun _ => 2)))), (qKl, .inl (cyI, 60, .inl (xA (kl))))] H := hP
  have hD : va_D A [(qK, .inr (2, [.ref qKk, .ref qKl])), (qKk, .inl (cyI, 60, .inl (xA (fun _ => 2)))), (qKl, .inl (cyI, 60, .inl (xA (kl))))] := hD
  have hw_2 : True := hw
  refine lv_aload_n hx hb dX2_forget_8 rfl (lv_at hl 0 rfl) ?_
  refine va_get (D := D) (ci := 2) (C := RX2) (T := TX2) (N := 2) hx hb hts hcX2 hown hK hP 0 rfl rfl 1 (by decide) (hts (.fieldLink RX2 15 "WallMarks$Known" "levels" "[I") (List.mem_of_getElem? (i := 2) (by decide +kernel))) (fun _ h9 => h9) rfl dX2_forget_9 ?_
  refine xi_const hx hb dX2_forget_12 ?_
  have hPc := hP.sub (ws' := [(qKl, .inl (cyI, 60, .inl (xA (kl))))]) [2] rfl
  have hDc := hD.sub (ws' := [(qKl, .inl (cyI, 60, .inl (xA (kl))))]) [2] (by decide) rfl
  have hFc := va_free (wc := [(qKl, .inl (cyI, 60, .inl (xA (kl))))]) hD hS hA [2] rfl
  refine va_callv (va_runS (As := [.ref qKl, .int (iI (-1))]) (rest := []) ⟨hx, hb, hml, hown, hts⟩ (c_J7_fill_53178 l D cyI cyJ cyO qKl kl H.size (-1)) (va_cwS 2 hts gX2_forget_J7_fill_53178 rfl rfl rfl (by decide +kernel) ⟨Nat.le_of_ble_eq_true rfl, Nat.le_of_ble_eq_true rfl⟩) (xpSM hPc hK hDc) rfl rfl hl.1 rfl (lv_room (Nat.le_of_ble_eq_true rfl)) dX2_forget_13 ⟨Nat.le_of_ble_eq_true rfl, Nat.le_of_ble_eq_true rfl⟩) hS (fun q _ h => hFc q h) hFc (fun u_3 t_ H1 locs ht_ hvm hw hB hz1 hk1 hS => ?_)
  obtain ⟨hP1, hK1, hD1⟩ := hB
  rw [ht_] at hP1
  obtain ⟨hP, hD⟩ := xj (wc := [(qKl, .inl (cyI, 60, .inl (xA (kl))))]) (w1 := [(qKl, .inl (cyI, 60, .inl (xA (fun _ => (-1)))))]) hP hD [2] rfl rfl hk1 hP1
  generalize H1 = H at hP hS ⊢
  have hP : va_P D vwCl [(qK, .inr (2, [.ref qKk, .ref qKl])), (qKk, .inl (cyI, 60, .inl (xA (fun _ => 2)))), (qKl, .inl (cyI, 60, .inl (xA (fun _ => (-1)))))] H := hP
  have hD : va_D A [(qK, .inr (2, [.ref qKk, .ref qKl])), (qKk, .inl (cyI, 60, .inl (xA (fun _ => 2)))), (qKl, .inl (cyI, 60, .inl (xA (fun _ => (-1)))))] := hD
  have hw_4 : True := hw
  have he0 : (fun _ => (-1) : Int → Int) = (fun _ => -1) := by first | rfl | omega
  have hW8 := congrArg (fun (xv0 : Int → Int) => ([(qK, .inr (2, [.ref qKk, .ref qKl])), (qKk, .inl (cyI, 60, .inl (xA (fun _ => 2)))), (qKl, .inl (cyI, 60, .inl (xA (xv0))))] : va_W)) he0
  have hW9 : ([(qK, .inr (2, [.ref qKk, .ref qKl])), (qKk, .inl (cyI, 60, .inl (xA (fun _ => 2)))), (qKl, .inl (cyI, 60, .inl (xA (fun _ => (-1)))))] : va_W) = [(qK, .inr (2, [.ref qKk, .ref qKl])), (qKk, .inl (cyI, 60, .inl (xA (fun _ => 2)))), (qKl, .inl (cyI, 60, .inl (xA (fun _ => -1))))] := hW8
  rw [hW9] at hP hD
  exact W.vret hx hb hr (fun t_ ht_ hW_ => ⟨⟨(), rfl, trivial, by rw [ht_]; exact hP, va_K.moved hW_.alike hK, hD⟩, hS.F ht_⟩) hS.2.2 dX2_forget_16
set_option maxHeartbeats 1000000 in
set_option maxRecDepth 100000 in
theorem c_X2_put (l : Launch) (D : va_G) (cyI cyJ cyO : ClassId) (qK : Nat) (qKk : Nat) (qKl : Nat) (kk : Int → Int) (kl : Int → Int) (sz : Nat) (y : Int) (k : Int) (v : Int) (h_y : 0 ≤ y ∧ y < 60) (h_k : -2147483648 ≤ k ∧ k ≤ 2147483647) : Met l yX2_put wsX2_put ({ frames := 1, cells := 0, slots := 0, locals := 20 }) (va_Pc [.ref qK, .int (iI (y)), .int (iI (k)), .int (iI (v))] (xMN D vwCl [(qK, .inr (2, [.ref qKk, .ref qKl])), (qKk, .inl (cyI, 60, .inl (xA (kk)))), (qKl, .inl (cyI, 60, .inl (xA (kl))))] (xT cyI cyJ cyO) sz nsK)) (va_Qv (fun (u : Unit) => True) (xB D vwCl (xT cyI cyJ cyO) (va_A [(qK, .inr (2, [.ref qKk, .ref qKl])), (qKk, .inl (cyI, 60, .inl (xA (kk)))), (qKl, .inl (cyI, 60, .inl (xA (kl))))] sz) (fun u : Unit => [(qK, .inr (2, [.ref qKk, .ref qKl])), (qKk, .inl (cyI, 60, .inl (xA (uz kk y k)))), (qKl, .inl (cyI, 60, .inl (xA (uz kl y (if k = 2 then -1 else v)))))])) (va_A [(qK, .inr (2, [.ref qKk, .ref qKl])), (qKk, .inl (cyI, 60, .inl (xA (kk)))), (qKl, .inl (cyI, 60, .inl (xA (kl))))] sz)) 0 0 (va_A [(qK, .inr (2, [.ref qKk, .ref qKl])), (qKk, .inl (cyI, 60, .inl (xA (kk)))), (qKl, .inl (cyI, 60, .inl (xA (kl))))] sz) := by
  refine Met.ofW (cc := cX2_put) (maxL := 4) (ret := none) (by decide) rfl ?_
  intro p e s m args below meth c s₁ B hml hv
  obtain ⟨rfl, ⟨hsz, hP, hK, hD0⟩, hN⟩ := hv
  have hx := B.exec
  have hb := B.bytes
  have hr := B.returns
  have hts := atoms_spec (ws := wsX2_put) B.pre
  have hown : s.vm.findClass RX2 = some m.cls := findClass_of_methodNamed B.named
  have hlocks := B.notSynchronized
  have hcX2 : ∀ w ∈ wsX20, w ∈ wsX2_put := fun _ h => List.mem_cons_of_mem _ (List.mem_append_right _ h)
  subst hsz
  have hD := hD0.self (sz := s.heap.size)
  generalize hAe : va_A [(qK, .inr (2, [.ref qKk, .ref qKl])), (qKk, .inl (cyI, 60, .inl (xA (kk)))), (qKl, .inl (cyI, 60, .inl (xA (kl))))] s.heap.size = A at hD ⊢
  have hA : ∀ q : Nat, s.heap.size ≤ q → A q := fun q h => by rw [← hAe]; exact Or.inr h
  have hS : va_S A s.heap s.heap [] := va_S.rf
  have hP : va_P D vwCl [(qK, .inr (2, [.ref qKk, .ref qKl])), (qKk, .inl (cyI, 60, .inl (xA (kk)))), (qKl, .inl (cyI, 60, .inl (xA (kl))))] s.heap := hP
  have hl := lv_entry ([.ref qK, .int (iI (y)), .int (iI (k)), .int (iI (v))]) (n := 4) (Nat.le_of_ble_eq_true rfl)
  rw [lg_entry_eq]
  generalize (lg_sl ([.ref qK, .int (iI (y)), .int (iI (k)), .int (iI (v))]) ++ List.replicate (4 - (lg_sl ([.ref qK, .int (iI (y)), .int (iI (k)), .int (iI (v))])).length) Slot.unset).toArray = ls at hl ⊢
  have hl : lv_has ls 4 [(0, .ref qK), (1, .int (iI (y))), (2, .int (iI (k))), (3, .int (iI (v)))] := hl
  refine lv_iload_n hx hb dX2_put_0 rfl (lv_at hl 1 rfl) ?_
  have hPc := hP.sub (ws' := []) [] rfl
  refine xc_i (va_runSN (As := [.int (iI (y))]) (rest := []) ⟨hx, hb, hml, hown, hts⟩ (c_X6_isYear l D cyI cyJ cyO y (by first | exact h_y | assumption | omega)) ⟨va_cnB 1 hts gX2_put_X6_isYear_n24 rfl rfl rfl (hN (RX2, 24, yX6_isYear, "WallMarks") (List.mem_of_getElem? (i := 0) rfl)) (hts (.initialized RX6) (List.mem_of_getElem? (i := 4) (by decide +kernel))) (by decide +kernel) ⟨Nat.le_of_ble_eq_true rfl, Nat.le_of_ble_eq_true rfl⟩, (hts (.static yX6_isYear) (List.mem_of_getElem? (i := 3) (by decide +kernel))), trivial⟩ (xpS hPc hK) rfl rfl hl.1 rfl (lv_room (Nat.le_of_ble_eq_true rfl)) dX2_put_1 ⟨Nat.le_of_ble_eq_true rfl, Nat.le_of_ble_eq_true rfl⟩) ?_
  refine xb_if_eqB (tgt := 30) hx hb dX2_put_4 (by decide) (fun h_1 => by exfalso; omega) (fun h_1 => ?_)
  refine lv_aload_n hx hb dX2_put_7 rfl (lv_at hl 0 rfl) ?_
  refine va_get (D := D) (ci := 2) (C := RX2) (T := TX2) (N := 2) hx hb hts hcX2 hown hK hP 0 rfl rfl 0 (by decide) (hts (.fieldLink RX2 9 "WallMarks$Known" "kinds" "[I") (List.mem_of_getElem? (i := 1) (by decide +kernel))) (fun _ h9 => h9) rfl dX2_put_8 ?_
  refine lv_iload_n hx hb dX2_put_11 rfl (lv_at hl 1 rfl) ?_
  refine lv_iload_n hx hb dX2_put_12 rfl (lv_at hl 2 rfl) ?_
  refine xi_ast (D := D) hx hb hK hP hD hS 1 0 rfl rfl (by decide) (by omega) dX2_put_13 (fun H locs hP hD hS => ?_)
  have hP : va_P D vwCl [(qK, .inr (2, [.ref qKk, .ref qKl])), (qKk, .inl (cyI, 60, .inl (xA (uz kk (y) (k))))), (qKl, .inl (cyI, 60, .inl (xA (kl))))] H := hP
  have hD : va_D A [(qK, .inr (2, [.ref qKk, .ref qKl])), (qKk, .inl (cyI, 60, .inl (xA (uz kk (y) (k))))), (qKl, .inl (cyI, 60, .inl (xA (kl))))] := hD
  refine lv_aload_n hx hb dX2_put_14 rfl (lv_at hl 0 rfl) ?_
  refine va_get (D := D) (ci := 2) (C := RX2) (T := TX2) (N := 2) hx hb hts hcX2 hown hK hP 0 rfl rfl 1 (by decide) (hts (.fieldLink RX2 15 "WallMarks$Known" "levels" "[I") (List.mem_of_getElem? (i := 2) (by decide +kernel))) (fun _ h9 => h9) rfl dX2_put_15 ?_
  refine lv_iload_n hx hb dX2_put_18 rfl (lv_at hl 1 rfl) ?_
  refine lv_iload_n hx hb dX2_put_19 rfl (lv_at hl 2 rfl) ?_
  refine xi_const hx hb dX2_put_20 ?_
  refine xb_icmp_ne (tgt := 28) hx hb dX2_put_21 (by decide) (by omega) (fun h_2 => ?_) (fun h_2 => ?_)
  · refine lv_iload_n hx hb dX2_put_28 rfl (lv_at hl 3 rfl) ?_
    refine xi_ast (D := D) hx hb hK hP hD hS 2 0 rfl rfl (by decide) (by omega) dX2_put_29 (fun H locs hP hD hS => ?_)
    have hP : va_P D vwCl [(qK, .inr (2, [.ref qKk, .ref qKl])), (qKk, .inl (cyI, 60, .inl (xA (uz kk (y) (k))))), (qKl, .inl (cyI, 60, .inl (xA (uz kl (y) (v)))))] H := hP
    have hD : va_D A [(qK, .inr (2, [.ref qKk, .ref qKl])), (qKk, .inl (cyI, 60, .inl (xA (uz kk (y) (k))))), (qKl, .inl (cyI, 60, .inl (xA (uz kl (y) (v)))))] := hD
    have he0 : (uz kk (y) (k) : Int → Int) = (uz kk y k) := by first | rfl | omega
    have he1 : (uz kl (y) (v) : Int → Int) = (uz kl y (if k = 2 then -1 else v)) := by first | rw [if_pos (by omega)] | rw [if_neg (by omega)]
    have hW8 := congr (congrArg (fun (xv0 : Int → Int) (xv1 : Int → Int) => ([(qK, .inr (2, [.ref qKk, .ref qKl])), (qKk, .inl (cyI, 60, .inl (xA (xv0)))), (qKl, .inl (cyI, 60, .inl (xA (xv1))))] : va_W)) he0) he1
    have hW9 : ([(qK, .inr (2, [.ref qKk, .ref qKl])), (qKk, .inl (cyI, 60, .inl (xA (uz kk (y) (k))))), (qKl, .inl (cyI, 60, .inl (xA (uz kl (y) (v)))))] : va_W) = [(qK, .inr (2, [.ref qKk, .ref qKl])), (qKk, .inl (cyI, 60, .inl (xA (uz kk y k)))), (qKl, .inl (cyI, 60, .inl (xA (uz kl y (if k = 2 then -1 else v)))))] := hW8
    rw [hW9] at hP hD
    exact W.vret hx hb hr (fun t_ ht_ hW_ => ⟨⟨(), rfl, trivial, by rw [ht_]; exact hP, va_K.moved hW_.alike hK, hD⟩, hS.F ht_⟩) hS.2.2 dX2_put_30
  · refine xi_const hx hb dX2_put_24 ?_
    refine lv_goto (tgt := 29) hx hb dX2_put_25 (by decide) ?_
    refine xi_ast (D := D) hx hb hK hP hD hS 2 0 rfl rfl (by decide) (by omega) dX2_put_29 (fun H locs hP hD hS => ?_)
    have hP : va_P D vwCl [(qK, .inr (2, [.ref qKk, .ref qKl])), (qKk, .inl (cyI, 60, .inl (xA (uz kk (y) (k))))), (qKl, .inl (cyI, 60, .inl (xA (uz kl (y) (-1)))))] H := hP
    have hD : va_D A [(qK, .inr (2, [.ref qKk, .ref qKl])), (qKk, .inl (cyI, 60, .inl (xA (uz kk (y) (k))))), (qKl, .inl (cyI, 60, .inl (xA (uz kl (y) (-1)))))] := hD
    have he0 : (uz kk (y) (k) : Int → Int) = (uz kk y k) := by first | rfl | omega
    have he1 : (uz kl (y) (-1) : Int → Int) = (uz kl y (if k = 2 then -1 else v)) := by first | rw [if_pos (by omega)] | rw [if_neg (by omega)]
    have hW8 := congr (congrArg (fun (xv0 : Int → Int) (xv1 : Int → Int) => ([(qK, .inr (2, [.ref qKk, .ref qKl])), (qKk, .inl (cyI, 60, .inl (xA (xv0)))), (qKl, .inl (cyI, 60, .inl (xA (xv1))))] : va_W)) he0) he1
    have hW9 : ([(qK, .inr (2, [.ref qKk, .ref qKl])), (qKk, .inl (cyI, 60, .inl (xA (uz kk (y) (k))))), (qKl, .inl (cyI, 60, .inl (xA (uz kl (y) (-1)))))] : va_W) = [(qK, .inr (2, [.ref qKk, .ref qKl])), (qKk, .inl (cyI, 60, .inl (xA (uz kk y k)))), (qKl, .inl (cyI, 60, .inl (xA (uz kl y (if k = 2 then -1 else v)))))] := hW8
    rw [hW9] at hP hD
    exact W.vret hx hb hr (fun t_ ht_ hW_ => ⟨⟨(), rfl, trivial, by rw [ht_]; exact hP, va_K.moved hW_.alike hK, hD⟩, hS.F ht_⟩) hS.2.2 dX2_put_30
set_option maxHeartbeats 1000000 in
set_option maxRecDepth 100000 in
theorem c_X5_hasRoom (l : Launch) (D : va_G) (cyI cyJ cyO : ClassId) (qA : Nat) (qAf : Nat) (qAt : Nat) (qAl : Nat) (wn : Int) (h_wn : 0 ≤ wn ∧ wn ≤ 6) : Met l yX5_hasRoom wsX5_hasRoom ({ frames := 0, cells := 0, slots := 0, locals := 0 }) (va_Pc [.ref qA] (xR D vwCl [(qA, .inr (5, [.ref qAf, .ref qAt, .ref qAl, .int (iI (wn))]))] (xT cyI cyJ cyO))) (xq (some (.int (iI (b2 (wn < 6)))))) 0 0 (fun _ => False) := by
  refine Met.ofW (cc := cX5_hasRoom) (maxL := 1) (ret := (some .boolean)) (by decide) rfl ?_
  intro p e s m args below meth c s₁ B hml hv
  obtain ⟨rfl, hP, hK⟩ := hv
  have hx := B.exec
  have hb := B.bytes
  have hr := B.returns
  have hts := atoms_spec (ws := wsX5_hasRoom) B.pre
  have hown : s.vm.findClass RX5 = some m.cls := findClass_of_methodNamed B.named
  have hlocks := B.notSynchronized
  have hcX5 : ∀ w ∈ wsX50, w ∈ wsX5_hasRoom := fun _ h => List.mem_cons_of_mem _ (List.mem_append_right _ h)
  have hP : va_P D vwCl [(qA, .inr (5, [.ref qAf, .ref qAt, .ref qAl, .int (iI (wn))]))] s.heap := hP
  have hl := lv_entry ([.ref qA]) (n := 1) (Nat.le_of_ble_eq_true rfl)
  rw [lg_entry_eq]
  generalize (lg_sl ([.ref qA]) ++ List.replicate (1 - (lg_sl ([.ref qA])).length) Slot.unset).toArray = ls at hl ⊢
  have hl : lv_has ls 1 [(0, .ref qA)] := hl
  refine lv_aload_n hx hb dX5_hasRoom_0 rfl (lv_at hl 0 rfl) ?_
  refine va_get (D := D) (ci := 5) (C := RX5) (T := TX5) (N := 4) hx hb hts hcX5 hown hK hP 0 rfl rfl 3 (by decide) (hts (.fieldLink RX5 21 "WallMarks$Watches" "size" "I") (List.mem_of_getElem? (i := 1) (by decide +kernel))) (fun _ h9 => h9) rfl dX5_hasRoom_1 ?_
  refine xi_bipush hx hb dX5_hasRoom_4 (by decide +kernel) ?_
  refine xb_icmp_ge (tgt := 13) hx hb dX5_hasRoom_6 (by decide) (by omega) (fun h_1 => ?_) (fun h_1 => ?_)
  · refine xi_const hx hb dX5_hasRoom_13 ?_
    exact W.zret (v := iI (0)) hx hb hr (by decide +kernel) (fun t_ ht_ _ => ⟨congrArg (fun z => Outcome.returned (some (Value.int (iI z)))) (show (0 : Int) = b2 (wn < 6) from (b2_f (by first | assumption | omega | (constructor <;> first | assumption | omega))).symm), ht_⟩) (fun _ h9 => absurd h9 List.not_mem_nil) dX5_hasRoom_14
  · refine xi_const hx hb dX5_hasRoom_9 ?_
    refine lv_goto (tgt := 14) hx hb dX5_hasRoom_10 (by decide) ?_
    exact W.zret (v := iI (1)) hx hb hr (by decide +kernel) (fun t_ ht_ _ => ⟨congrArg (fun z => Outcome.returned (some (Value.int (iI z)))) (show (1 : Int) = b2 (wn < 6) from (b2_t (by first | assumption | omega | (constructor <;> first | assumption | omega))).symm), ht_⟩) (fun _ h9 => absurd h9 List.not_mem_nil) dX5_hasRoom_14
set_option maxHeartbeats 1000000 in
set_option maxRecDepth 100000 in
theorem c_X5_add (l : Launch) (D : va_G) (cyI cyJ cyO : ClassId) (qA : Nat) (qAf : Nat) (qAt : Nat) (qAl : Nat) (wn : Int) (wf : Int → Int) (wt : Int → Int) (wl : Int → Int) (sz : Nat) (f : Int) (t : Int) (v : Int) (h_wn : 0 ≤ wn ∧ wn < 6) : Met l yX5_add wsX5_add ({ frames := 1, cells := 0, slots := 0, locals := 20 }) (va_Pc [.ref qA, .int (iI (f)), .int (iI (t)), .int (iI (v))] (xM D vwCl [(qA, .inr (5, [.ref qAf, .ref qAt, .ref qAl, .int (iI (wn))])), (qAf, .inl (cyI, 6, .inl (xA (wf)))), (qAt, .inl (cyI, 6, .inl (xA (wt)))), (qAl, .inl (cyI, 6, .inl (xA (wl))))] (xT cyI cyJ cyO) sz)) (va_Qv (fun (u : Unit) => True) (xB D vwCl (xT cyI cyJ cyO) (va_A [(qA, .inr (5, [.ref qAf, .ref qAt, .ref qAl, .int (iI (wn))])), (qAf, .inl (cyI, 6, .inl (xA (wf)))), (qAt, .inl (cyI, 6, .inl (xA (wt)))), (qAl, .inl (cyI, 6, .inl (xA (wl))))] sz) (fun u : Unit => [(qA, .inr (5, [.ref qAf, .ref qAt, .ref qAl, .int (iI (wn + 1))])), (qAf, .inl (cyI, 6, .inl (xA (uz wf wn f)))), (qAt, .inl (cyI, 6, .inl (xA (uz wt wn t)))), (qAl, .inl (cyI, 6, .inl (xA (uz wl wn v))))])) (va_A [(qA, .inr (5, [.ref qAf, .ref qAt, .ref qAl, .int (iI (wn))])), (qAf, .inl (cyI, 6, .inl (xA (wf)))), (qAt, .inl (cyI, 6, .inl (xA (wt)))), (qAl, .inl (cyI, 6, .inl (xA (wl))))] sz)) 0 0 (va_A [(qA, .inr (5, [.ref qAf, .ref qAt, .ref qAl, .int (iI (wn))])), (qAf, .inl (cyI, 6, .inl (xA (wf)))), (qAt, .inl (cyI, 6, .inl (xA (wt)))), (qAl, .inl (cyI, 6, .inl (xA (wl))))] sz) := by
  refine Met.ofW (cc := cX5_add) (maxL := 4) (ret := none) (by decide) rfl ?_
  intro p e s m args below meth c s₁ B hml hv
  obtain ⟨rfl, hsz, hP, hK, hD0⟩ := hv
  have hx := B.exec
  have hb := B.bytes
  have hr := B.returns
  have hts := atoms_spec (ws := wsX5_add) B.pre
  have hown : s.vm.findClass RX5 = some m.cls := findClass_of_methodNamed B.named
  have hlocks := B.notSynchronized
  have hcX5 : ∀ w ∈ wsX50, w ∈ wsX5_add := fun _ h => List.mem_cons_of_mem _ (List.mem_append_right _ h)
  subst hsz
  have hD := hD0.self (sz := s.heap.size)
  generalize hAe : va_A [(qA, .inr (5, [.ref qAf, .ref qAt, .ref qAl, .int (iI (wn))])), (qAf, .inl (cyI, 6, .inl (xA (wf)))), (qAt, .inl (cyI, 6, .inl (xA (wt)))), (qAl, .inl (cyI, 6, .inl (xA (wl))))] s.heap.size = A at hD ⊢
  have hA : ∀ q : Nat, s.heap.size ≤ q → A q := fun q h => by rw [← hAe]; exact Or.inr h
  have hS : va_S A s.heap s.heap [] := va_S.rf
  have hP : va_P D vwCl [(qA, .inr (5, [.ref qAf, .ref qAt, .ref qAl, .int (iI (wn))])), (qAf, .inl (cyI, 6, .inl (xA (wf)))), (qAt, .inl (cyI, 6, .inl (xA (wt)))), (qAl, .inl (cyI, 6, .inl (xA (wl))))] s.heap := hP
  have hl := lv_entry ([.ref qA, .int (iI (f)), .int (iI (t)), .int (iI (v))]) (n := 4) (Nat.le_of_ble_eq_true rfl)
  rw [lg_entry_eq]
  generalize (lg_sl ([.ref qA, .int (iI (f)), .int (iI (t)), .int (iI (v))]) ++ List.replicate (4 - (lg_sl ([.ref qA, .int (iI (f)), .int (iI (t)), .int (iI (v))])).length) Slot.unset).toArray = ls at hl ⊢
  have hl : lv_has ls 4 [(0, .ref qA), (1, .int (iI (f))), (2, .int (iI (t))), (3, .int (iI (v)))] := hl
  refine lv_aload_n hx hb dX5_add_0 rfl (lv_at hl 0 rfl) ?_
  have hPc := hP.sub (ws' := [(qA, .inr (5, [.ref qAf, .ref qAt, .ref qAl, .int (iI (wn))]))]) [0] rfl
  refine xc_i (va_runV (As := []) (rest := []) ⟨hx, hb, hml, hown, hts⟩ (c_X5_hasRoom l D cyI cyJ cyO qA qAf qAt qAl wn (by first | exact h_wn | assumption | omega)) (cwV 0 hts gX5_add_X5_hasRoom rfl rfl rfl (by decide +kernel) ⟨Nat.le_of_ble_eq_true rfl, Nat.le_of_ble_eq_true rfl⟩) (xpV hPc hK (ci := 5) (q0 := 0) (q := (RX5, TX5, 4)) rfl rfl) rfl rfl hl.1 rfl (lv_room (Nat.le_of_ble_eq_true rfl)) dX5_add_1 ⟨Nat.le_of_ble_eq_true rfl, Nat.le_of_ble_eq_true rfl⟩) ?_
  refine xb_if_eqB (tgt := 47) hx hb dX5_add_4 (by decide) (fun h_1 => by exfalso; omega) (fun h_1 => ?_)
  refine lv_aload_n hx hb dX5_add_7 rfl (lv_at hl 0 rfl) ?_
  refine va_get (D := D) (ci := 5) (C := RX5) (T := TX5) (N := 4) hx hb hts hcX5 hown hK hP 0 rfl rfl 0 (by decide) (hts (.fieldLink RX5 9 "WallMarks$Watches" "froms" "[I") (List.mem_of_getElem? (i := 1) (by decide +kernel))) (fun _ h9 => h9) rfl dX5_add_8 ?_
  refine lv_aload_n hx hb dX5_add_11 rfl (lv_at hl 0 rfl) ?_
  refine va_get (D := D) (ci := 5) (C := RX5) (T := TX5) (N := 4) hx hb hts hcX5 hown hK hP 0 rfl rfl 3 (by decide) (hts (.fieldLink RX5 21 "WallMarks$Watches" "size" "I") (List.mem_of_getElem? (i := 2) (by decide +kernel))) (fun _ h9 => h9) rfl dX5_add_12 ?_
  refine lv_iload_n hx hb dX5_add_15 rfl (lv_at hl 1 rfl) ?_
  refine xi_ast (D := D) hx hb hK hP hD hS 1 0 rfl rfl (by decide) (by omega) dX5_add_16 (fun H locs hP hD hS => ?_)
  have hP : va_P D vwCl [(qA, .inr (5, [.ref qAf, .ref qAt, .ref qAl, .int (iI (wn))])), (qAf, .inl (cyI, 6, .inl (xA (uz wf (wn) (f))))), (qAt, .inl (cyI, 6, .inl (xA (wt)))), (qAl, .inl (cyI, 6, .inl (xA (wl))))] H := hP
  have hD : va_D A [(qA, .inr (5, [.ref qAf, .ref qAt, .ref qAl, .int (iI (wn))])), (qAf, .inl (cyI, 6, .inl (xA (uz wf (wn) (f))))), (qAt, .inl (cyI, 6, .inl (xA (wt)))), (qAl, .inl (cyI, 6, .inl (xA (wl))))] := hD
  refine lv_aload_n hx hb dX5_add_17 rfl (lv_at hl 0 rfl) ?_
  refine va_get (D := D) (ci := 5) (C := RX5) (T := TX5) (N := 4) hx hb hts hcX5 hown hK hP 0 rfl rfl 1 (by decide) (hts (.fieldLink RX5 15 "WallMarks$Watches" "tos" "[I") (List.mem_of_getElem? (i := 3) (by decide +kernel))) (fun _ h9 => h9) rfl dX5_add_18 ?_
  refine lv_aload_n hx hb dX5_add_21 rfl (lv_at hl 0 rfl) ?_
  refine va_get (D := D) (ci := 5) (C := RX5) (T := TX5) (N := 4) hx hb hts hcX5 hown hK hP 0 rfl rfl 3 (by decide) (hts (.fieldLink RX5 21 "WallMarks$Watches" "size" "I") (List.mem_of_getElem? (i := 2) (by decide +kernel))) (fun _ h9 => h9) rfl dX5_add_22 ?_
  refine lv_iload_n hx hb dX5_add_25 rfl (lv_at hl 2 rfl) ?_
  refine xi_ast (D := D) hx hb hK hP hD hS 2 0 rfl rfl (by decide) (by omega) dX5_add_26 (fun H locs hP hD hS => ?_)
  have hP : va_P D vwCl [(qA, .inr (5, [.ref qAf, .ref qAt, .ref qAl, .int (iI (wn))])), (qAf, .inl (cyI, 6, .inl (xA (uz wf (wn) (f))))), (qAt, .inl (cyI, 6, .inl (xA (uz wt (wn) (t))))), (qAl, .inl (cyI, 6, .inl (xA (wl))))] H := hP
  have hD : va_D A [(qA, .inr (5, [.ref qAf, .ref qAt, .ref qAl, .int (iI (wn))])), (qAf, .inl (cyI, 6, .inl (xA (uz wf (wn) (f))))), (qAt, .inl (cyI, 6, .inl (xA (uz wt (wn) (t))))), (qAl, .inl (cyI, 6, .inl (xA (wl))))] := hD
  refine lv_aload_n hx hb dX5_add_27 rfl (lv_at hl 0 rfl) ?_
  refine va_get (D := D) (ci := 5) (C := RX5) (T := TX5) (N := 4) hx hb hts hcX5 hown hK hP 0 rfl rfl 2 (by decide) (hts (.fieldLink RX5 18 "WallMarks$Watches" "levels" "[I") (List.mem_of_getElem? (i := 4) (by decide +kernel))) (fun _ h9 => h9) rfl dX5_add_28 ?_
  refine lv_aload_n hx hb dX5_add_31 rfl (lv_at hl 0 rfl) ?_
  refine va_get (D := D) (ci := 5) (C := RX5) (T := TX5) (N := 4) hx hb hts hcX5 hown hK hP 0 rfl rfl 3 (by decide) (hts (.fieldLink RX5 21 "WallMarks$Watches" "size" "I") (List.mem_of_getElem? (i := 2) (by decide +kernel))) (fun _ h9 => h9) rfl dX5_add_32 ?_
  refine lv_iload_n hx hb dX5_add_35 rfl (lv_at hl 3 rfl) ?_
  refine xi_ast (D := D) hx hb hK hP hD hS 3 0 rfl rfl (by decide) (by omega) dX5_add_36 (fun H locs hP hD hS => ?_)
  have hP : va_P D vwCl [(qA, .inr (5, [.ref qAf, .ref qAt, .ref qAl, .int (iI (wn))])), (qAf, .inl (cyI, 6, .inl (xA (uz wf (wn) (f))))), (qAt, .inl (cyI, 6, .inl (xA (uz wt (wn) (t))))), (qAl, .inl (cyI, 6, .inl (xA (uz wl (wn) (v)))))] H := hP
  have hD : va_D A [(qA, .inr (5, [.ref qAf, .ref qAt, .ref qAl, .int (iI (wn))])), (qAf, .inl (cyI, 6, .inl (xA (uz wf (wn) (f))))), (qAt, .inl (cyI, 6, .inl (xA (uz wt (wn) (t))))), (qAl, .inl (cyI, 6, .inl (xA (uz wl (wn) (v)))))] := hD
  refine lv_aload_n hx hb dX5_add_37 rfl (lv_at hl 0 rfl) ?_
  refine lv_dup hx hb dX5_add_38 rfl ?_
  refine va_get (D := D) (ci := 5) (C := RX5) (T := TX5) (N := 4) hx hb hts hcX5 hown hK hP 0 rfl rfl 3 (by decide) (hts (.fieldLink RX5 21 "WallMarks$Watches" "size" "I") (List.mem_of_getElem? (i := 2) (by decide +kernel))) (fun _ h9 => h9) rfl dX5_add_39 ?_
  refine xi_const hx hb dX5_add_42 ?_
  refine xi_add hx hb dX5_add_43 ?_
  refine va_put (D := D) (ci := 5) (v := .int (iI (wn + 1))) (ty := .int) (C := RX5) (T := TX5) (N := 4) hx hb hts hcX5 tyX5 tyX5_ok nmX5 hown hK hP hD hS 0 rfl rfl 3 (by decide) (hts (.fieldLink RX5 21 "WallMarks$Watches" "size" "I") (List.mem_of_getElem? (i := 2) (by decide +kernel))) (fun _ h9 => h9) rfl (by decide +kernel) rfl rfl (Nat.le_of_ble_eq_true rfl) dX5_add_44 (fun H locs hP hD hS => ?_)
  have hP : va_P D vwCl [(qA, .inr (5, [.ref qAf, .ref qAt, .ref qAl, .int (iI (wn + 1))])), (qAf, .inl (cyI, 6, .inl (xA (uz wf (wn) (f))))), (qAt, .inl (cyI, 6, .inl (xA (uz wt (wn) (t))))), (qAl, .inl (cyI, 6, .inl (xA (uz wl (wn) (v)))))] H := hP
  have hD : va_D A [(qA, .inr (5, [.ref qAf, .ref qAt, .ref qAl, .int (iI (wn + 1))])), (qAf, .inl (cyI, 6, .inl (xA (uz wf (wn) (f))))), (qAt, .inl (cyI, 6, .inl (xA (uz wt (wn) (t))))), (qAl, .inl (cyI, 6, .inl (xA (uz wl (wn) (v)))))] := hD
  have he0 : (uz wf (wn) (f) : Int → Int) = (uz wf wn f) := by first | rfl | omega
  have he1 : (uz wt (wn) (t) : Int → Int) = (uz wt wn t) := by first | rfl | omega
  have he2 : (uz wl (wn) (v) : Int → Int) = (uz wl wn v) := by first | rfl | omega
  have hW8 := congr (congr (congrArg (fun (xv0 : Int → Int) (xv1 : Int → Int) (xv2 : Int → Int) => ([(qA, .inr (5, [.ref qAf, .ref qAt, .ref qAl, .int (iI (wn + 1))])), (qAf, .inl (cyI, 6, .inl (xA (xv0)))), (qAt, .inl (cyI, 6, .inl (xA (xv1)))), (qAl, .inl (cyI, 6, .inl (xA (xv2))))] : va_W)) he0) he1) he2
  have hW9 : ([(qA, .inr (5, [.ref qAf, .ref qAt, .ref qAl, .int (iI (wn + 1))])), (qAf, .inl (cyI, 6, .inl (xA (uz wf (wn) (f))))), (qAt, .inl (cyI, 6, .inl (xA (uz wt (wn) (t))))), (qAl, .inl (cyI, 6, .inl (xA (uz wl (wn) (v)))))] : va_W) = [(qA, .inr (5, [.ref qAf, .ref qAt, .ref qAl, .int (iI (wn + 1))])), (qAf, .inl (cyI, 6, .inl (xA (uz wf wn f)))), (qAt, .inl (cyI, 6, .inl (xA (uz wt wn t)))), (qAl, .inl (cyI, 6, .inl (xA (uz wl wn v))))] := hW8
  rw [hW9] at hP hD
  exact W.vret hx hb hr (fun t_ ht_ hW_ => ⟨⟨(), rfl, trivial, by rw [ht_]; exact hP, va_K.moved hW_.alike hK, hD⟩, hS.F ht_⟩) hS.2.2 dX5_add_47
set_option maxHeartbeats 1000000 in
set_option maxRecDepth 100000 in
theorem c_X5_leastAt (l : Launch) (D : va_G) (cyI cyJ cyO : ClassId) (qA : Nat) (qAf : Nat) (qAt : Nat) (qAl : Nat) (wn : Int) (wf : Int → Int) (wt : Int → Int) (wl : Int → Int) (y : Int) (h_wn : 0 ≤ wn ∧ wn ≤ 6) (h_wf : ∀ j, 0 ≤ wf j ∧ wf j ≤ 59) (h_wt : ∀ j, 0 ≤ wt j ∧ wt j ≤ 59) (h_wl : ∀ j, 0 ≤ wl j ∧ wl j ≤ 999) (h_y : 0 ≤ y ∧ y ≤ 59) : Met l yX5_leastAt wsX5_leastAt ({ frames := 0, cells := 0, slots := 0, locals := 0 }) (va_Pc [.ref qA, .int (iI (y))] (xR D vwCl [(qA, .inr (5, [.ref qAf, .ref qAt, .ref qAl, .int (iI (wn))])), (qAf, .inl (cyI, 6, .inl (xA (wf)))), (qAt, .inl (cyI, 6, .inl (xA (wt)))), (qAl, .inl (cyI, 6, .inl (xA (wl))))] (xT cyI cyJ cyO))) (xq (some (.int (iI (foldZ (lwS wf wt wl y) wn (-1)))))) 0 0 (fun _ => False) := by
  refine Met.ofW (cc := cX5_leastAt) (maxL := 5) (ret := (some .int)) (by decide) rfl ?_
  intro p e s m args below meth c s₁ B hml hv
  obtain ⟨rfl, hP, hK⟩ := hv
  have hx := B.exec
  have hb := B.bytes
  have hr := B.returns
  have hts := atoms_spec (ws := wsX5_leastAt) B.pre
  have hown : s.vm.findClass RX5 = some m.cls := findClass_of_methodNamed B.named
  have hlocks := B.notSynchronized
  have hcX5 : ∀ w ∈ wsX50, w ∈ wsX5_leastAt := fun _ h => List.mem_cons_of_mem _ (List.mem_append_right _ h)
  have hP : va_P D vwCl [(qA, .inr (5, [.ref qAf, .ref qAt, .ref qAl, .int (iI (wn))])), (qAf, .inl (cyI, 6, .inl (xA (wf)))), (qAt, .inl (cyI, 6, .inl (xA (wt)))), (qAl, .inl (cyI, 6, .inl (xA (wl))))] s.heap := hP
  have hl := lv_entry ([.ref qA, .int (iI (y))]) (n := 5) (Nat.le_of_ble_eq_true rfl)
  rw [lg_entry_eq]
  generalize (lg_sl ([.ref qA, .int (iI (y))]) ++ List.replicate (5 - (lg_sl ([.ref qA, .int (iI (y))])).length) Slot.unset).toArray = ls at hl ⊢
  have hl : lv_has ls 5 [(0, .ref qA), (1, .int (iI (y)))] := hl
  have cut_4 : ∀ (N_ : Nat) (i : Int) (a : Int) (hi : 0 ≤ i ∧ i ≤ wn) (ha : a = foldZ (lwS wf wt wl y) i (-1)) (hb9 : -1 ≤ a ∧ a ≤ 999) (hN_ : (wn - i).toNat < N_) (ls : Array Slot) (hl : lv_has ls 5 [(0, .ref qA), (1, .int (iI (y))), (2, .int (iI (a))), (3, .int (iI (i)))]), W p l e (headSpec wsX5_leastAt ({ frames := 0, cells := 0, slots := 0, locals := 0 })).room s m ([.ref qA, .int (iI (y))] : List Value).toArray below meth c s.heap [] 0 0 (MQ below (xq (some (.int (iI (foldZ (lwS wf wt wl y) wn (-1)))))) ([.ref qA, .int (iI (y))] : List Value).toArray s 0 0 (fun _ => False)) (F0 m 4 ls []) := by
    intro N_
    induction N_ with
    | zero => intro i a hi ha hb9 hN_ ls hl; exact absurd hN_ (Nat.not_lt_zero _)
    | succ N_ ih_4 =>
      intro i a hi ha hb9 hN_ ls hl
      refine lv_iload_n hx hb dX5_leastAt_4 rfl (lv_at hl 3 rfl) ?_
      refine lv_aload_n hx hb dX5_leastAt_5 rfl (lv_at hl 0 rfl) ?_
      refine va_get (D := D) (ci := 5) (C := RX5) (T := TX5) (N := 4) hx hb hts hcX5 hown hK hP 0 rfl rfl 3 (by decide) (hts (.fieldLink RX5 21 "WallMarks$Watches" "size" "I") (List.mem_of_getElem? (i := 1) (by decide +kernel))) (fun _ h9 => h9) rfl dX5_leastAt_6 ?_
      refine xb_icmp_ge (tgt := 72) hx hb dX5_leastAt_9 (by decide) (by omega) (fun h_1 => ?_) (fun h_1 => ?_)
      · refine lv_iload_n hx hb dX5_leastAt_72 rfl (lv_at hl 2 rfl) ?_
        exact W.iret (v := iI (a)) hx hb hr (fun t_ ht_ _ => ⟨congrArg (fun z => Outcome.returned (some (Value.int (iI z)))) (show (a) = (foldZ (lwS wf wt wl y) wn (-1)) from by rw [ha, show i = wn from by omega]), ht_⟩) (fun _ h9 => absurd h9 List.not_mem_nil) dX5_leastAt_73
      · refine lv_aload_n hx hb dX5_leastAt_12 rfl (lv_at hl 0 rfl) ?_
        refine va_get (D := D) (ci := 5) (C := RX5) (T := TX5) (N := 4) hx hb hts hcX5 hown hK hP 0 rfl rfl 0 (by decide) (hts (.fieldLink RX5 9 "WallMarks$Watches" "froms" "[I") (List.mem_of_getElem? (i := 2) (by decide +kernel))) (fun _ h9 => h9) rfl dX5_leastAt_13 ?_
        refine lv_iload_n hx hb dX5_leastAt_16 rfl (lv_at hl 3 rfl) ?_
        refine xi_ald (D := D) hx hb hK hP 1 0 rfl rfl (by decide) (by omega) dX5_leastAt_17 ?_
        have hr_2 := h_wf (i)
        refine lv_iload_n hx hb dX5_leastAt_18 rfl (lv_at hl 1 rfl) ?_
        refine xb_icmp_gt (tgt := 36) hx hb dX5_leastAt_19 (by decide) (by omega) (fun h_3 => ?_) (fun h_3 => ?_)
        · refine xi_const hx hb dX5_leastAt_36 ?_
          refine lv_istore (lv' := [(4, .int (iI (0))), (0, .ref qA), (1, .int (iI (y))), (2, .int (iI (a))), (3, .int (iI (i)))]) hx hb dX5_leastAt_37 hl (by decide) rfl (fun ls hl => ?_)
          refine lv_iload hx hb dX5_leastAt_39 (lv_at hl 0 rfl) ?_
          refine xb_if_eq (tgt := 66) hx hb dX5_leastAt_41 (by decide) (by omega) (fun h_4 => ?_) (fun h_4 => by exfalso; omega)
          refine xi_inc (k := 4) (lv' := [(3, .int (iI (i + 1))), (4, .int (iI (0))), (0, .ref qA), (1, .int (iI (y))), (2, .int (iI (a)))]) hx hb dX5_leastAt_66 hl rfl (by decide) rfl (fun ls hl => ?_)
          refine lv_goto (tgt := 4) hx hb dX5_leastAt_69 (by decide) ?_
          exact ih_4 (i + 1) (a) (by first | assumption | omega | (constructor <;> omega)) (by first | (rw [foldZ_s _ (by omega), ← ha]; unfold lwS; first | rw [if_pos (by omega)] | rw [if_neg (by omega)]) | rfl) (by first | assumption | omega | (constructor <;> omega)) (by omega) ls (lv_sub hl [2, 3, 4, 0] rfl)
        · refine lv_iload_n hx hb dX5_leastAt_22 rfl (lv_at hl 1 rfl) ?_
          refine lv_aload_n hx hb dX5_leastAt_23 rfl (lv_at hl 0 rfl) ?_
          refine va_get (D := D) (ci := 5) (C := RX5) (T := TX5) (N := 4) hx hb hts hcX5 hown hK hP 0 rfl rfl 1 (by decide) (hts (.fieldLink RX5 15 "WallMarks$Watches" "tos" "[I") (List.mem_of_getElem? (i := 3) (by decide +kernel))) (fun _ h9 => h9) rfl dX5_leastAt_24 ?_
          refine lv_iload_n hx hb dX5_leastAt_27 rfl (lv_at hl 3 rfl) ?_
          refine xi_ald (D := D) hx hb hK hP 2 0 rfl rfl (by decide) (by omega) dX5_leastAt_28 ?_
          have hr_5 := h_wt (i)
          refine xb_icmp_gt (tgt := 36) hx hb dX5_leastAt_29 (by decide) (by omega) (fun h_6 => ?_) (fun h_6 => ?_)
          · refine xi_const hx hb dX5_leastAt_36 ?_
            refine lv_istore (lv' := [(4, .int (iI (0))), (0, .ref qA), (1, .int (iI (y))), (2, .int (iI (a))), (3, .int (iI (i)))]) hx hb dX5_leastAt_37 hl (by decide) rfl (fun ls hl => ?_)
            refine lv_iload hx hb dX5_leastAt_39 (lv_at hl 0 rfl) ?_
            refine xb_if_eq (tgt := 66) hx hb dX5_leastAt_41 (by decide) (by omega) (fun h_7 => ?_) (fun h_7 => by exfalso; omega)
            refine xi_inc (k := 4) (lv' := [(3, .int (iI (i + 1))), (4, .int (iI (0))), (0, .ref qA), (1, .int (iI (y))), (2, .int (iI (a)))]) hx hb dX5_leastAt_66 hl rfl (by decide) rfl (fun ls hl => ?_)
            refine lv_goto (tgt := 4) hx hb dX5_leastAt_69 (by decide) ?_
            exact ih_4 (i + 1) (a) (by first | assumption | omega | (constructor <;> omega)) (by first | (rw [foldZ_s _ (by omega), ← ha]; unfold lwS; first | rw [if_pos (by omega)] | rw [if_neg (by omega)]) | rfl) (by first | assumption | omega | (constructor <;> omega)) (by omega) ls (lv_sub hl [2, 3, 4, 0] rfl)
          · refine xi_const hx hb dX5_leastAt_32 ?_
            refine lv_goto (tgt := 37) hx hb dX5_leastAt_33 (by decide) ?_
            refine lv_istore (lv' := [(4, .int (iI (1))), (0, .ref qA), (1, .int (iI (y))), (2, .int (iI (a))), (3, .int (iI (i)))]) hx hb dX5_leastAt_37 hl (by decide) rfl (fun ls hl => ?_)
            refine lv_iload hx hb dX5_leastAt_39 (lv_at hl 0 rfl) ?_
            refine xb_if_eq (tgt := 66) hx hb dX5_leastAt_41 (by decide) (by omega) (fun h_8 => by exfalso; omega) (fun h_8 => ?_)
            refine lv_iload_n hx hb dX5_leastAt_44 rfl (lv_at hl 3 rfl) ?_
            refine xi_const hx hb dX5_leastAt_45 ?_
            refine xb_icmp_eq (tgt := 59) hx hb dX5_leastAt_46 (by decide) (by omega) (fun h_9 => ?_) (fun h_9 => ?_)
            · refine lv_aload_n hx hb dX5_leastAt_59 rfl (lv_at hl 1 rfl) ?_
              refine va_get (D := D) (ci := 5) (C := RX5) (T := TX5) (N := 4) hx hb hts hcX5 hown hK hP 0 rfl rfl 2 (by decide) (hts (.fieldLink RX5 18 "WallMarks$Watches" "levels" "[I") (List.mem_of_getElem? (i := 4) (by decide +kernel))) (fun _ h9 => h9) rfl dX5_leastAt_60 ?_
              refine lv_iload_n hx hb dX5_leastAt_63 rfl (lv_at hl 4 rfl) ?_
              refine xi_ald (D := D) hx hb hK hP 3 0 rfl rfl (by decide) (by omega) dX5_leastAt_64 ?_
              have hr_10 := h_wl (i)
              refine lv_istore_n (lv' := [(2, .int (iI (wl (i)))), (4, .int (iI (1))), (0, .ref qA), (1, .int (iI (y))), (3, .int (iI (i)))]) hx hb dX5_leastAt_65 rfl hl (by decide) rfl (fun ls hl => ?_)
              refine xi_inc (k := 4) (lv' := [(3, .int (iI (i + 1))), (2, .int (iI (wl (i)))), (4, .int (iI (1))), (0, .ref qA), (1, .int (iI (y)))]) hx hb dX5_leastAt_66 hl rfl (by decide) rfl (fun ls hl => ?_)
              refine lv_goto (tgt := 4) hx hb dX5_leastAt_69 (by decide) ?_
              exact ih_4 (i + 1) (wl (i)) (by first | assumption | omega | (constructor <;> omega)) (by first | (rw [foldZ_s _ (by omega), ← ha]; unfold lwS; first | rw [if_pos (by omega)] | rw [if_neg (by omega)]) | rfl) (by first | assumption | omega | (constructor <;> omega)) (by omega) ls (lv_sub hl [3, 4, 1, 0] rfl)
            · refine lv_aload_n hx hb dX5_leastAt_49 rfl (lv_at hl 1 rfl) ?_
              refine va_get (D := D) (ci := 5) (C := RX5) (T := TX5) (N := 4) hx hb hts hcX5 hown hK hP 0 rfl rfl 2 (by decide) (hts (.fieldLink RX5 18 "WallMarks$Watches" "levels" "[I") (List.mem_of_getElem? (i := 4) (by decide +kernel))) (fun _ h9 => h9) rfl dX5_leastAt_50 ?_
              refine lv_iload_n hx hb dX5_leastAt_53 rfl (lv_at hl 4 rfl) ?_
              refine xi_ald (D := D) hx hb hK hP 3 0 rfl rfl (by decide) (by omega) dX5_leastAt_54 ?_
              have hr_11 := h_wl (i)
              refine lv_iload_n hx hb dX5_leastAt_55 rfl (lv_at hl 3 rfl) ?_
              refine xb_icmp_ge (tgt := 66) hx hb dX5_leastAt_56 (by decide) (by omega) (fun h_12 => ?_) (fun h_12 => ?_)
              · refine xi_inc (k := 4) (lv' := [(3, .int (iI (i + 1))), (4, .int (iI (1))), (0, .ref qA), (1, .int (iI (y))), (2, .int (iI (a)))]) hx hb dX5_leastAt_66 hl rfl (by decide) rfl (fun ls hl => ?_)
                refine lv_goto (tgt := 4) hx hb dX5_leastAt_69 (by decide) ?_
                exact ih_4 (i + 1) (a) (by first | assumption | omega | (constructor <;> omega)) (by first | (rw [foldZ_s _ (by omega), ← ha]; unfold lwS; first | rw [if_pos (by omega)] | rw [if_neg (by omega)]) | rfl) (by first | assumption | omega | (constructor <;> omega)) (by omega) ls (lv_sub hl [2, 3, 4, 0] rfl)
              · refine lv_aload_n hx hb dX5_leastAt_59 rfl (lv_at hl 1 rfl) ?_
                refine va_get (D := D) (ci := 5) (C := RX5) (T := TX5) (N := 4) hx hb hts hcX5 hown hK hP 0 rfl rfl 2 (by decide) (hts (.fieldLink RX5 18 "WallMarks$Watches" "levels" "[I") (List.mem_of_getElem? (i := 4) (by decide +kernel))) (fun _ h9 => h9) rfl dX5_leastAt_60 ?_
                refine lv_iload_n hx hb dX5_leastAt_63 rfl (lv_at hl 4 rfl) ?_
                refine xi_ald (D := D) hx hb hK hP 3 0 rfl rfl (by decide) (by omega) dX5_leastAt_64 ?_
                have hr_13 := h_wl (i)
                refine lv_istore_n (lv' := [(2, .int (iI (wl (i)))), (4, .int (iI (1))), (0, .ref qA), (1, .int (iI (y))), (3, .int (iI (i)))]) hx hb dX5_leastAt_65 rfl hl (by decide) rfl (fun ls hl => ?_)
                refine xi_inc (k := 4) (lv' := [(3, .int (iI (i + 1))), (2, .int (iI (wl (i)))), (4, .int (iI (1))), (0, .ref qA), (1, .int (iI (y)))]) hx hb dX5_leastAt_66 hl rfl (by decide) rfl (fun ls hl => ?_)
                refine lv_goto (tgt := 4) hx hb dX5_leastAt_69 (by decide) ?_
                exact ih_4 (i + 1) (wl (i)) (by first | assumption | omega | (constructor <;> omega)) (by first | (rw [foldZ_s _ (by omega), ← ha]; unfold lwS; first | rw [if_pos (by omega)] | rw [if_neg (by omega)]) | rfl) (by first | assumption | omega | (constructor <;> omega)) (by omega) ls (lv_sub hl [3, 4, 1, 0] rfl)
  refine xi_const hx hb dX5_leastAt_0 ?_
  refine lv_istore_n (lv' := [(2, .int (iI (-1))), (0, .ref qA), (1, .int (iI (y)))]) hx hb dX5_leastAt_1 rfl hl (by decide) rfl (fun ls hl => ?_)
  refine xi_const hx hb dX5_leastAt_2 ?_
  refine lv_istore_n (lv' := [(3, .int (iI (0))), (2, .int (iI (-1))), (0, .ref qA), (1, .int (iI (y)))]) hx hb dX5_leastAt_3 rfl hl (by decide) rfl (fun ls hl => ?_)
  exact cut_4 ((wn - 0 : Int).toNat + 1) (0) (-1) (by first | assumption | omega | (constructor <;> omega)) (by first | (rw [foldZ_s _ (by omega), ← ha]; unfold lwS; first | rw [if_pos (by omega)] | rw [if_neg (by omega)]) | rfl) (by first | assumption | omega | (constructor <;> omega)) (by exact Nat.lt_succ_self _) ls (lv_sub hl [2, 3, 1, 0] rfl)
set_option maxHeartbeats 1000000 in
set_option maxRecDepth 100000 in
theorem c_X4_hasRoom (l : Launch) (D : va_G) (cyI cyJ cyO : ClassId) (qT : Nat) (qTy : Nat) (qTk : Nat) (qTl : Nat) (qTt : Nat) (tn : Int) (tm : Int) (h_tn : 0 ≤ tn ∧ tn ≤ 120) : Met l yX4_hasRoom wsX4_hasRoom ({ frames := 0, cells := 0, slots := 0, locals := 0 }) (va_Pc [.ref qT] (xR D vwCl [(qT, .inr (4, [.ref qTy, .ref qTk, .ref qTl, .ref qTt, .int (iI (tn)), .int (iI (tm))]))] (xT cyI cyJ cyO))) (xq (some (.int (iI (b2 (tn < 120)))))) 0 0 (fun _ => False) := by
  refine Met.ofW (cc := cX4_hasRoom) (maxL := 1) (ret := (some .boolean)) (by decide) rfl ?_
  intro p e s m args below meth c s₁ B hml hv
  obtain ⟨rfl, hP, hK⟩ := hv
  have hx := B.exec
  have hb := B.bytes
  have hr := B.returns
  have hts := atoms_spec (ws := wsX4_hasRoom) B.pre
  have hown : s.vm.findClass RX4 = some m.cls := findClass_of_methodNamed B.named
  have hlocks := B.notSynchronized
  have hcX4 : ∀ w ∈ wsX40, w ∈ wsX4_hasRoom := fun _ h => List.mem_cons_of_mem _ (List.mem_append_right _ h)
  have hP : va_P D vwCl [(qT, .inr (4, [.ref qTy, .ref qTk, .ref qTl, .ref qTt, .int (iI (tn)), .int (iI (tm))]))] s.heap := hP
  have hl := lv_entry ([.ref qT]) (n := 1) (Nat.le_of_ble_eq_true rfl)
  rw [lg_entry_eq]
  generalize (lg_sl ([.ref qT]) ++ List.replicate (1 - (lg_sl ([.ref qT])).length) Slot.unset).toArray = ls at hl ⊢
  have hl : lv_has ls 1 [(0, .ref qT)] := hl
  refine lv_aload_n hx hb dX4_hasRoom_0 rfl (lv_at hl 0 rfl) ?_
  refine va_get (D := D) (ci := 4) (C := RX4) (T := TX4) (N := 6) hx hb hts hcX4 hown hK hP 0 rfl rfl 4 (by decide) (hts (.fieldLink RX4 24 "WallMarks$Tellings" "size" "I") (List.mem_of_getElem? (i := 1) (by decide +kernel))) (fun _ h9 => h9) rfl dX4_hasRoom_1 ?_
  refine xi_bipush hx hb dX4_hasRoom_4 (by decide +kernel) ?_
  refine xb_icmp_ge (tgt := 13) hx hb dX4_hasRoom_6 (by decide) (by omega) (fun h_1 => ?_) (fun h_1 => ?_)
  · refine xi_const hx hb dX4_hasRoom_13 ?_
    exact W.zret (v := iI (0)) hx hb hr (by decide +kernel) (fun t_ ht_ _ => ⟨congrArg (fun z => Outcome.returned (some (Value.int (iI z)))) (show (0 : Int) = b2 (tn < 120) from (b2_f (by first | assumption | omega | (constructor <;> first | assumption | omega))).symm), ht_⟩) (fun _ h9 => absurd h9 List.not_mem_nil) dX4_hasRoom_14
  · refine xi_const hx hb dX4_hasRoom_9 ?_
    refine lv_goto (tgt := 14) hx hb dX4_hasRoom_10 (by decide) ?_
    exact W.zret (v := iI (1)) hx hb hr (by decide +kernel) (fun t_ ht_ _ => ⟨congrArg (fun z => Outcome.returned (some (Value.int (iI z)))) (show (1 : Int) = b2 (tn < 120) from (b2_t (by first | assumption | omega | (constructor <;> first | assumption | omega))).symm), ht_⟩) (fun _ h9 => absurd h9 List.not_mem_nil) dX4_hasRoom_14
set_option maxHeartbeats 1000000 in
set_option maxRecDepth 100000 in
theorem c_X4_add (l : Launch) (D : va_G) (cyI cyJ cyO : ClassId) (qT : Nat) (qTy : Nat) (qTk : Nat) (qTl : Nat) (qTt : Nat) (tn : Int) (tm : Int) (ty : Int → Int) (tk : Int → Int) (tl : Int → Int) (tt : Int → Int) (sz : Nat) (y : Int) (k : Int) (v : Int) (t : Int) (h_tn : 0 ≤ tn ∧ tn < 120) : Met l yX4_add wsX4_add ({ frames := 1, cells := 0, slots := 0, locals := 20 }) (va_Pc [.ref qT, .int (iI (y)), .int (iI (k)), .int (iI (v)), .int (iI (t))] (xM D vwCl [(qT, .inr (4, [.ref qTy, .ref qTk, .ref qTl, .ref qTt, .int (iI (tn)), .int (iI (tm))])), (qTy, .inl (cyI, 120, .inl (xA (ty)))), (qTk, .inl (cyI, 120, .inl (xA (tk)))), (qTl, .inl (cyI, 120, .inl (xA (tl)))), (qTt, .inl (cyI, 120, .inl (xA (tt))))] (xT cyI cyJ cyO) sz)) (va_Qv (fun (u : Unit) => True) (xB D vwCl (xT cyI cyJ cyO) (va_A [(qT, .inr (4, [.ref qTy, .ref qTk, .ref qTl, .ref qTt, .int (iI (tn)), .int (iI (tm))])), (qTy, .inl (cyI, 120, .inl (xA (ty)))), (qTk, .inl (cyI, 120, .inl (xA (tk)))), (qTl, .inl (cyI, 120, .inl (xA (tl)))), (qTt, .inl (cyI, 120, .inl (xA (tt))))] sz) (fun u : Unit => [(qT, .inr (4, [.ref qTy, .ref qTk, .ref qTl, .ref qTt, .int (iI (tn + 1)), .int (iI (t))])), (qTy, .inl (cyI, 120, .inl (xA (uz ty tn y)))), (qTk, .inl (cyI, 120, .inl (xA (uz tk tn k)))), (qTl, .inl (cyI, 120, .inl (xA (uz tl tn v)))), (qTt, .inl (cyI, 120, .inl (xA (uz tt tn t))))])) (va_A [(qT, .inr (4, [.ref qTy, .ref qTk, .ref qTl, .ref qTt, .int (iI (tn)), .int (iI (tm))])), (qTy, .inl (cyI, 120, .inl (xA (ty)))), (qTk, .inl (cyI, 120, .inl (xA (tk)))), (qTl, .inl (cyI, 120, .inl (xA (tl)))), (qTt, .inl (cyI, 120, .inl (xA (tt))))] sz)) 0 0 (va_A [(qT, .inr (4, [.ref qTy, .ref qTk, .ref qTl, .ref qTt, .int (iI (tn)), .int (iI (tm))])), (qTy, .inl (cyI, 120, .inl (xA (ty)))), (qTk, .inl (cyI, 120, .inl (xA (tk)))), (qTl, .inl (cyI, 120, .inl (xA (tl)))), (qTt, .inl (cyI, 120, .inl (xA (tt))))] sz) := by
  refine Met.ofW (cc := cX4_add) (maxL := 5) (ret := none) (by decide) rfl ?_
  intro p e s m args below meth c s₁ B hml hv
  obtain ⟨rfl, hsz, hP, hK, hD0⟩ := hv
  have hx := B.exec
  have hb := B.bytes
  have hr := B.returns
  have hts := atoms_spec (ws := wsX4_add) B.pre
  have hown : s.vm.findClass RX4 = some m.cls := findClass_of_methodNamed B.named
  have hlocks := B.notSynchronized
  have hcX4 : ∀ w ∈ wsX40, w ∈ wsX4_add := fun _ h => List.mem_cons_of_mem _ (List.mem_append_right _ h)
  subst hsz
  have hD := hD0.self (sz := s.heap.size)
  generalize hAe : va_A [(qT, .inr (4, [.ref qTy, .ref qTk, .ref qTl, .ref qTt, .int (iI (tn)), .int (iI (tm))])), (qTy, .inl (cyI, 120, .inl (xA (ty)))), (qTk, .inl (cyI, 120, .inl (xA (tk)))), (qTl, .inl (cyI, 120, .inl (xA (tl)))), (qTt, .inl (cyI, 120, .inl (xA (tt))))] s.heap.size = A at hD ⊢
  have hA : ∀ q : Nat, s.heap.size ≤ q → A q := fun q h => by rw [← hAe]; exact Or.inr h
  have hS : va_S A s.heap s.heap [] := va_S.rf
  have hP : va_P D vwCl [(qT, .inr (4, [.ref qTy, .ref qTk, .ref qTl, .ref qTt, .int (iI (tn)), .int (iI (tm))])), (qTy, .inl (cyI, 120, .inl (xA (ty)))), (qTk, .inl (cyI, 120, .inl (xA (tk)))), (qTl, .inl (cyI, 120, .inl (xA (tl)))), (qTt, .inl (cyI, 120, .inl (xA (tt))))] s.heap := hP
  have hl := lv_entry ([.ref qT, .int (iI (y)), .int (iI (k)), .int (iI (v)), .int (iI (t))]) (n := 5) (Nat.le_of_ble_eq_true rfl)
  rw [lg_entry_eq]
  generalize (lg_sl ([.ref qT, .int (iI (y)), .int (iI (k)), .int (iI (v)), .int (iI (t))]) ++ List.replicate (5 - (lg_sl ([.ref qT, .int (iI (y)), .int (iI (k)), .int (iI (v)), .int (iI (t))])).length) Slot.unset).toArray = ls at hl ⊢
  have hl : lv_has ls 5 [(0, .ref qT), (1, .int (iI (y))), (2, .int (iI (k))), (3, .int (iI (v))), (4, .int (iI (t)))] := hl
  refine lv_aload_n hx hb dX4_add_0 rfl (lv_at hl 0 rfl) ?_
  have hPc := hP.sub (ws' := [(qT, .inr (4, [.ref qTy, .ref qTk, .ref qTl, .ref qTt, .int (iI (tn)), .int (iI (tm))]))]) [0] rfl
  refine xc_i (va_runV (As := []) (rest := []) ⟨hx, hb, hml, hown, hts⟩ (c_X4_hasRoom l D cyI cyJ cyO qT qTy qTk qTl qTt tn tm (by first | exact h_tn | assumption | omega)) (cwV 0 hts gX4_add_X4_hasRoom rfl rfl rfl (by decide +kernel) ⟨Nat.le_of_ble_eq_true rfl, Nat.le_of_ble_eq_true rfl⟩) (xpV hPc hK (ci := 4) (q0 := 0) (q := (RX4, TX4, 6)) rfl rfl) rfl rfl hl.1 rfl (lv_room (Nat.le_of_ble_eq_true rfl)) dX4_add_1 ⟨Nat.le_of_ble_eq_true rfl, Nat.le_of_ble_eq_true rfl⟩) ?_
  refine xb_if_eqB (tgt := 64) hx hb dX4_add_4 (by decide) (fun h_1 => by exfalso; omega) (fun h_1 => ?_)
  refine lv_aload_n hx hb dX4_add_7 rfl (lv_at hl 0 rfl) ?_
  refine va_get (D := D) (ci := 4) (C := RX4) (T := TX4) (N := 6) hx hb hts hcX4 hown hK hP 0 rfl rfl 0 (by decide) (hts (.fieldLink RX4 9 "WallMarks$Tellings" "years" "[I") (List.mem_of_getElem? (i := 1) (by decide +kernel))) (fun _ h9 => h9) rfl dX4_add_8 ?_
  refine lv_aload_n hx hb dX4_add_11 rfl (lv_at hl 0 rfl) ?_
  refine va_get (D := D) (ci := 4) (C := RX4) (T := TX4) (N := 6) hx hb hts hcX4 hown hK hP 0 rfl rfl 4 (by decide) (hts (.fieldLink RX4 24 "WallMarks$Tellings" "size" "I") (List.mem_of_getElem? (i := 2) (by decide +kernel))) (fun _ h9 => h9) rfl dX4_add_12 ?_
  refine lv_iload_n hx hb dX4_add_15 rfl (lv_at hl 1 rfl) ?_
  refine xi_ast (D := D) hx hb hK hP hD hS 1 0 rfl rfl (by decide) (by omega) dX4_add_16 (fun H locs hP hD hS => ?_)
  have hP : va_P D vwCl [(qT, .inr (4, [.ref qTy, .ref qTk, .ref qTl, .ref qTt, .int (iI (tn)), .int (iI (tm))])), (qTy, .inl (cyI, 120, .inl (xA (uz ty (tn) (y))))), (qTk, .inl (cyI, 120, .inl (xA (tk)))), (qTl, .inl (cyI, 120, .inl (xA (tl)))), (qTt, .inl (cyI, 120, .inl (xA (tt))))] H := hP
  have hD : va_D A [(qT, .inr (4, [.ref qTy, .ref qTk, .ref qTl, .ref qTt, .int (iI (tn)), .int (iI (tm))])), (qTy, .inl (cyI, 120, .inl (xA (uz ty (tn) (y))))), (qTk, .inl (cyI, 120, .inl (xA (tk)))), (qTl, .inl (cyI, 120, .inl (xA (tl)))), (qTt, .inl (cyI, 120, .inl (xA (tt))))] := hD
  refine lv_aload_n hx hb dX4_add_17 rfl (lv_at hl 0 rfl) ?_
  refine va_get (D := D) (ci := 4) (C := RX4) (T := TX4) (N := 6) hx hb hts hcX4 hown hK hP 0 rfl rfl 1 (by decide) (hts (.fieldLink RX4 15 "WallMarks$Tellings" "kinds" "[I") (List.mem_of_getElem? (i := 3) (by decide +kernel))) (fun _ h9 => h9) rfl dX4_add_18 ?_
  refine lv_aload_n hx hb dX4_add_21 rfl (lv_at hl 0 rfl) ?_
  refine va_get (D := D) (ci := 4) (C := RX4) (T := TX4) (N := 6) hx hb hts hcX4 hown hK hP 0 rfl rfl 4 (by decide) (hts (.fieldLink RX4 24 "WallMarks$Tellings" "size" "I") (List.mem_of_getElem? (i := 2) (by decide +kernel))) (fun _ h9 => h9) rfl dX4_add_22 ?_
  refine lv_iload_n hx hb dX4_add_25 rfl (lv_at hl 2 rfl) ?_
  refine xi_ast (D := D) hx hb hK hP hD hS 2 0 rfl rfl (by decide) (by omega) dX4_add_26 (fun H locs hP hD hS => ?_)
  have hP : va_P D vwCl [(qT, .inr (4, [.ref qTy, .ref qTk, .ref qTl, .ref qTt, .int (iI (tn)), .int (iI (tm))])), (qTy, .inl (cyI, 120, .inl (xA (uz ty (tn) (y))))), (qTk, .inl (cyI, 120, .inl (xA (uz tk (tn) (k))))), (qTl, .inl (cyI, 120, .inl (xA (tl)))), (qTt, .inl (cyI, 120, .inl (xA (tt))))] H := hP
  have hD : va_D A [(qT, .inr (4, [.ref qTy, .ref qTk, .ref qTl, .ref qTt, .int (iI (tn)), .int (iI (tm))])), (qTy, .inl (cyI, 120, .inl (xA (uz ty (tn) (y))))), (qTk, .inl (cyI, 120, .inl (xA (uz tk (tn) (k))))), (qTl, .inl (cyI, 120, .inl (xA (tl)))), (qTt, .inl (cyI, 120, .inl (xA (tt))))] := hD
  refine lv_aload_n hx hb dX4_add_27 rfl (lv_at hl 0 rfl) ?_
  refine va_get (D := D) (ci := 4) (C := RX4) (T := TX4) (N := 6) hx hb hts hcX4 hown hK hP 0 rfl rfl 2 (by decide) (hts (.fieldLink RX4 18 "WallMarks$Tellings" "levels" "[I") (List.mem_of_getElem? (i := 4) (by decide +kernel))) (fun _ h9 => h9) rfl dX4_add_28 ?_
  refine lv_aload_n hx hb dX4_add_31 rfl (lv_at hl 0 rfl) ?_
  refine va_get (D := D) (ci := 4) (C := RX4) (T := TX4) (N := 6) hx hb hts hcX4 hown hK hP 0 rfl rfl 4 (by decide) (hts (.fieldLink RX4 24 "WallMarks$Tellings" "size" "I") (List.mem_of_getElem? (i := 2) (by decide +kernel))) (fun _ h9 => h9) rfl dX4_add_32 ?_
  refine lv_iload_n hx hb dX4_add_35 rfl (lv_at hl 3 rfl) ?_
  refine xi_ast (D := D) hx hb hK hP hD hS 3 0 rfl rfl (by decide) (by omega) dX4_add_36 (fun H locs hP hD hS => ?_)
  have hP : va_P D vwCl [(qT, .inr (4, [.ref qTy, .ref qTk, .ref qTl, .ref qTt, .int (iI (tn)), .int (iI (tm))])), (qTy, .inl (cyI, 120, .inl (xA (uz ty (tn) (y))))), (qTk, .inl (cyI, 120, .inl (xA (uz tk (tn) (k))))), (qTl, .inl (cyI, 120, .inl (xA (uz tl (tn) (v))))), (qTt, .inl (cyI, 120, .inl (xA (tt))))] H := hP
  have hD : va_D A [(qT, .inr (4, [.ref qTy, .ref qTk, .ref qTl, .ref qTt, .int (iI (tn)), .int (iI (tm))])), (qTy, .inl (cyI, 120, .inl (xA (uz ty (tn) (y))))), (qTk, .inl (cyI, 120, .inl (xA (uz tk (tn) (k))))), (qTl, .inl (cyI, 120, .inl (xA (uz tl (tn) (v))))), (qTt, .inl (cyI, 120, .inl (xA (tt))))] := hD
  refine lv_aload_n hx hb dX4_add_37 rfl (lv_at hl 0 rfl) ?_
  refine va_get (D := D) (ci := 4) (C := RX4) (T := TX4) (N := 6) hx hb hts hcX4 hown hK hP 0 rfl rfl 3 (by decide) (hts (.fieldLink RX4 21 "WallMarks$Tellings" "times" "[I") (List.mem_of_getElem? (i := 5) (by decide +kernel))) (fun _ h9 => h9) rfl dX4_add_38 ?_
  refine lv_aload_n hx hb dX4_add_41 rfl (lv_at hl 0 rfl) ?_
  refine va_get (D := D) (ci := 4) (C := RX4) (T := TX4) (N := 6) hx hb hts hcX4 hown hK hP 0 rfl rfl 4 (by decide) (hts (.fieldLink RX4 24 "WallMarks$Tellings" "size" "I") (List.mem_of_getElem? (i := 2) (by decide +kernel))) (fun _ h9 => h9) rfl dX4_add_42 ?_
  refine lv_iload hx hb dX4_add_45 (lv_at hl 4 rfl) ?_
  refine xi_ast (D := D) hx hb hK hP hD hS 4 0 rfl rfl (by decide) (by omega) dX4_add_47 (fun H locs hP hD hS => ?_)
  have hP : va_P D vwCl [(qT, .inr (4, [.ref qTy, .ref qTk, .ref qTl, .ref qTt, .int (iI (tn)), .int (iI (tm))])), (qTy, .inl (cyI, 120, .inl (xA (uz ty (tn) (y))))), (qTk, .inl (cyI, 120, .inl (xA (uz tk (tn) (k))))), (qTl, .inl (cyI, 120, .inl (xA (uz tl (tn) (v))))), (qTt, .inl (cyI, 120, .inl (xA (uz tt (tn) (t)))))] H := hP
  have hD : va_D A [(qT, .inr (4, [.ref qTy, .ref qTk, .ref qTl, .ref qTt, .int (iI (tn)), .int (iI (tm))])), (qTy, .inl (cyI, 120, .inl (xA (uz ty (tn) (y))))), (qTk, .inl (cyI, 120, .inl (xA (uz tk (tn) (k))))), (qTl, .inl (cyI, 120, .inl (xA (uz tl (tn) (v))))), (qTt, .inl (cyI, 120, .inl (xA (uz tt (tn) (t)))))] := hD
  refine lv_aload_n hx hb dX4_add_48 rfl (lv_at hl 0 rfl) ?_
  refine lv_dup hx hb dX4_add_49 rfl ?_
  refine va_get (D := D) (ci := 4) (C := RX4) (T := TX4) (N := 6) hx hb hts hcX4 hown hK hP 0 rfl rfl 4 (by decide) (hts (.fieldLink RX4 24 "WallMarks$Tellings" "size" "I") (List.mem_of_getElem? (i := 2) (by decide +kernel))) (fun _ h9 => h9) rfl dX4_add_50 ?_
  refine xi_const hx hb dX4_add_53 ?_
  refine xi_add hx hb dX4_add_54 ?_
  refine va_put (D := D) (ci := 4) (v := .int (iI (tn + 1))) (ty := .int) (C := RX4) (T := TX4) (N := 6) hx hb hts hcX4 tyX4 tyX4_ok nmX4 hown hK hP hD hS 0 rfl rfl 4 (by decide) (hts (.fieldLink RX4 24 "WallMarks$Tellings" "size" "I") (List.mem_of_getElem? (i := 2) (by decide +kernel))) (fun _ h9 => h9) rfl (by decide +kernel) rfl rfl (Nat.le_of_ble_eq_true rfl) dX4_add_55 (fun H locs hP hD hS => ?_)
  have hP : va_P D vwCl [(qT, .inr (4, [.ref qTy, .ref qTk, .ref qTl, .ref qTt, .int (iI (tn + 1)), .int (iI (tm))])), (qTy, .inl (cyI, 120, .inl (xA (uz ty (tn) (y))))), (qTk, .inl (cyI, 120, .inl (xA (uz tk (tn) (k))))), (qTl, .inl (cyI, 120, .inl (xA (uz tl (tn) (v))))), (qTt, .inl (cyI, 120, .inl (xA (uz tt (tn) (t)))))] H := hP
  have hD : va_D A [(qT, .inr (4, [.ref qTy, .ref qTk, .ref qTl, .ref qTt, .int (iI (tn + 1)), .int (iI (tm))])), (qTy, .inl (cyI, 120, .inl (xA (uz ty (tn) (y))))), (qTk, .inl (cyI, 120, .inl (xA (uz tk (tn) (k))))), (qTl, .inl (cyI, 120, .inl (xA (uz tl (tn) (v))))), (qTt, .inl (cyI, 120, .inl (xA (uz tt (tn) (t)))))] := hD
  refine lv_aload_n hx hb dX4_add_58 rfl (lv_at hl 0 rfl) ?_
  refine lv_iload hx hb dX4_add_59 (lv_at hl 4 rfl) ?_
  refine va_put (D := D) (ci := 4) (v := .int (iI (t))) (ty := .int) (C := RX4) (T := TX4) (N := 6) hx hb hts hcX4 tyX4 tyX4_ok nmX4 hown hK hP hD hS 0 rfl rfl 5 (by decide) (hts (.fieldLink RX4 28 "WallMarks$Tellings" "lastTime" "I") (List.mem_of_getElem? (i := 6) (by decide +kernel))) (fun _ h9 => h9) rfl (by decide +kernel) rfl rfl (Nat.le_of_ble_eq_true rfl) dX4_add_61 (fun H locs hP hD hS => ?_)
  have hP : va_P D vwCl [(qT, .inr (4, [.ref qTy, .ref qTk, .ref qTl, .ref qTt, .int (iI (tn + 1)), .int (iI (t))])), (qTy, .inl (cyI, 120, .inl (xA (uz ty (tn) (y))))), (qTk, .inl (cyI, 120, .inl (xA (uz tk (tn) (k))))), (qTl, .inl (cyI, 120, .inl (xA (uz tl (tn) (v))))), (qTt, .inl (cyI, 120, .inl (xA (uz tt (tn) (t)))))] H := hP
  have hD : va_D A [(qT, .inr (4, [.ref qTy, .ref qTk, .ref qTl, .ref qTt, .int (iI (tn + 1)), .int (iI (t))])), (qTy, .inl (cyI, 120, .inl (xA (uz ty (tn) (y))))), (qTk, .inl (cyI, 120, .inl (xA (uz tk (tn) (k))))), (qTl, .inl (cyI, 120, .inl (xA (uz tl (tn) (v))))), (qTt, .inl (cyI, 120, .inl (xA (uz tt (tn) (t)))))] := hD
  have he0 : (uz ty (tn) (y) : Int → Int) = (uz ty tn y) := by first | rfl | omega
  have he1 : (uz tk (tn) (k) : Int → Int) = (uz tk tn k) := by first | rfl | omega
  have he2 : (uz tl (tn) (v) : Int → Int) = (uz tl tn v) := by first | rfl | omega
  have he3 : (uz tt (tn) (t) : Int → Int) = (uz tt tn t) := by first | rfl | omega
  have hW8 := congr (congr (congr (congrArg (fun (xv0 : Int → Int) (xv1 : Int → Int) (xv2 : Int → Int) (xv3 : Int → Int) => ([(qT, .inr (4, [.ref qTy, .ref qTk, .ref qTl, .ref qTt, .int (iI (tn + 1)), .int (iI (t))])), (qTy, .inl (cyI, 120, .inl (xA (xv0)))), (qTk, .inl (cyI, 120, .inl (xA (xv1)))), (qTl, .inl (cyI, 120, .inl (xA (xv2)))), (qTt, .inl (cyI, 120, .inl (xA (xv3))))] : va_W)) he0) he1) he2) he3
  have hW9 : ([(qT, .inr (4, [.ref qTy, .ref qTk, .ref qTl, .ref qTt, .int (iI (tn + 1)), .int (iI (t))])), (qTy, .inl (cyI, 120, .inl (xA (uz ty (tn) (y))))), (qTk, .inl (cyI, 120, .inl (xA (uz tk (tn) (k))))), (qTl, .inl (cyI, 120, .inl (xA (uz tl (tn) (v))))), (qTt, .inl (cyI, 120, .inl (xA (uz tt (tn) (t)))))] : va_W) = [(qT, .inr (4, [.ref qTy, .ref qTk, .ref qTl, .ref qTt, .int (iI (tn + 1)), .int (iI (t))])), (qTy, .inl (cyI, 120, .inl (xA (uz ty tn y)))), (qTk, .inl (cyI, 120, .inl (xA (uz tk tn k)))), (qTl, .inl (cyI, 120, .inl (xA (uz tl tn v)))), (qTt, .inl (cyI, 120, .inl (xA (uz tt tn t))))] := hW8
  rw [hW9] at hP hD
  exact W.vret hx hb hr (fun t_ ht_ hW_ => ⟨⟨(), rfl, trivial, by rw [ht_]; exact hP, va_K.moved hW_.alike hK, hD⟩, hS.F ht_⟩) hS.2.2 dX4_add_64
set_option maxHeartbeats 1000000 in
set_option maxRecDepth 100000 in
theorem c_X3_renew (l : Launch) (D : va_G) (cyI cyJ cyO : ClassId) (qS : Nat) (qSi : Nat) (sl : Int) (sf : Int) (sz_ : Int) (it : Int → Int) (sz : Nat) (f : Int) (n : Int) : Met l yX3_renew wsX3_renew ({ frames := 1, cells := 0, slots := 0, locals := 23 }) (va_Pc [.ref qS, .int (iI (f)), .int (iI (n))] (xM D vwCl [(qS, .inr (3, [.ref qSi, .int (iI (sl)), .int (iI (sf)), .int (iI (sz_))])), (qSi, .inl (cyI, 60, .inl (xA (it))))] (xT cyI cyJ cyO) sz)) (va_Qv (fun (u : Unit) => True) (xB D vwCl (xT cyI cyJ cyO) (va_A [(qS, .inr (3, [.ref qSi, .int (iI (sl)), .int (iI (sf)), .int (iI (sz_))])), (qSi, .inl (cyI, 60, .inl (xA (it))))] sz) (fun u : Unit => [(qS, .inr (3, [.ref qSi, .int (iI (0)), .int (iI (f)), .int (iI (n))])), (qSi, .inl (cyI, 60, .inl (xA (fun _ => 0))))])) (va_A [(qS, .inr (3, [.ref qSi, .int (iI (sl)), .int (iI (sf)), .int (iI (sz_))])), (qSi, .inl (cyI, 60, .inl (xA (it))))] sz)) 0 0 (va_A [(qS, .inr (3, [.ref qSi, .int (iI (sl)), .int (iI (sf)), .int (iI (sz_))])), (qSi, .inl (cyI, 60, .inl (xA (it))))] sz) := by
  refine Met.ofW (cc := cX3_renew) (maxL := 3) (ret := none) (by decide) rfl ?_
  intro p e s m args below meth c s₁ B hml hv
  obtain ⟨rfl, hsz, hP, hK, hD0⟩ := hv
  have hx := B.exec
  have hb := B.bytes
  have hr := B.returns
  have hts := atoms_spec (ws := wsX3_renew) B.pre
  have hown : s.vm.findClass RX3 = some m.cls := findClass_of_methodNamed B.named
  have hlocks := B.notSynchronized
  have hcX3 : ∀ w ∈ wsX30, w ∈ wsX3_renew := fun _ h => List.mem_cons_of_mem _ (List.mem_append_right _ h)
  subst hsz
  have hD := hD0.self (sz := s.heap.size)
  generalize hAe : va_A [(qS, .inr (3, [.ref qSi, .int (iI (sl)), .int (iI (sf)), .int (iI (sz_))])), (qSi, .inl (cyI, 60, .inl (xA (it))))] s.heap.size = A at hD ⊢
  have hA : ∀ q : Nat, s.heap.size ≤ q → A q := fun q h => by rw [← hAe]; exact Or.inr h
  have hS : va_S A s.heap s.heap [] := va_S.rf
  have hP : va_P D vwCl [(qS, .inr (3, [.ref qSi, .int (iI (sl)), .int (iI (sf)), .int (iI (sz_))])), (qSi, .inl (cyI, 60, .inl (xA (it))))] s.heap := hP
  have hl := lv_entry ([.ref qS, .int (iI (f)), .int (iI (n))]) (n := 3) (Nat.le_of_ble_eq_true rfl)
  rw [lg_entry_eq]
  generalize (lg_sl ([.ref qS, .int (iI (f)), .int (iI (n))]) ++ List.replicate (3 - (lg_sl ([.ref qS, .int (iI (f)), .int (iI (n))])).length) Slot.unset).toArray = ls at hl ⊢
  have hl : lv_has ls 3 [(0, .ref qS), (1, .int (iI (f))), (2, .int (iI (n)))] := hl
  refine lv_aload_n hx hb dX3_renew_0 rfl (lv_at hl 0 rfl) ?_
  refine va_get (D := D) (ci := 3) (C := RX3) (T := TX3) (N := 4) hx hb hts hcX3 hown hK hP 0 rfl rfl 0 (by decide) (hts (.fieldLink RX3 9 "WallMarks$Sheet" "items" "[I") (List.mem_of_getElem? (i := 1) (by decide +kernel))) (fun _ h9 => h9) rfl dX3_renew_1 ?_
  refine xi_const hx hb dX3_renew_4 ?_
  have hPc := hP.sub (ws' := [(qSi, .inl (cyI, 60, .inl (xA (it))))]) [1] rfl
  have hDc := hD.sub (ws' := [(qSi, .inl (cyI, 60, .inl (xA (it))))]) [1] (by decide) rfl
  have hFc := va_free (wc := [(qSi, .inl (cyI, 60, .inl (xA (it))))]) hD hS hA [1] rfl
  refine va_callv (va_runS (As := [.ref qSi, .int (iI (0))]) (rest := []) ⟨hx, hb, hml, hown, hts⟩ (c_J7_fill_53178 l D cyI cyJ cyO qSi it s.heap.size 0) (va_cwS 2 hts gX3_renew_J7_fill_53178 rfl rfl rfl (by decide +kernel) ⟨Nat.le_of_ble_eq_true rfl, Nat.le_of_ble_eq_true rfl⟩) (xpSM hPc hK hDc) rfl rfl hl.1 rfl (lv_room (Nat.le_of_ble_eq_true rfl)) dX3_renew_5 ⟨Nat.le_of_ble_eq_true rfl, Nat.le_of_ble_eq_true rfl⟩) hS (fun q _ h => hFc q h) hFc (fun u_1 t_ H1 locs ht_ hvm hw hB hz1 hk1 hS => ?_)
  obtain ⟨hP1, hK1, hD1⟩ := hB
  rw [ht_] at hP1
  obtain ⟨hP, hD⟩ := xj (wc := [(qSi, .inl (cyI, 60, .inl (xA (it))))]) (w1 := [(qSi, .inl (cyI, 60, .inl (xA (fun _ => 0))))]) hP hD [1] rfl rfl hk1 hP1
  generalize H1 = H at hP hS ⊢
  have hP : va_P D vwCl [(qS, .inr (3, [.ref qSi, .int (iI (sl)), .int (iI (sf)), .int (iI (sz_))])), (qSi, .inl (cyI, 60, .inl (xA (fun _ => 0))))] H := hP
  have hD : va_D A [(qS, .inr (3, [.ref qSi, .int (iI (sl)), .int (iI (sf)), .int (iI (sz_))])), (qSi, .inl (cyI, 60, .inl (xA (fun _ => 0))))] := hD
  have hw_2 : True := hw
  refine lv_aload_n hx hb dX3_renew_8 rfl (lv_at hl 0 rfl) ?_
  refine xi_const hx hb dX3_renew_9 ?_
  refine va_put (D := D) (ci := 3) (v := .int (iI (0))) (ty := .boolean) (C := RX3) (T := TX3) (N := 4) hx hb hts hcX3 tyX3 tyX3_ok nmX3 hown hK hP hD hS 0 rfl rfl 1 (by decide) (hts (.fieldLink RX3 15 "WallMarks$Sheet" "lost" "Z") (List.mem_of_getElem? (i := 2) (by decide +kernel))) (fun _ h9 => h9) rfl (by decide +kernel) (by decide +kernel) (by decide +kernel) (Nat.le_of_ble_eq_true rfl) dX3_renew_10 (fun H locs hP hD hS => ?_)
  have hP : va_P D vwCl [(qS, .inr (3, [.ref qSi, .int (iI (0)), .int (iI (sf)), .int (iI (sz_))])), (qSi, .inl (cyI, 60, .inl (xA (fun _ => 0))))] H := hP
  have hD : va_D A [(qS, .inr (3, [.ref qSi, .int (iI (0)), .int (iI (sf)), .int (iI (sz_))])), (qSi, .inl (cyI, 60, .inl (xA (fun _ => 0))))] := hD
  refine lv_aload_n hx hb dX3_renew_13 rfl (lv_at hl 0 rfl) ?_
  refine lv_iload_n hx hb dX3_renew_14 rfl (lv_at hl 1 rfl) ?_
  refine va_put (D := D) (ci := 3) (v := .int (iI (f))) (ty := .int) (C := RX3) (T := TX3) (N := 4) hx hb hts hcX3 tyX3 tyX3_ok nmX3 hown hK hP hD hS 0 rfl rfl 2 (by decide) (hts (.fieldLink RX3 19 "WallMarks$Sheet" "form" "I") (List.mem_of_getElem? (i := 3) (by decide +kernel))) (fun _ h9 => h9) rfl (by decide +kernel) rfl rfl (Nat.le_of_ble_eq_true rfl) dX3_renew_15 (fun H locs hP hD hS => ?_)
  have hP : va_P D vwCl [(qS, .inr (3, [.ref qSi, .int (iI (0)), .int (iI (f)), .int (iI (sz_))])), (qSi, .inl (cyI, 60, .inl (xA (fun _ => 0))))] H := hP
  have hD : va_D A [(qS, .inr (3, [.ref qSi, .int (iI (0)), .int (iI (f)), .int (iI (sz_))])), (qSi, .inl (cyI, 60, .inl (xA (fun _ => 0))))] := hD
  refine lv_aload_n hx hb dX3_renew_18 rfl (lv_at hl 0 rfl) ?_
  refine lv_iload_n hx hb dX3_renew_19 rfl (lv_at hl 2 rfl) ?_
  refine va_put (D := D) (ci := 3) (v := .int (iI (n))) (ty := .int) (C := RX3) (T := TX3) (N := 4) hx hb hts hcX3 tyX3 tyX3_ok nmX3 hown hK hP hD hS 0 rfl rfl 3 (by decide) (hts (.fieldLink RX3 23 "WallMarks$Sheet" "size" "I") (List.mem_of_getElem? (i := 4) (by decide +kernel))) (fun _ h9 => h9) rfl (by decide +kernel) rfl rfl (Nat.le_of_ble_eq_true rfl) dX3_renew_20 (fun H locs hP hD hS => ?_)
  have hP : va_P D vwCl [(qS, .inr (3, [.ref qSi, .int (iI (0)), .int (iI (f)), .int (iI (n))])), (qSi, .inl (cyI, 60, .inl (xA (fun _ => 0))))] H := hP
  have hD : va_D A [(qS, .inr (3, [.ref qSi, .int (iI (0)), .int (iI (f)), .int (iI (n))])), (qSi, .inl (cyI, 60, .inl (xA (fun _ => 0))))] := hD
  exact W.vret hx hb hr (fun t_ ht_ hW_ => ⟨⟨(), rfl, trivial, by rw [ht_]; exact hP, va_K.moved hW_.alike hK, hD⟩, hS.F ht_⟩) hS.2.2 dX3_renew_23
set_option maxHeartbeats 1000000 in
set_option maxRecDepth 100000 in
theorem c_X3_holds (l : Launch) (D : va_G) (cyI cyJ cyO : ClassId) (qS : Nat) (qSi : Nat) (sl : Int) (sf : Int) (sz_ : Int) (i : Int) (n : Int) (h_sz_ : 0 ≤ sz_ ∧ sz_ ≤ 60) (h_i : -2147483648 ≤ i ∧ i ≤ 2147483647) (h_n : -2147483648 ≤ n ∧ n ≤ 2147483647) : Met l yX3_holds wsX3_holds ({ frames := 0, cells := 0, slots := 0, locals := 0 }) (va_Pc [.ref qS, .int (iI (i)), .int (iI (n))] (xR D vwCl [(qS, .inr (3, [.ref qSi, .int (iI (sl)), .int (iI (sf)), .int (iI (sz_))]))] (xT cyI cyJ cyO))) (xq (some (.int (iI (b2 (0 ≤ i ∧ 0 ≤ n ∧ n ≤ sz_ ∧ i ≤ sz_ - n)))))) 0 0 (fun _ => False) := by
  refine Met.ofW (cc := cX3_holds) (maxL := 3) (ret := (some .boolean)) (by decide) rfl ?_
  intro p e s m args below meth c s₁ B hml hv
  obtain ⟨rfl, hP, hK⟩ := hv
  have hx := B.exec
  have hb := B.bytes
  have hr := B.returns
  have hts := atoms_spec (ws := wsX3_holds) B.pre
  have hown : s.vm.findClass RX3 = some m.cls := findClass_of_methodNamed B.named
  have hlocks := B.notSynchronized
  have hcX3 : ∀ w ∈ wsX30, w ∈ wsX3_holds := fun _ h => List.mem_cons_of_mem _ (List.mem_append_right _ h)
  have hP : va_P D vwCl [(qS, .inr (3, [.ref qSi, .int (iI (sl)), .int (iI (sf)), .int (iI (sz_))]))] s.heap := hP
  have hl := lv_entry ([.ref qS, .int (iI (i)), .int (iI (n))]) (n := 3) (Nat.le_of_ble_eq_true rfl)
  rw [lg_entry_eq]
  generalize (lg_sl ([.ref qS, .int (iI (i)), .int (iI (n))]) ++ List.replicate (3 - (lg_sl ([.ref qS, .int (iI (i)), .int (iI (n))])).length) Slot.unset).toArray = ls at hl ⊢
  have hl : lv_has ls 3 [(0, .ref qS), (1, .int (iI (i))), (2, .int (iI (n)))] := hl
  refine lv_iload_n hx hb dX3_holds_0 rfl (lv_at hl 1 rfl) ?_
  refine xb_if_lt (tgt := 30) hx hb dX3_holds_1 (by decide) (by omega) (fun h_1 => ?_) (fun h_1 => ?_)
  · refine xi_const hx hb dX3_holds_30 ?_
    exact W.zret (v := iI (0)) hx hb hr (by decide +kernel) (fun t_ ht_ _ => ⟨congrArg (fun z => Outcome.returned (some (Value.int (iI z)))) (show (0 : Int) = b2 (0 ≤ i ∧ 0 ≤ n ∧ n ≤ sz_ ∧ i ≤ sz_ - n) from (b2_f (by first | assumption | omega | (constructor <;> first | assumption | omega))).symm), ht_⟩) (fun _ h9 => absurd h9 List.not_mem_nil) dX3_holds_31
  · refine lv_iload_n hx hb dX3_holds_4 rfl (lv_at hl 2 rfl) ?_
    refine xb_if_lt (tgt := 30) hx hb dX3_holds_5 (by decide) (by omega) (fun h_2 => ?_) (fun h_2 => ?_)
    · refine xi_const hx hb dX3_holds_30 ?_
      exact W.zret (v := iI (0)) hx hb hr (by decide +kernel) (fun t_ ht_ _ => ⟨congrArg (fun z => Outcome.returned (some (Value.int (iI z)))) (show (0 : Int) = b2 (0 ≤ i ∧ 0 ≤ n ∧ n ≤ sz_ ∧ i ≤ sz_ - n) from (b2_f (by first | assumption | omega | (constructor <;> first | assumption | omega))).symm), ht_⟩) (fun _ h9 => absurd h9 List.not_mem_nil) dX3_holds_31
    · refine lv_iload_n hx hb dX3_holds_8 rfl (lv_at hl 2 rfl) ?_
      refine lv_aload_n hx hb dX3_holds_9 rfl (lv_at hl 0 rfl) ?_
      refine va_get (D := D) (ci := 3) (C := RX3) (T := TX3) (N := 4) hx hb hts hcX3 hown hK hP 0 rfl rfl 3 (by decide) (hts (.fieldLink RX3 23 "WallMarks$Sheet" "size" "I") (List.mem_of_getElem? (i := 1) (by decide +kernel))) (fun _ h9 => h9) rfl dX3_holds_10 ?_
      refine xb_icmp_gt (tgt := 30) hx hb dX3_holds_13 (by decide) (by omega) (fun h_3 => ?_) (fun h_3 => ?_)
      · refine xi_const hx hb dX3_holds_30 ?_
        exact W.zret (v := iI (0)) hx hb hr (by decide +kernel) (fun t_ ht_ _ => ⟨congrArg (fun z => Outcome.returned (some (Value.int (iI z)))) (show (0 : Int) = b2 (0 ≤ i ∧ 0 ≤ n ∧ n ≤ sz_ ∧ i ≤ sz_ - n) from (b2_f (by first | assumption | omega | (constructor <;> first | assumption | omega))).symm), ht_⟩) (fun _ h9 => absurd h9 List.not_mem_nil) dX3_holds_31
      · refine lv_iload_n hx hb dX3_holds_16 rfl (lv_at hl 1 rfl) ?_
        refine lv_aload_n hx hb dX3_holds_17 rfl (lv_at hl 0 rfl) ?_
        refine va_get (D := D) (ci := 3) (C := RX3) (T := TX3) (N := 4) hx hb hts hcX3 hown hK hP 0 rfl rfl 3 (by decide) (hts (.fieldLink RX3 23 "WallMarks$Sheet" "size" "I") (List.mem_of_getElem? (i := 1) (by decide +kernel))) (fun _ h9 => h9) rfl dX3_holds_18 ?_
        refine lv_iload_n hx hb dX3_holds_21 rfl (lv_at hl 2 rfl) ?_
        refine xi_sub hx hb dX3_holds_22 ?_
        refine xb_icmp_gt (tgt := 30) hx hb dX3_holds_23 (by decide) (by omega) (fun h_4 => ?_) (fun h_4 => ?_)
        · refine xi_const hx hb dX3_holds_30 ?_
          exact W.zret (v := iI (0)) hx hb hr (by decide +kernel) (fun t_ ht_ _ => ⟨congrArg (fun z => Outcome.returned (some (Value.int (iI z)))) (show (0 : Int) = b2 (0 ≤ i ∧ 0 ≤ n ∧ n ≤ sz_ ∧ i ≤ sz_ - n) from (b2_f (by first | assumption | omega | (constructor <;> first | assumption | omega))).symm), ht_⟩) (fun _ h9 => absurd h9 List.not_mem_nil) dX3_holds_31
        · refine xi_const hx hb dX3_holds_26 ?_
          refine lv_goto (tgt := 31) hx hb dX3_holds_27 (by decide) ?_
          exact W.zret (v := iI (1)) hx hb hr (by decide +kernel) (fun t_ ht_ _ => ⟨congrArg (fun z => Outcome.returned (some (Value.int (iI z)))) (show (1 : Int) = b2 (0 ≤ i ∧ 0 ≤ n ∧ n ≤ sz_ ∧ i ≤ sz_ - n) from (b2_t (by first | assumption | omega | (constructor <;> first | assumption | omega))).symm), ht_⟩) (fun _ h9 => absurd h9 List.not_mem_nil) dX3_holds_31
set_option maxHeartbeats 1000000 in
set_option maxRecDepth 100000 in
theorem c_X3_itemAt (l : Launch) (D : va_G) (cyI cyJ cyO : ClassId) (qS : Nat) (qSi : Nat) (sl : Int) (sf : Int) (sz_ : Int) (it : Int → Int) (i : Int) (h_sz_ : 0 ≤ sz_ ∧ sz_ ≤ 60) (h_i : -2147483648 ≤ i ∧ i ≤ 2147483647) : Met l yX3_itemAt wsX3_itemAt ({ frames := 1, cells := 0, slots := 0, locals := 22 }) (va_Pc [.ref qS, .int (iI (i))] (xR D vwCl [(qS, .inr (3, [.ref qSi, .int (iI (sl)), .int (iI (sf)), .int (iI (sz_))])), (qSi, .inl (cyI, 60, .inl (xA (it))))] (xT cyI cyJ cyO))) (xq (some (.int (iI (if 0 ≤ i ∧ i < sz_ then it i else 0))))) 0 0 (fun _ => False) := by
  refine Met.ofW (cc := cX3_itemAt) (maxL := 2) (ret := (some .int)) (by decide) rfl ?_
  intro p e s m args below meth c s₁ B hml hv
  obtain ⟨rfl, hP, hK⟩ := hv
  have hx := B.exec
  have hb := B.bytes
  have hr := B.returns
  have hts := atoms_spec (ws := wsX3_itemAt) B.pre
  have hown : s.vm.findClass RX3 = some m.cls := findClass_of_methodNamed B.named
  have hlocks := B.notSynchronized
  have hcX3 : ∀ w ∈ wsX30, w ∈ wsX3_itemAt := fun _ h => List.mem_cons_of_mem _ (List.mem_append_right _ h)
  have hP : va_P D vwCl [(qS, .inr (3, [.ref qSi, .int (iI (sl)), .int (iI (sf)), .int (iI (sz_))])), (qSi, .inl (cyI, 60, .inl (xA (it))))] s.heap := hP
  have hl := lv_entry ([.ref qS, .int (iI (i))]) (n := 2) (Nat.le_of_ble_eq_true rfl)
  rw [lg_entry_eq]
  generalize (lg_sl ([.ref qS, .int (iI (i))]) ++ List.replicate (2 - (lg_sl ([.ref qS, .int (iI (i))])).length) Slot.unset).toArray = ls at hl ⊢
  have hl : lv_has ls 2 [(0, .ref qS), (1, .int (iI (i)))] := hl
  refine lv_aload_n hx hb dX3_itemAt_0 rfl (lv_at hl 0 rfl) ?_
  refine lv_iload_n hx hb dX3_itemAt_1 rfl (lv_at hl 1 rfl) ?_
  refine xi_const hx hb dX3_itemAt_2 ?_
  have hPc := hP.sub (ws' := [(qS, .inr (3, [.ref qSi, .int (iI (sl)), .int (iI (sf)), .int (iI (sz_))]))]) [0] rfl
  refine xc_i (va_runV (As := [.int (iI (i)), .int (iI (1))]) (rest := []) ⟨hx, hb, hml, hown, hts⟩ (c_X3_holds l D cyI cyJ cyO qS qSi sl sf sz_ i 1 (by first | exact h_sz_ | assumption | omega) (by first | exact h_i | assumption | omega) (by first | exact h_n | assumption | omega)) (cwV 2 hts gX3_itemAt_X3_holds rfl rfl rfl (by decide +kernel) ⟨Nat.le_of_ble_eq_true rfl, Nat.le_of_ble_eq_true rfl⟩) (xpV hPc hK (ci := 3) (q0 := 0) (q := (RX3, TX3, 4)) rfl rfl) rfl rfl hl.1 rfl (lv_room (Nat.le_of_ble_eq_true rfl)) dX3_itemAt_3 ⟨Nat.le_of_ble_eq_true rfl, Nat.le_of_ble_eq_true rfl⟩) ?_
  refine xb_if_eqB (tgt := 18) hx hb dX3_itemAt_6 (by decide) (fun h_1 => ?_) (fun h_1 => ?_)
  · refine xi_const hx hb dX3_itemAt_18 ?_
    exact W.iret (v := iI (0)) hx hb hr (fun t_ ht_ _ => ⟨congrArg (fun z => Outcome.returned (some (Value.int (iI z)))) (show (0) = (if 0 ≤ i ∧ i < sz_ then it i else 0) from by first | rw [if_pos (by omega)] | rw [if_neg (by omega)]), ht_⟩) (fun _ h9 => absurd h9 List.not_mem_nil) dX3_itemAt_19
  · refine lv_aload_n hx hb dX3_itemAt_9 rfl (lv_at hl 0 rfl) ?_
    refine va_get (D := D) (ci := 3) (C := RX3) (T := TX3) (N := 4) hx hb hts hcX3 hown hK hP 0 rfl rfl 0 (by decide) (hts (.fieldLink RX3 9 "WallMarks$Sheet" "items" "[I") (List.mem_of_getElem? (i := 1) (by decide +kernel))) (fun _ h9 => h9) rfl dX3_itemAt_10 ?_
    refine lv_iload_n hx hb dX3_itemAt_13 rfl (lv_at hl 1 rfl) ?_
    refine xi_ald (D := D) hx hb hK hP 1 0 rfl rfl (by decide) (by omega) dX3_itemAt_14 ?_
    refine lv_goto (tgt := 19) hx hb dX3_itemAt_15 (by decide) ?_
    exact W.iret (v := iI (it (i))) hx hb hr (fun t_ ht_ _ => ⟨congrArg (fun z => Outcome.returned (some (Value.int (iI z)))) (show (it (i)) = (if 0 ≤ i ∧ i < sz_ then it i else 0) from by first | rw [if_pos (by omega)] | rw [if_neg (by omega)]), ht_⟩) (fun _ h9 => absurd h9 List.not_mem_nil) dX3_itemAt_19
set_option maxHeartbeats 1000000 in
set_option maxRecDepth 100000 in
theorem c_X3_narrowed (l : Launch) (D : va_G) (cyI cyJ cyO : ClassId) (qS : Nat) (qSi : Nat) (sl : Int) (sf : Int) (sz_ : Int) (v : Int) (h_sf : -2147483648 ≤ sf ∧ sf ≤ 2147483647) : Met l yX3_narrowed wsX3_narrowed ({ frames := 0, cells := 0, slots := 0, locals := 0 }) (va_Pc [.ref qS, .int (iI (v))] (xR D vwCl [(qS, .inr (3, [.ref qSi, .int (iI (sl)), .int (iI (sf)), .int (iI (sz_))]))] (xT cyI cyJ cyO))) (xq (some (.int (iI (nar sf v))))) 0 0 (fun _ => False) := by
  refine Met.ofW (cc := cX3_narrowed) (maxL := 2) (ret := (some .int)) (by decide) rfl ?_
  intro p e s m args below meth c s₁ B hml hv
  obtain ⟨rfl, hP, hK⟩ := hv
  have hx := B.exec
  have hb := B.bytes
  have hr := B.returns
  have hts := atoms_spec (ws := wsX3_narrowed) B.pre
  have hown : s.vm.findClass RX3 = some m.cls := findClass_of_methodNamed B.named
  have hlocks := B.notSynchronized
  have hcX3 : ∀ w ∈ wsX30, w ∈ wsX3_narrowed := fun _ h => List.mem_cons_of_mem _ (List.mem_append_right _ h)
  have hP : va_P D vwCl [(qS, .inr (3, [.ref qSi, .int (iI (sl)), .int (iI (sf)), .int (iI (sz_))]))] s.heap := hP
  have hl := lv_entry ([.ref qS, .int (iI (v))]) (n := 2) (Nat.le_of_ble_eq_true rfl)
  rw [lg_entry_eq]
  generalize (lg_sl ([.ref qS, .int (iI (v))]) ++ List.replicate (2 - (lg_sl ([.ref qS, .int (iI (v))])).length) Slot.unset).toArray = ls at hl ⊢
  have hl : lv_has ls 2 [(0, .ref qS), (1, .int (iI (v)))] := hl
  refine lv_aload_n hx hb dX3_narrowed_0 rfl (lv_at hl 0 rfl) ?_
  refine va_get (D := D) (ci := 3) (C := RX3) (T := TX3) (N := 4) hx hb hts hcX3 hown hK hP 0 rfl rfl 2 (by decide) (hts (.fieldLink RX3 19 "WallMarks$Sheet" "form" "I") (List.mem_of_getElem? (i := 1) (by decide +kernel))) (fun _ h9 => h9) rfl dX3_narrowed_1 ?_
  refine xb_if_ne (tgt := 10) hx hb dX3_narrowed_4 (by decide) (by omega) (fun h_1 => ?_) (fun h_1 => ?_)
  · refine lv_aload_n hx hb dX3_narrowed_10 rfl (lv_at hl 0 rfl) ?_
    refine va_get (D := D) (ci := 3) (C := RX3) (T := TX3) (N := 4) hx hb hts hcX3 hown hK hP 0 rfl rfl 2 (by decide) (hts (.fieldLink RX3 19 "WallMarks$Sheet" "form" "I") (List.mem_of_getElem? (i := 1) (by decide +kernel))) (fun _ h9 => h9) rfl dX3_narrowed_11 ?_
    refine xi_const hx hb dX3_narrowed_14 ?_
    refine xb_icmp_ne (tgt := 23) hx hb dX3_narrowed_15 (by decide) (by omega) (fun h_2 => ?_) (fun h_2 => ?_)
    · refine lv_iload_n hx hb dX3_narrowed_23 rfl (lv_at hl 1 rfl) ?_
      exact W.iret (v := iI (v)) hx hb hr (fun t_ ht_ _ => ⟨congrArg (fun z => Outcome.returned (some (Value.int (iI z)))) (show (v) = (nar sf v) from by unfold nar; first | rw [if_pos (by omega)] | rw [if_neg (by omega), if_pos (by omega)] | rw [if_neg (by omega), if_neg (by omega)]), ht_⟩) (fun _ h9 => absurd h9 List.not_mem_nil) dX3_narrowed_24
    · refine lv_iload_n hx hb dX3_narrowed_18 rfl (lv_at hl 1 rfl) ?_
      refine xi_i2s hx hb dX3_narrowed_19 ?_
      refine lv_goto (tgt := 24) hx hb dX3_narrowed_20 (by decide) ?_
      exact W.iret (v := iI (sxS (v))) hx hb hr (fun t_ ht_ _ => ⟨congrArg (fun z => Outcome.returned (some (Value.int (iI z)))) (show (sxS (v)) = (nar sf v) from by unfold nar; first | rw [if_pos (by omega)] | rw [if_neg (by omega), if_pos (by omega)] | rw [if_neg (by omega), if_neg (by omega)]), ht_⟩) (fun _ h9 => absurd h9 List.not_mem_nil) dX3_narrowed_24
  · refine lv_iload_n hx hb dX3_narrowed_7 rfl (lv_at hl 1 rfl) ?_
    refine xi_i2b hx hb dX3_narrowed_8 ?_
    exact W.iret (v := iI (sxB (v))) hx hb hr (fun t_ ht_ _ => ⟨congrArg (fun z => Outcome.returned (some (Value.int (iI z)))) (show (sxB (v)) = (nar sf v) from by unfold nar; first | rw [if_pos (by omega)] | rw [if_neg (by omega), if_pos (by omega)] | rw [if_neg (by omega), if_neg (by omega)]), ht_⟩) (fun _ h9 => absurd h9 List.not_mem_nil) dX3_narrowed_9
set_option maxHeartbeats 1000000 in
set_option maxRecDepth 100000 in
theorem c_X3_put (l : Launch) (D : va_G) (cyI cyJ cyO : ClassId) (qS : Nat) (qSi : Nat) (sl : Int) (sf : Int) (sz_ : Int) (it : Int → Int) (sz : Nat) (i : Int) (v : Int) (h_sz_ : 0 ≤ sz_ ∧ sz_ ≤ 60) (h_sf : -2147483648 ≤ sf ∧ sf ≤ 2147483647) (h_i : 0 ≤ i ∧ i < sz_) : Met l yX3_put wsX3_put ({ frames := 1, cells := 0, slots := 0, locals := 22 }) (va_Pc [.ref qS, .int (iI (i)), .int (iI (v))] (xM D vwCl [(qS, .inr (3, [.ref qSi, .int (iI (sl)), .int (iI (sf)), .int (iI (sz_))])), (qSi, .inl (cyI, 60, .inl (xA (it))))] (xT cyI cyJ cyO) sz)) (va_Qv (fun (u : Unit) => True) (xB D vwCl (xT cyI cyJ cyO) (va_A [(qS, .inr (3, [.ref qSi, .int (iI (sl)), .int (iI (sf)), .int (iI (sz_))])), (qSi, .inl (cyI, 60, .inl (xA (it))))] sz) (fun u : Unit => [(qS, .inr (3, [.ref qSi, .int (iI (sl)), .int (iI (sf)), .int (iI (sz_))])), (qSi, .inl (cyI, 60, .inl (xA (uz it i (nar sf v)))))])) (va_A [(qS, .inr (3, [.ref qSi, .int (iI (sl)), .int (iI (sf)), .int (iI (sz_))])), (qSi, .inl (cyI, 60, .inl (xA (it))))] sz)) 0 0 (va_A [(qS, .inr (3, [.ref qSi, .int (iI (sl)), .int (iI (sf)), .int (iI (sz_))])), (qSi, .inl (cyI, 60, .inl (xA (it))))] sz) := by
  refine Met.ofW (cc := cX3_put) (maxL := 3) (ret := none) (by decide) rfl ?_
  intro p e s m args below meth c s₁ B hml hv
  obtain ⟨rfl, hsz, hP, hK, hD0⟩ := hv
  have hx := B.exec
  have hb := B.bytes
  have hr := B.returns
  have hts := atoms_spec (ws := wsX3_put) B.pre
  have hown : s.vm.findClass RX3 = some m.cls := findClass_of_methodNamed B.named
  have hlocks := B.notSynchronized
  have hcX3 : ∀ w ∈ wsX30, w ∈ wsX3_put := fun _ h => List.mem_cons_of_mem _ (List.mem_append_right _ h)
  subst hsz
  have hD := hD0.self (sz := s.heap.size)
  generalize hAe : va_A [(qS, .inr (3, [.ref qSi, .int (iI (sl)), .int (iI (sf)), .int (iI (sz_))])), (qSi, .inl (cyI, 60, .inl (xA (it))))] s.heap.size = A at hD ⊢
  have hA : ∀ q : Nat, s.heap.size ≤ q → A q := fun q h => by rw [← hAe]; exact Or.inr h
  have hS : va_S A s.heap s.heap [] := va_S.rf
  have hP : va_P D vwCl [(qS, .inr (3, [.ref qSi, .int (iI (sl)), .int (iI (sf)), .int (iI (sz_))])), (qSi, .inl (cyI, 60, .inl (xA (it))))] s.heap := hP
  have hl := lv_entry ([.ref qS, .int (iI (i)), .int (iI (v))]) (n := 3) (Nat.le_of_ble_eq_true rfl)
  rw [lg_entry_eq]
  generalize (lg_sl ([.ref qS, .int (iI (i)), .int (iI (v))]) ++ List.replicate (3 - (lg_sl ([.ref qS, .int (iI (i)), .int (iI (v))])).length) Slot.unset).toArray = ls at hl ⊢
  have hl : lv_has ls 3 [(0, .ref qS), (1, .int (iI (i))), (2, .int (iI (v)))] := hl
  refine lv_aload_n hx hb dX3_put_0 rfl (lv_at hl 0 rfl) ?_
  refine lv_iload_n hx hb dX3_put_1 rfl (lv_at hl 1 rfl) ?_
  refine xi_const hx hb dX3_put_2 ?_
  have hPc := hP.sub (ws' := [(qS, .inr (3, [.ref qSi, .int (iI (sl)), .int (iI (sf)), .int (iI (sz_))]))]) [0] rfl
  refine xc_i (va_runV (As := [.int (iI (i)), .int (iI (1))]) (rest := []) ⟨hx, hb, hml, hown, hts⟩ (c_X3_holds l D cyI cyJ cyO qS qSi sl sf sz_ i 1 (by first | exact h_sz_ | assumption | omega) (by first | exact h_i | assumption | omega) (by first | exact h_n | assumption | omega)) (cwV 2 hts gX3_put_X3_holds rfl rfl rfl (by decide +kernel) ⟨Nat.le_of_ble_eq_true rfl, Nat.le_of_ble_eq_true rfl⟩) (xpV hPc hK (ci := 3) (q0 := 0) (q := (RX3, TX3, 4)) rfl rfl) rfl rfl hl.1 rfl (lv_room (Nat.le_of_ble_eq_true rfl)) dX3_put_3 ⟨Nat.le_of_ble_eq_true rfl, Nat.le_of_ble_eq_true rfl⟩) ?_
  refine xb_if_eqB (tgt := 20) hx hb dX3_put_6 (by decide) (fun h_1 => by exfalso; omega) (fun h_1 => ?_)
  refine lv_aload_n hx hb dX3_put_9 rfl (lv_at hl 0 rfl) ?_
  refine va_get (D := D) (ci := 3) (C := RX3) (T := TX3) (N := 4) hx hb hts hcX3 hown hK hP 0 rfl rfl 0 (by decide) (hts (.fieldLink RX3 9 "WallMarks$Sheet" "items" "[I") (List.mem_of_getElem? (i := 1) (by decide +kernel))) (fun _ h9 => h9) rfl dX3_put_10 ?_
  refine lv_iload_n hx hb dX3_put_13 rfl (lv_at hl 1 rfl) ?_
  refine lv_aload_n hx hb dX3_put_14 rfl (lv_at hl 0 rfl) ?_
  refine lv_iload_n hx hb dX3_put_15 rfl (lv_at hl 2 rfl) ?_
  have hPc := hP.sub (ws' := [(qS, .inr (3, [.ref qSi, .int (iI (sl)), .int (iI (sf)), .int (iI (sz_))]))]) [0] rfl
  refine xc_i (va_runV (As := [.int (iI (v))]) (rest := [.int (iI (i)), .ref qSi]) ⟨hx, hb, hml, hown, hts⟩ (c_X3_narrowed l D cyI cyJ cyO qS qSi sl sf sz_ v (by first | exact h_sf | assumption | omega)) (cwV 1 hts gX3_put_X3_narrowed rfl rfl rfl (by decide +kernel) ⟨Nat.le_of_ble_eq_true rfl, Nat.le_of_ble_eq_true rfl⟩) (xpV hPc hK (ci := 3) (q0 := 0) (q := (RX3, TX3, 4)) rfl rfl) rfl rfl hl.1 rfl (lv_room (Nat.le_of_ble_eq_true rfl)) dX3_put_16 ⟨Nat.le_of_ble_eq_true rfl, Nat.le_of_ble_eq_true rfl⟩) ?_
  refine xi_ast (D := D) hx hb hK hP hD hS 1 0 rfl rfl (by decide) (by omega) dX3_put_19 (fun H locs hP hD hS => ?_)
  have hP : va_P D vwCl [(qS, .inr (3, [.ref qSi, .int (iI (sl)), .int (iI (sf)), .int (iI (sz_))])), (qSi, .inl (cyI, 60, .inl (xA (uz it (i) (nar sf v)))))] H := hP
  have hD : va_D A [(qS, .inr (3, [.ref qSi, .int (iI (sl)), .int (iI (sf)), .int (iI (sz_))])), (qSi, .inl (cyI, 60, .inl (xA (uz it (i) (nar sf v)))))] := hD
  have he0 : (uz it (i) (nar sf v) : Int → Int) = (uz it i (nar sf v)) := by first | rfl | omega
  have hW8 := congrArg (fun (xv0 : Int → Int) => ([(qS, .inr (3, [.ref qSi, .int (iI (sl)), .int (iI (sf)), .int (iI (sz_))])), (qSi, .inl (cyI, 60, .inl (xA (xv0))))] : va_W)) he0
  have hW9 : ([(qS, .inr (3, [.ref qSi, .int (iI (sl)), .int (iI (sf)), .int (iI (sz_))])), (qSi, .inl (cyI, 60, .inl (xA (uz it (i) (nar sf v)))))] : va_W) = [(qS, .inr (3, [.ref qSi, .int (iI (sl)), .int (iI (sf)), .int (iI (sz_))])), (qSi, .inl (cyI, 60, .inl (xA (uz it i (nar sf v)))))] := hW8
  rw [hW9] at hP hD
  exact W.vret hx hb hr (fun t_ ht_ hW_ => ⟨⟨(), rfl, trivial, by rw [ht_]; exact hP, va_K.moved hW_.alike hK, hD⟩, hS.F ht_⟩) hS.2.2 dX3_put_20
set_option maxHeartbeats 1000000 in
set_option maxRecDepth 100000 in
theorem c_X1_hasRoom (l : Launch) (D : va_G) (cyI cyJ cyO : ClassId) (qF : Nat) (qFb : Nat) (qFl : Nat) (qFa : Nat) (fs : Int) (fp : Int) (fq : Int) (h_fs : 0 ≤ fs ∧ fs ≤ 60) : Met l yX1_hasRoom wsX1_hasRoom ({ frames := 0, cells := 0, slots := 0, locals := 0 }) (va_Pc [.ref qF] (xR D vwCl [(qF, .inr (1, [.ref qFb, .ref qFl, .ref qFa, .int (iI (fs)), .int (iI (fp)), .int (iI (fq))]))] (xT cyI cyJ cyO))) (xq (some (.int (iI (b2 (fs < 60)))))) 0 0 (fun _ => False) := by
  refine Met.ofW (cc := cX1_hasRoom) (maxL := 1) (ret := (some .boolean)) (by decide) rfl ?_
  intro p e s m args below meth c s₁ B hml hv
  obtain ⟨rfl, hP, hK⟩ := hv
  have hx := B.exec
  have hb := B.bytes
  have hr := B.returns
  have hts := atoms_spec (ws := wsX1_hasRoom) B.pre
  have hown : s.vm.findClass RX1 = some m.cls := findClass_of_methodNamed B.named
  have hlocks := B.notSynchronized
  have hcX1 : ∀ w ∈ wsX10, w ∈ wsX1_hasRoom := fun _ h => List.mem_cons_of_mem _ (List.mem_append_right _ h)
  have hP : va_P D vwCl [(qF, .inr (1, [.ref qFb, .ref qFl, .ref qFa, .int (iI (fs)), .int (iI (fp)), .int (iI (fq))]))] s.heap := hP
  have hl := lv_entry ([.ref qF]) (n := 1) (Nat.le_of_ble_eq_true rfl)
  rw [lg_entry_eq]
  generalize (lg_sl ([.ref qF]) ++ List.replicate (1 - (lg_sl ([.ref qF])).length) Slot.unset).toArray = ls at hl ⊢
  have hl : lv_has ls 1 [(0, .ref qF)] := hl
  refine lv_aload_n hx hb dX1_hasRoom_0 rfl (lv_at hl 0 rfl) ?_
  refine va_get (D := D) (ci := 1) (C := RX1) (T := TX1) (N := 6) hx hb hts hcX1 hown hK hP 0 rfl rfl 3 (by decide) (hts (.fieldLink RX1 21 "WallMarks$Flows" "size" "I") (List.mem_of_getElem? (i := 1) (by decide +kernel))) (fun _ h9 => h9) rfl dX1_hasRoom_1 ?_
  refine xi_bipush hx hb dX1_hasRoom_4 (by decide +kernel) ?_
  refine xb_icmp_ge (tgt := 13) hx hb dX1_hasRoom_6 (by decide) (by omega) (fun h_1 => ?_) (fun h_1 => ?_)
  · refine xi_const hx hb dX1_hasRoom_13 ?_
    exact W.zret (v := iI (0)) hx hb hr (by decide +kernel) (fun t_ ht_ _ => ⟨congrArg (fun z => Outcome.returned (some (Value.int (iI z)))) (show (0 : Int) = b2 (fs < 60) from (b2_f (by first | assumption | omega | (constructor <;> first | assumption | omega))).symm), ht_⟩) (fun _ h9 => absurd h9 List.not_mem_nil) dX1_hasRoom_14
  · refine xi_const hx hb dX1_hasRoom_9 ?_
    refine lv_goto (tgt := 14) hx hb dX1_hasRoom_10 (by decide) ?_
    exact W.zret (v := iI (1)) hx hb hr (by decide +kernel) (fun t_ ht_ _ => ⟨congrArg (fun z => Outcome.returned (some (Value.int (iI z)))) (show (1 : Int) = b2 (fs < 60) from (b2_t (by first | assumption | omega | (constructor <;> first | assumption | omega))).symm), ht_⟩) (fun _ h9 => absurd h9 List.not_mem_nil) dX1_hasRoom_14
set_option maxHeartbeats 1000000 in
set_option maxRecDepth 100000 in
theorem c_X1_add (l : Launch) (D : va_G) (cyI cyJ cyO : ClassId) (qF : Nat) (qFb : Nat) (qFl : Nat) (qFa : Nat) (fs : Int) (fp : Int) (fq : Int) (fb : Int → Int) (sz : Nat) (b : Int) (h_fs : 0 ≤ fs ∧ fs < 60) : Met l yX1_add wsX1_add ({ frames := 1, cells := 0, slots := 0, locals := 20 }) (va_Pc [.ref qF, .int (iI (b))] (xM D vwCl [(qF, .inr (1, [.ref qFb, .ref qFl, .ref qFa, .int (iI (fs)), .int (iI (fp)), .int (iI (fq))])), (qFb, .inl (cyI, 60, .inl (xA (fb))))] (xT cyI cyJ cyO) sz)) (va_Qv (fun (u : Unit) => True) (xB D vwCl (xT cyI cyJ cyO) (va_A [(qF, .inr (1, [.ref qFb, .ref qFl, .ref qFa, .int (iI (fs)), .int (iI (fp)), .int (iI (fq))])), (qFb, .inl (cyI, 60, .inl (xA (fb))))] sz) (fun u : Unit => [(qF, .inr (1, [.ref qFb, .ref qFl, .ref qFa, .int (iI (fs + 1)), .int (iI (fp)), .int (iI (fq))])), (qFb, .inl (cyI, 60, .inl (xA (uz fb fs b))))])) (va_A [(qF, .inr (1, [.ref qFb, .ref qFl, .ref qFa, .int (iI (fs)), .int (iI (fp)), .int (iI (fq))])), (qFb, .inl (cyI, 60, .inl (xA (fb))))] sz)) 0 0 (va_A [(qF, .inr (1, [.ref qFb, .ref qFl, .ref qFa, .int (iI (fs)), .int (iI (fp)), .int (iI (fq))])), (qFb, .inl (cyI, 60, .inl (xA (fb))))] sz) := by
  refine Met.ofW (cc := cX1_add) (maxL := 2) (ret := none) (by decide) rfl ?_
  intro p e s m args below meth c s₁ B hml hv
  obtain ⟨rfl, hsz, hP, hK, hD0⟩ := hv
  have hx := B.exec
  have hb := B.bytes
  have hr := B.returns
  have hts := atoms_spec (ws := wsX1_add) B.pre
  have hown : s.vm.findClass RX1 = some m.cls := findClass_of_methodNamed B.named
  have hlocks := B.notSynchronized
  have hcX1 : ∀ w ∈ wsX10, w ∈ wsX1_add := fun _ h => List.mem_cons_of_mem _ (List.mem_append_right _ h)
  subst hsz
  have hD := hD0.self (sz := s.heap.size)
  generalize hAe : va_A [(qF, .inr (1, [.ref qFb, .ref qFl, .ref qFa, .int (iI (fs)), .int (iI (fp)), .int (iI (fq))])), (qFb, .inl (cyI, 60, .inl (xA (fb))))] s.heap.size = A at hD ⊢
  have hA : ∀ q : Nat, s.heap.size ≤ q → A q := fun q h => by rw [← hAe]; exact Or.inr h
  have hS : va_S A s.heap s.heap [] := va_S.rf
  have hP : va_P D vwCl [(qF, .inr (1, [.ref qFb, .ref qFl, .ref qFa, .int (iI (fs)), .int (iI (fp)), .int (iI (fq))])), (qFb, .inl (cyI, 60, .inl (xA (fb))))] s.heap := hP
  have hl := lv_entry ([.ref qF, .int (iI (b))]) (n := 2) (Nat.le_of_ble_eq_true rfl)
  rw [lg_entry_eq]
  generalize (lg_sl ([.ref qF, .int (iI (b))]) ++ List.replicate (2 - (lg_sl ([.ref qF, .int (iI (b))])).length) Slot.unset).toArray = ls at hl ⊢
  have hl : lv_has ls 2 [(0, .ref qF), (1, .int (iI (b)))] := hl
  refine lv_aload_n hx hb dX1_add_0 rfl (lv_at hl 0 rfl) ?_
  have hPc := hP.sub (ws' := [(qF, .inr (1, [.ref qFb, .ref qFl, .ref qFa, .int (iI (fs)), .int (iI (fp)), .int (iI (fq))]))]) [0] rfl
  refine xc_i (va_runV (As := []) (rest := []) ⟨hx, hb, hml, hown, hts⟩ (c_X1_hasRoom l D cyI cyJ cyO qF qFb qFl qFa fs fp fq (by first | exact h_fs | assumption | omega)) (cwV 0 hts gX1_add_X1_hasRoom rfl rfl rfl (by decide +kernel) ⟨Nat.le_of_ble_eq_true rfl, Nat.le_of_ble_eq_true rfl⟩) (xpV hPc hK (ci := 1) (q0 := 0) (q := (RX1, TX1, 6)) rfl rfl) rfl rfl hl.1 rfl (lv_room (Nat.le_of_ble_eq_true rfl)) dX1_add_1 ⟨Nat.le_of_ble_eq_true rfl, Nat.le_of_ble_eq_true rfl⟩) ?_
  refine xb_if_eqB (tgt := 27) hx hb dX1_add_4 (by decide) (fun h_1 => by exfalso; omega) (fun h_1 => ?_)
  refine lv_aload_n hx hb dX1_add_7 rfl (lv_at hl 0 rfl) ?_
  refine va_get (D := D) (ci := 1) (C := RX1) (T := TX1) (N := 6) hx hb hts hcX1 hown hK hP 0 rfl rfl 0 (by decide) (hts (.fieldLink RX1 9 "WallMarks$Flows" "bytes" "[I") (List.mem_of_getElem? (i := 1) (by decide +kernel))) (fun _ h9 => h9) rfl dX1_add_8 ?_
  refine lv_aload_n hx hb dX1_add_11 rfl (lv_at hl 0 rfl) ?_
  refine va_get (D := D) (ci := 1) (C := RX1) (T := TX1) (N := 6) hx hb hts hcX1 hown hK hP 0 rfl rfl 3 (by decide) (hts (.fieldLink RX1 21 "WallMarks$Flows" "size" "I") (List.mem_of_getElem? (i := 2) (by decide +kernel))) (fun _ h9 => h9) rfl dX1_add_12 ?_
  refine lv_iload_n hx hb dX1_add_15 rfl (lv_at hl 1 rfl) ?_
  refine xi_ast (D := D) hx hb hK hP hD hS 1 0 rfl rfl (by decide) (by omega) dX1_add_16 (fun H locs hP hD hS => ?_)
  have hP : va_P D vwCl [(qF, .inr (1, [.ref qFb, .ref qFl, .ref qFa, .int (iI (fs)), .int (iI (fp)), .int (iI (fq))])), (qFb, .inl (cyI, 60, .inl (xA (uz fb (fs) (b)))))] H := hP
  have hD : va_D A [(qF, .inr (1, [.ref qFb, .ref qFl, .ref qFa, .int (iI (fs)), .int (iI (fp)), .int (iI (fq))])), (qFb, .inl (cyI, 60, .inl (xA (uz fb (fs) (b)))))] := hD
  refine lv_aload_n hx hb dX1_add_17 rfl (lv_at hl 0 rfl) ?_
  refine lv_dup hx hb dX1_add_18 rfl ?_
  refine va_get (D := D) (ci := 1) (C := RX1) (T := TX1) (N := 6) hx hb hts hcX1 hown hK hP 0 rfl rfl 3 (by decide) (hts (.fieldLink RX1 21 "WallMarks$Flows" "size" "I") (List.mem_of_getElem? (i := 2) (by decide +kernel))) (fun _ h9 => h9) rfl dX1_add_19 ?_
  refine xi_const hx hb dX1_add_22 ?_
  refine xi_add hx hb dX1_add_23 ?_
  refine va_put (D := D) (ci := 1) (v := .int (iI (fs + 1))) (ty := .int) (C := RX1) (T := TX1) (N := 6) hx hb hts hcX1 tyX1 tyX1_ok nmX1 hown hK hP hD hS 0 rfl rfl 3 (by decide) (hts (.fieldLink RX1 21 "WallMarks$Flows" "size" "I") (List.mem_of_getElem? (i := 2) (by decide +kernel))) (fun _ h9 => h9) rfl (by decide +kernel) rfl rfl (Nat.le_of_ble_eq_true rfl) dX1_add_24 (fun H locs hP hD hS => ?_)
  have hP : va_P D vwCl [(qF, .inr (1, [.ref qFb, .ref qFl, .ref qFa, .int (iI (fs + 1)), .int (iI (fp)), .int (iI (fq))])), (qFb, .inl (cyI, 60, .inl (xA (uz fb (fs) (b)))))] H := hP
  have hD : va_D A [(qF, .inr (1, [.ref qFb, .ref qFl, .ref qFa, .int (iI (fs + 1)), .int (iI (fp)), .int (iI (fq))])), (qFb, .inl (cyI, 60, .inl (xA (uz fb (fs) (b)))))] := hD
  have he0 : (uz fb (fs) (b) : Int → Int) = (uz fb fs b) := by first | rfl | omega
  have hW8 := congrArg (fun (xv0 : Int → Int) => ([(qF, .inr (1, [.ref qFb, .ref qFl, .ref qFa, .int (iI (fs + 1)), .int (iI (fp)), .int (iI (fq))])), (qFb, .inl (cyI, 60, .inl (xA (xv0))))] : va_W)) he0
  have hW9 : ([(qF, .inr (1, [.ref qFb, .ref qFl, .ref qFa, .int (iI (fs + 1)), .int (iI (fp)), .int (iI (fq))])), (qFb, .inl (cyI, 60, .inl (xA (uz fb (fs) (b)))))] : va_W) = [(qF, .inr (1, [.ref qFb, .ref qFl, .ref qFa, .int (iI (fs + 1)), .int (iI (fp)), .int (iI (fq))])), (qFb, .inl (cyI, 60, .inl (xA (uz fb fs b))))] := hW8
  rw [hW9] at hP hD
  exact W.vret hx hb hr (fun t_ ht_ hW_ => ⟨⟨(), rfl, trivial, by rw [ht_]; exact hP, va_K.moved hW_.alike hK, hD⟩, hS.F ht_⟩) hS.2.2 dX1_add_27
set_option maxHeartbeats 1000000 in
set_option maxRecDepth 100000 in
theorem c_X1_isFigure (l : Launch) (D : va_G) (cyI cyJ cyO : ClassId) (qF : Nat) (qFb : Nat) (qFl : Nat) (qFa : Nat) (fs : Int) (fp : Int) (fq : Int) (fb : Int → Int) (h_fs : 0 ≤ fs ∧ fs ≤ 60) (h_fb : ∀ j, 0 ≤ fb j ∧ fb j ≤ 255) (h_fq : 0 ≤ fq ∧ fq ≤ 60) : Met l yX1_isFigure wsX1_isFigure ({ frames := 0, cells := 0, slots := 0, locals := 0 }) (va_Pc [.ref qF] (xR D vwCl [(qF, .inr (1, [.ref qFb, .ref qFl, .ref qFa, .int (iI (fs)), .int (iI (fp)), .int (iI (fq))])), (qFb, .inl (cyI, 60, .inl (xA (fb))))] (xT cyI cyJ cyO))) (xq (some (.int (iI (b2 (isFg fb fs fq)))))) 0 0 (fun _ => False) := by
  refine Met.ofW (cc := cX1_isFigure) (maxL := 1) (ret := (some .boolean)) (by decide) rfl ?_
  intro p e s m args below meth c s₁ B hml hv
  obtain ⟨rfl, hP, hK⟩ := hv
  have hx := B.exec
  have hb := B.bytes
  have hr := B.returns
  have hts := atoms_spec (ws := wsX1_isFigure) B.pre
  have hown : s.vm.findClass RX1 = some m.cls := findClass_of_methodNamed B.named
  have hlocks := B.notSynchronized
  have hcX1 : ∀ w ∈ wsX10, w ∈ wsX1_isFigure := fun _ h => List.mem_cons_of_mem _ (List.mem_append_right _ h)
  have hP : va_P D vwCl [(qF, .inr (1, [.ref qFb, .ref qFl, .ref qFa, .int (iI (fs)), .int (iI (fp)), .int (iI (fq))])), (qFb, .inl (cyI, 60, .inl (xA (fb))))] s.heap := hP
  have hl := lv_entry ([.ref qF]) (n := 1) (Nat.le_of_ble_eq_true rfl)
  rw [lg_entry_eq]
  generalize (lg_sl ([.ref qF]) ++ List.replicate (1 - (lg_sl ([.ref qF])).length) Slot.unset).toArray = ls at hl ⊢
  have hl : lv_has ls 1 [(0, .ref qF)] := hl
  refine lv_aload_n hx hb dX1_isFigure_0 rfl (lv_at hl 0 rfl) ?_
  refine va_get (D := D) (ci := 1) (C := RX1) (T := TX1) (N := 6) hx hb hts hcX1 hown hK hP 0 rfl rfl 5 (by decide) (hts (.fieldLink RX1 28 "WallMarks$Flows" "place" "I") (List.mem_of_getElem? (i := 1) (by decide +kernel))) (fun _ h9 => h9) rfl dX1_isFigure_1 ?_
  refine lv_aload_n hx hb dX1_isFigure_4 rfl (lv_at hl 0 rfl) ?_
  refine va_get (D := D) (ci := 1) (C := RX1) (T := TX1) (N := 6) hx hb hts hcX1 hown hK hP 0 rfl rfl 3 (by decide) (hts (.fieldLink RX1 21 "WallMarks$Flows" "size" "I") (List.mem_of_getElem? (i := 2) (by decide +kernel))) (fun _ h9 => h9) rfl dX1_isFigure_5 ?_
  refine xb_icmp_ge (tgt := 43) hx hb dX1_isFigure_8 (by decide) (by omega) (fun h_1 => ?_) (fun h_1 => ?_)
  · refine xi_const hx hb dX1_isFigure_43 ?_
    exact W.zret (v := iI (0)) hx hb hr (by decide +kernel) (fun t_ ht_ _ => ⟨congrArg (fun z => Outcome.returned (some (Value.int (iI z)))) (show (0 : Int) = b2 (isFg fb fs fq) from (b2_f (by unfold isFg; omega)).symm), ht_⟩) (fun _ h9 => absurd h9 List.not_mem_nil) dX1_isFigure_44
  · refine lv_aload_n hx hb dX1_isFigure_11 rfl (lv_at hl 0 rfl) ?_
    refine va_get (D := D) (ci := 1) (C := RX1) (T := TX1) (N := 6) hx hb hts hcX1 hown hK hP 0 rfl rfl 0 (by decide) (hts (.fieldLink RX1 9 "WallMarks$Flows" "bytes" "[I") (List.mem_of_getElem? (i := 3) (by decide +kernel))) (fun _ h9 => h9) rfl dX1_isFigure_12 ?_
    refine lv_aload_n hx hb dX1_isFigure_15 rfl (lv_at hl 0 rfl) ?_
    refine va_get (D := D) (ci := 1) (C := RX1) (T := TX1) (N := 6) hx hb hts hcX1 hown hK hP 0 rfl rfl 5 (by decide) (hts (.fieldLink RX1 28 "WallMarks$Flows" "place" "I") (List.mem_of_getElem? (i := 1) (by decide +kernel))) (fun _ h9 => h9) rfl dX1_isFigure_16 ?_
    refine xi_ald (D := D) hx hb hK hP 1 0 rfl rfl (by decide) (by omega) dX1_isFigure_19 ?_
    have hr_2 := h_fb (fq)
    refine xi_bipush hx hb dX1_isFigure_20 (by decide +kernel) ?_
    refine xb_icmp_lt (tgt := 43) hx hb dX1_isFigure_22 (by decide) (by omega) (fun h_3 => ?_) (fun h_3 => ?_)
    · refine xi_const hx hb dX1_isFigure_43 ?_
      exact W.zret (v := iI (0)) hx hb hr (by decide +kernel) (fun t_ ht_ _ => ⟨congrArg (fun z => Outcome.returned (some (Value.int (iI z)))) (show (0 : Int) = b2 (isFg fb fs fq) from (b2_f (by unfold isFg; omega)).symm), ht_⟩) (fun _ h9 => absurd h9 List.not_mem_nil) dX1_isFigure_44
    · refine lv_aload_n hx hb dX1_isFigure_25 rfl (lv_at hl 0 rfl) ?_
      refine va_get (D := D) (ci := 1) (C := RX1) (T := TX1) (N := 6) hx hb hts hcX1 hown hK hP 0 rfl rfl 0 (by decide) (hts (.fieldLink RX1 9 "WallMarks$Flows" "bytes" "[I") (List.mem_of_getElem? (i := 3) (by decide +kernel))) (fun _ h9 => h9) rfl dX1_isFigure_26 ?_
      refine lv_aload_n hx hb dX1_isFigure_29 rfl (lv_at hl 0 rfl) ?_
      refine va_get (D := D) (ci := 1) (C := RX1) (T := TX1) (N := 6) hx hb hts hcX1 hown hK hP 0 rfl rfl 5 (by decide) (hts (.fieldLink RX1 28 "WallMarks$Flows" "place" "I") (List.mem_of_getElem? (i := 1) (by decide +kernel))) (fun _ h9 => h9) rfl dX1_isFigure_30 ?_
      refine xi_ald (D := D) hx hb hK hP 1 0 rfl rfl (by decide) (by omega) dX1_isFigure_33 ?_
      have hr_4 := h_fb (fq)
      refine xi_bipush hx hb dX1_isFigure_34 (by decide +kernel) ?_
      refine xb_icmp_gt (tgt := 43) hx hb dX1_isFigure_36 (by decide) (by omega) (fun h_5 => ?_) (fun h_5 => ?_)
      · refine xi_const hx hb dX1_isFigure_43 ?_
        exact W.zret (v := iI (0)) hx hb hr (by decide +kernel) (fun t_ ht_ _ => ⟨congrArg (fun z => Outcome.returned (some (Value.int (iI z)))) (show (0 : Int) = b2 (isFg fb fs fq) from (b2_f (by unfold isFg; omega)).symm), ht_⟩) (fun _ h9 => absurd h9 List.not_mem_nil) dX1_isFigure_44
      · refine xi_const hx hb dX1_isFigure_39 ?_
        refine lv_goto (tgt := 44) hx hb dX1_isFigure_40 (by decide) ?_
        exact W.zret (v := iI (1)) hx hb hr (by decide +kernel) (fun t_ ht_ _ => ⟨congrArg (fun z => Outcome.returned (some (Value.int (iI z)))) (show (1 : Int) = b2 (isFg fb fs fq) from (b2_t (by unfold isFg; omega)).symm), ht_⟩) (fun _ h9 => absurd h9 List.not_mem_nil) dX1_isFigure_44
