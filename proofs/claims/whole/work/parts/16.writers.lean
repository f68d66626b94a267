def xQ (g : Int → Option Nat) : Nat → Option Nat := fun j => g (j : Int)
/-! rows of references; a stretch of a row written over -/
section XQ
variable {p : Program} {l : Launch} {e : Env} {R : Room} {s : State} {m : MethodId} {args : Array Value} {below : List Frame} {meth : Method} {c : Code} {H : Heap} {locs : List Loc} {cells slots : Nat} {Q : State → Prop}
variable {pc : Nat} {ls : Array Slot} {rest : List Value} {cc : ByteArray} {a b : Int}
theorem xq_ald (hx : p.tables.exec = Jvm.exec) (hb : c.code = cc) {D : va_G} {cl : List vw_C} {tys : List (ClassId × FieldType)} {ws : va_W} {aa qv : Nat} (hK : va_K D cl tys s) (hP : va_P D cl ws H) (q0 t0 : Nat) {cA : ClassId} {C : String} {n : Nat} {g : Int → Option Nat} (ha : ws[q0]? = some (aa, .inl (cA, n, .inr (.inr (.inr (.inr (xQ g))))))) (ht : tys[t0]? = some (cA, .object C)) (hn : n < 2147483648) (hin : 0 ≤ a ∧ a < n) (hg : g a = some qv) (hdg : decode cc pc = .ok (.aaload, 1))
    (kk : W p l e R s m args below meth c H locs cells slots Q (F0 m (pc + 1) ls (.ref qv :: rest))) : W p l e R s m args below meth c H locs cells slots Q (F0 m pc ls (.int (iI a) :: .ref aa :: rest)) := va_aldq hx hb hK hP q0 t0 ha ht (xin hin hn) hdg (by
  unfold xQ
  rw [iI_cl (by omega), Int.toNat_of_nonneg hin.1, hg]; exact kk)
end XQ
def rgU (g : Int → Int) (a n : Int) (f : Int → Int) : Int → Int := fun j => if a ≤ j ∧ j < a + n then f (j - a) else g j
theorem rgU_0 (g : Int → Int) (a : Int) (f : Int → Int) : rgU g a 0 f = g := by funext j; unfold rgU; rw [if_neg (by omega)]
theorem rgU_s {g : Int → Int} {a n : Int} {f : Int → Int} (hn : 0 ≤ n) {k v : Int} (hk : k = a + n) (hv : v = f n) : uz (rgU g a n f) k v = rgU g a (n + 1) f := by
  funext j; unfold uz rgU
  by_cases h : j = k
  · rw [if_pos h, if_pos (by omega), hv, h, hk, show a + n - a = n from by omega]
  · rw [if_neg h]
    by_cases h2 : a ≤ j ∧ j < a + n
    · rw [if_pos h2, if_pos (by omega)]
    · rw [if_neg h2, if_neg (by omega)]
/-- how many items are read -/
def rdC (it : Int → Int) (z y tn i : Int) : Prop := i < z ∧ y + i < 60 ∧ tn + i < 120 ∧ 0 ≤ it i ∧ it i ≤ 999
noncomputable def rdN (it : Int → Int) (z y tn : Int) : Nat → Int → Int
  | 0, i => i
  | k + 1, i => @ite _ (rdC it z y tn i) (Classical.propDecidable _) (rdN it z y tn k (i + 1)) i
theorem rdN_t {it : Int → Int} {z y tn i : Int} (hi : 0 ≤ i ∧ i < 60) (h : rdC it z y tn i) : rdN it z y tn (60 - i).toNat i = rdN it z y tn (60 - (i + 1)).toNat (i + 1) := by
  rw [show (60 - i).toNat = (59 - i).toNat + 1 from by omega, show (60 - (i + 1)).toNat = (59 - i).toNat from by omega]; exact if_pos h
theorem rdN_f {it : Int → Int} {z y tn i : Int} (hi : 0 ≤ i ∧ i ≤ 60) (h : ¬ rdC it z y tn i) : rdN it z y tn (60 - i).toNat i = i := by
  by_cases q : i < 60
  · rw [show (60 - i).toNat = (59 - i).toNat + 1 from by omega]; exact if_neg h
  · rw [show (60 - i).toNat = 0 from by omega]; rfl
def fdF (sl sf z f i : Int) : Int := if sl ≠ 0 then 1 else if sf ≠ f then 3 else if 0 ≤ i ∧ i < z then 0 else 2
theorem fdF_in (sl sf z f i : Int) : 0 ≤ fdF sl sf z f i ∧ fdF sl sf z f i ≤ 3 := by
  unfold fdF; split
  · omega
  · split
    · omega
    · split <;> omega
def wrF (kk kl : Int → Int) (sf y : Int) (j : Int) : Int := nar sf (if kk (y + j) = 0 then kl (y + j) else -1)
theorem rgU_in {g : Int → Int} {a n lo hi : Int} {f : Int → Int} (h : ∀ j, lo ≤ g j ∧ g j ≤ hi) (hf : ∀ j, 0 ≤ j → j < n → lo ≤ f j ∧ f j ≤ hi) : ∀ j, lo ≤ rgU g a n f j ∧ rgU g a n f j ≤ hi := by
  intro j; unfold rgU; split
  · exact hf _ (by omega) (by omega)
  · exact h j
theorem nar_in {f v : Int} (h : -2147483648 ≤ v ∧ v ≤ 2147483647) : -2147483648 ≤ nar f v ∧ nar f v ≤ 2147483647 := by
  unfold nar
  have h1 := sxB_in v; have h2 := sxS_in v
  split
  · omega
  · split <;> omega
theorem tv_s {tk tl : Int → Int} (h : ∀ j, tk j ≠ 2 → 0 ≤ tl j ∧ tl j ≤ 999) {n k v : Int} (hv : k ≠ 2 → 0 ≤ v ∧ v ≤ 999) : ∀ j, uz tk n k j ≠ 2 → 0 ≤ uz tl n v j ∧ uz tl n v j ≤ 999 := by
  intro j; unfold uz
  by_cases q : j = n
  · rw [if_pos q, if_pos q]; exact hv
  · rw [if_neg q, if_neg q]; exact h j
theorem tv_r {tk tl : Int → Int} (h : ∀ j, tk j ≠ 2 → 0 ≤ tl j ∧ tl j ≤ 999) {a n : Int} {f1 f2 : Int → Int} (hv : ∀ j, 0 ≤ j → j < n → 0 ≤ f2 j ∧ f2 j ≤ 999) : ∀ j, rgU tk a n f1 j ≠ 2 → 0 ≤ rgU tl a n f2 j ∧ rgU tl a n f2 j ≤ 999 := by
  intro j; unfold rgU
  by_cases q : a ≤ j ∧ j < a + n
  · rw [if_pos q, if_pos q]; intro _; exact hv _ (by omega) (by omega)
  · rw [if_neg q, if_neg q]; exact h j
theorem liA_in2 {fl fa : Int → Int} {k x : Int} (h1 : ∀ j, 0 ≤ fl j ∧ fl j ≤ 999) (h2 : ∀ j, 0 ≤ fa j ∧ fa j ≤ 999) (hx : 0 ≤ x ∧ x ≤ 999) : 0 ≤ liA fl fa k x ∧ liA fl fa k x ≤ 1996002 := by
  have := liA_in (k := k) h1 h2 hx
  unfold liA zmax; split <;> omega
theorem liB_in {n : Int} {fl fa : Int → Int} {k : Int} (h : flI n fl fa) (hk : 0 ≤ k) (hn : k + 1 < n) : 0 < liB fl k ∧ liB fl k ≤ 999 := by
  have h1 := h (k + 1) (by omega) hn
  have h2 := h k hk (by omega)
  have h3 := (h1.2.2 (by omega)).1
  rw [show k + 1 - 1 = k from by omega] at h3
  unfold liB; omega
theorem fdF_0 {sl sf z f i : Int} (h : fdF sl sf z f i = 0) : 0 ≤ i ∧ i < z := by
  unfold fdF at h
  by_cases a : sl ≠ 0
  · rw [if_pos a] at h; omega
  · rw [if_neg a] at h
    by_cases b : sf ≠ f
    · rw [if_pos b] at h; omega
    · rw [if_neg b] at h
      by_cases c : 0 ≤ i ∧ i < z
      · exact c
      · rw [if_neg c] at h; omega
set_option maxHeartbeats 1000000 in
set_option maxRecDepth 100000 in
theorem c_X6_isTimeToTell (l : Launch) (D : va_G) (cyI cyJ cyO : ClassId) (qW : Nat) (qT : Nat) (qA : Nat) (qK : Nat) (qC : Nat) (qE : Nat) (qI : Nat) (qF : Nat) (qH : Nat) (qO : Nat) (fi : Int) (qTy : Nat) (qTk : Nat) (qTl : Nat) (qTt : Nat) (tn : Int) (tm : Int) (t9 : Int) (h_tm : 0 ≤ tm ∧ tm ≤ 999) (h_t9 : -2147483648 ≤ t9 ∧ t9 ≤ 2147483647) : Met l yX6_isTimeToTell wsX6_isTimeToTell ({ frames := 0, cells := 0, slots := 0, locals := 0 }) (va_Pc [.ref qW, .int (iI (t9))] (xR D vwCl [(qW, .inr (6, [.ref qT, .ref qA, .ref qK, .ref qC, .ref qE, .ref qI, .ref qF, .ref qH, .ref qO, .int (iI (fi))])), (qT, .inr (4, [.ref qTy, .ref qTk, .ref qTl, .ref qTt, .int (iI (tn)), .int (iI (tm))]))] (xT cyI cyJ cyO))) (xq (some (.int (iI (b2 (tm ≤ t9 ∧ t9 ≤ 999)))))) 0 0 (fun _ => False) := by
  refine Met.ofW (cc := cX6_isTimeToTell) (maxL := 2) (ret := (some .boolean)) (by decide) rfl ?_
  intro p e s m args below meth c s₁ B hml hv
  obtain ⟨rfl, hP, hK⟩ := hv
  have hx := B.exec
  have hb := B.bytes
  have hr := B.returns
  have hts := atoms_spec (ws := wsX6_isTimeToTell) B.pre
  have hown : s.vm.findClass RX6 = some m.cls := findClass_of_methodNamed B.named
  have hlocks := B.notSynchronized
  have hcX4 : ∀ w ∈ wsX40, w ∈ wsX6_isTimeToTell := fun _ h => List.mem_cons_of_mem _ (List.mem_append_right _ h)
  have hcX6 : ∀ w ∈ wsX60, w ∈ wsX6_isTimeToTell := fun _ h => List.mem_cons_of_mem _ (List.mem_append_left _ (List.mem_append_right _ h))
  have hP : va_P D vwCl [(qW, .inr (6, [.ref qT, .ref qA, .ref qK, .ref qC, .ref qE, .ref qI, .ref qF, .ref qH, .ref qO, .int (iI (fi))])), (qT, .inr (4, [.ref qTy, .ref qTk, .ref qTl, .ref qTt, .int (iI (tn)), .int (iI (tm))]))] s.heap := hP
  have hl := lv_entry ([.ref qW, .int (iI (t9))]) (n := 2) (Nat.le_of_ble_eq_true rfl)
  rw [lg_entry_eq]
  generalize (lg_sl ([.ref qW, .int (iI (t9))]) ++ List.replicate (2 - (lg_sl ([.ref qW, .int (iI (t9))])).length) Slot.unset).toArray = ls at hl ⊢
  have hl : lv_has ls 2 [(0, .ref qW), (1, .int (iI (t9)))] := hl
  refine lv_iload_n hx hb dX6_isTimeToTell_0 rfl (lv_at hl 1 rfl) ?_
  refine lv_aload_n hx hb dX6_isTimeToTell_1 rfl (lv_at hl 0 rfl) ?_
  refine va_get (D := D) (ci := 6) (C := RX6) (T := TX6) (N := 10) hx hb hts hcX6 hown hK hP 0 rfl rfl 0 (by decide) (hts (.fieldLink RX6 10 "WallMarks" "tellings" "LWallMarks$Tellings;") (List.mem_of_getElem? (i := 1) (by decide +kernel))) (fun _ h9 => h9) rfl dX6_isTimeToTell_2 ?_
  refine va_get (D := D) (ci := 4) (C := RX4) (T := TX4) (N := 6) hx hb hts hcX4 hown hK hP 1 rfl rfl 5 (by decide) (hts (.fieldLink RX6 365 "WallMarks$Tellings" "lastTime" "I") (List.mem_of_getElem? (i := 2) (by decide +kernel))) (fun _ h9 => h9) rfl dX6_isTimeToTell_5 ?_
  refine xb_icmp_lt (tgt := 22) hx hb dX6_isTimeToTell_8 (by decide) (by omega) (fun h_1 => ?_) (fun h_1 => ?_)
  · refine xi_const hx hb dX6_isTimeToTell_22 ?_
    exact W.zret (v := iI (0)) hx hb hr (by decide +kernel) (fun t_ ht_ _ => ⟨congrArg (fun z => Outcome.returned (some (Value.int (iI z)))) (show (0 : Int) = b2 (tm ≤ t9 ∧ t9 ≤ 999) from (b2_f (by first | assumption | omega | (constructor <;> first | assumption | omega))).symm), ht_⟩) (fun _ h9 => absurd h9 List.not_mem_nil) dX6_isTimeToTell_23
  · refine lv_iload_n hx hb dX6_isTimeToTell_11 rfl (lv_at hl 1 rfl) ?_
    refine xi_sipush hx hb dX6_isTimeToTell_12 (by decide +kernel) ?_
    refine xb_icmp_gt (tgt := 22) hx hb dX6_isTimeToTell_15 (by decide) (by omega) (fun h_2 => ?_) (fun h_2 => ?_)
    · refine xi_const hx hb dX6_isTimeToTell_22 ?_
      exact W.zret (v := iI (0)) hx hb hr (by decide +kernel) (fun t_ ht_ _ => ⟨congrArg (fun z => Outcome.returned (some (Value.int (iI z)))) (show (0 : Int) = b2 (tm ≤ t9 ∧ t9 ≤ 999) from (b2_f (by first | assumption | omega | (constructor <;> first | assumption | omega))).symm), ht_⟩) (fun _ h9 => absurd h9 List.not_mem_nil) dX6_isTimeToTell_23
    · refine xi_const hx hb dX6_isTimeToTell_18 ?_
      refine lv_goto (tgt := 23) hx hb dX6_isTimeToTell_19 (by decide) ?_
      exact W.zret (v := iI (1)) hx hb hr (by decide +kernel) (fun t_ ht_ _ => ⟨congrArg (fun z => Outcome.returned (some (Value.int (iI z)))) (show (1 : Int) = b2 (tm ≤ t9 ∧ t9 ≤ 999) from (b2_t (by first | assumption | omega | (constructor <;> first | assumption | omega))).symm), ht_⟩) (fun _ h9 => absurd h9 List.not_mem_nil) dX6_isTimeToTell_23
set_option maxHeartbeats 1000000 in
set_option maxRecDepth 100000 in
theorem c_X6_found (l : Launch) (D : va_G) (cyI cyJ cyO : ClassId) (qW : Nat) (qT : Nat) (qA : Nat) (qK : Nat) (qC : Nat) (qE : Nat) (qI : Nat) (qF : Nat) (qH : Nat) (qO : Nat) (fi : Int) (sz : Nat) (n : Int) (h_n : -2147483648 ≤ n ∧ n ≤ 2147483647) : Met l yX6_found wsX6_found ({ frames := 0, cells := 0, slots := 0, locals := 0 }) (va_Pc [.ref qW, .int (iI (n))] (xM D vwCl [(qW, .inr (6, [.ref qT, .ref qA, .ref qK, .ref qC, .ref qE, .ref qI, .ref qF, .ref qH, .ref qO, .int (iI (fi))]))] (xT cyI cyJ cyO) sz)) (va_Qi (fun (r : Int32) (u : Unit) => r = iI (-10 - n) ∧ True) (xB D vwCl (xT cyI cyJ cyO) (va_A [(qW, .inr (6, [.ref qT, .ref qA, .ref qK, .ref qC, .ref qE, .ref qI, .ref qF, .ref qH, .ref qO, .int (iI (fi))]))] sz) (fun u : Unit => [(qW, .inr (6, [.ref qT, .ref qA, .ref qK, .ref qC, .ref qE, .ref qI, .ref qF, .ref qH, .ref qO, .int (iI (n))]))])) (va_A [(qW, .inr (6, [.ref qT, .ref qA, .ref qK, .ref qC, .ref qE, .ref qI, .ref qF, .ref qH, .ref qO, .int (iI (fi))]))] sz)) 0 0 (va_A [(qW, .inr (6, [.ref qT, .ref qA, .ref qK, .ref qC, .ref qE, .ref qI, .ref qF, .ref qH, .ref qO, .int (iI (fi))]))] sz) := by
  refine Met.ofW (cc := cX6_found) (maxL := 2) (ret := (some .int)) (by decide) rfl ?_
  intro p e s m args below meth c s₁ B hml hv
  obtain ⟨rfl, hsz, hP, hK, hD0⟩ := hv
  have hx := B.exec
  have hb := B.bytes
  have hr := B.returns
  have hts := atoms_spec (ws := wsX6_found) B.pre
  have hown : s.vm.findClass RX6 = some m.cls := findClass_of_methodNamed B.named
  have hlocks := B.notSynchronized
  have hcX6 : ∀ w ∈ wsX60, w ∈ wsX6_found := fun _ h => List.mem_cons_of_mem _ (List.mem_append_right _ h)
  subst hsz
  have hD := hD0.self (sz := s.heap.size)
  generalize hAe : va_A [(qW, .inr (6, [.ref qT, .ref qA, .ref qK, .ref qC, .ref qE, .ref qI, .ref qF, .ref qH, .ref qO, .int (iI (fi))]))] s.heap.size = A at hD ⊢
  have hA : ∀ q : Nat, s.heap.size ≤ q → A q := fun q h => by rw [← hAe]; exact Or.inr h
  have hS : va_S A s.heap s.heap [] := va_S.rf
  have hP : va_P D vwCl [(qW, .inr (6, [.ref qT, .ref qA, .ref qK, .ref qC, .ref qE, .ref qI, .ref qF, .ref qH, .ref qO, .int (iI (fi))]))] s.heap := hP
  have hl := lv_entry ([.ref qW, .int (iI (n))]) (n := 2) (Nat.le_of_ble_eq_true rfl)
  rw [lg_entry_eq]
  generalize (lg_sl ([.ref qW, .int (iI (n))]) ++ List.replicate (2 - (lg_sl ([.ref qW, .int (iI (n))])).length) Slot.unset).toArray = ls at hl ⊢
  have hl : lv_has ls 2 [(0, .ref qW), (1, .int (iI (n)))] := hl
  refine lv_aload_n hx hb dX6_found_0 rfl (lv_at hl 0 rfl) ?_
  refine lv_iload_n hx hb dX6_found_1 rfl (lv_at hl 1 rfl) ?_
  refine va_put (D := D) (ci := 6) (v := .int (iI (n))) (ty := .int) (C := RX6) (T := TX6) (N := 10) hx hb hts hcX6 tyX6 tyX6_ok nmX6 hown hK hP hD hS 0 rfl rfl 9 (by decide) (hts (.fieldLink RX6 76 "WallMarks" "finding" "I") (List.mem_of_getElem? (i := 1) (by decide +kernel))) (fun _ h9 => h9) rfl (by decide +kernel) rfl rfl (Nat.le_of_ble_eq_true rfl) dX6_found_2 (fun H locs hP hD hS => ?_)
  have hP : va_P D vwCl [(qW, .inr (6, [.ref qT, .ref qA, .ref qK, .ref qC, .ref qE, .ref qI, .ref qF, .ref qH, .ref qO, .int (iI (n))]))] H := hP
  have hD : va_D A [(qW, .inr (6, [.ref qT, .ref qA, .ref qK, .ref qC, .ref qE, .ref qI, .ref qF, .ref qH, .ref qO, .int (iI (n))]))] := hD
  refine xi_bipush hx hb dX6_found_5 (by decide +kernel) ?_
  refine lv_iload_n hx hb dX6_found_7 rfl (lv_at hl 1 rfl) ?_
  refine xi_sub hx hb dX6_found_8 ?_
  exact W.iret (v := iI ((-10) - n)) hx hb hr (fun t_ ht_ hW_ => ⟨⟨_, (), rfl, ⟨(congrArg iI (show ((-10) - n) = (-10 - n) from by first | rfl | omega)), trivial⟩, by rw [ht_]; exact hP, va_K.moved hW_.alike hK, hD⟩, hS.F ht_⟩) hS.2.2 dX6_found_9
set_option maxHeartbeats 1000000 in
set_option maxRecDepth 100000 in
theorem c_X6_tell_vB (l : Launch) (D : va_G) (cyI cyJ cyO : ClassId) (qW : Nat) (qT : Nat) (qA : Nat) (qK : Nat) (qC : Nat) (qE : Nat) (qI : Nat) (qF : Nat) (qH : Nat) (qO : Nat) (fi : Int) (qTy : Nat) (qTk : Nat) (qTl : Nat) (qTt : Nat) (tn : Int) (tm : Int) (y : Int) (k : Int) (v : Int) (t9 : Int) (h_tm : 0 ≤ tm ∧ tm ≤ 999) (h_y : -2147483648 ≤ y ∧ y ≤ 2147483647) (h_k : -2147483648 ≤ k ∧ k ≤ 2147483647) (h_v : -2147483648 ≤ v ∧ v ≤ 2147483647) (h_t9 : -2147483648 ≤ t9 ∧ t9 ≤ 2147483647) (h_ok : ¬ ((0 ≤ y ∧ y < 60) ∧ ((k = 0 ∧ 0 ≤ v ∧ v ≤ 999) ∨ (k = 1 ∧ 0 < v ∧ v ≤ 999) ∨ k = 2) ∧ (tm ≤ t9 ∧ t9 ≤ 999))) : Met l yX6_tell wsX6_tell ({ frames := 2, cells := 0, slots := 0, locals := 41 }) (va_Pc [.ref qW, .int (iI (y)), .int (iI (k)), .int (iI (v)), .int (iI (t9))] (xR D vwCl [(qW, .inr (6, [.ref qT, .ref qA, .ref qK, .ref qC, .ref qE, .ref qI, .ref qF, .ref qH, .ref qO, .int (iI (fi))])), (qT, .inr (4, [.ref qTy, .ref qTk, .ref qTl, .ref qTt, .int (iI (tn)), .int (iI (tm))]))] (xT cyI cyJ cyO))) (xq (some (.int (iI (-2))))) 0 0 (fun _ => False) := by
  refine Met.ofW (cc := cX6_tell) (maxL := 5) (ret := (some .int)) (by decide) rfl ?_
  intro p e s m args below meth c s₁ B hml hv
  obtain ⟨rfl, hP, hK⟩ := hv
  have hx := B.exec
  have hb := B.bytes
  have hr := B.returns
  have hts := atoms_spec (ws := wsX6_tell) B.pre
  have hown : s.vm.findClass RX6 = some m.cls := findClass_of_methodNamed B.named
  have hlocks := B.notSynchronized
  have hP : va_P D vwCl [(qW, .inr (6, [.ref qT, .ref qA, .ref qK, .ref qC, .ref qE, .ref qI, .ref qF, .ref qH, .ref qO, .int (iI (fi))])), (qT, .inr (4, [.ref qTy, .ref qTk, .ref qTl, .ref qTt, .int (iI (tn)), .int (iI (tm))]))] s.heap := hP
  have hl := lv_entry ([.ref qW, .int (iI (y)), .int (iI (k)), .int (iI (v)), .int (iI (t9))]) (n := 5) (Nat.le_of_ble_eq_true rfl)
  rw [lg_entry_eq]
  generalize (lg_sl ([.ref qW, .int (iI (y)), .int (iI (k)), .int (iI (v)), .int (iI (t9))]) ++ List.replicate (5 - (lg_sl ([.ref qW, .int (iI (y)), .int (iI (k)), .int (iI (v)), .int (iI (t9))])).length) Slot.unset).toArray = ls at hl ⊢
  have hl : lv_has ls 5 [(0, .ref qW), (1, .int (iI (y))), (2, .int (iI (k))), (3, .int (iI (v))), (4, .int (iI (t9)))] := hl
  refine lv_iload_n hx hb dX6_tell_0 rfl (lv_at hl 1 rfl) ?_
  have hPc := hP.sub (ws' := []) [] rfl
  refine xc_i (va_runS (As := [.int (iI (y))]) (rest := []) ⟨hx, hb, hml, hown, hts⟩ (c_X6_isYear l D cyI cyJ cyO y (by first | exact h_y | assumption | omega)) (va_cwS 1 hts gX6_tell_X6_isYear rfl rfl rfl (by decide +kernel) ⟨Nat.le_of_ble_eq_true rfl, Nat.le_of_ble_eq_true rfl⟩) (xpS hPc hK) rfl rfl hl.1 rfl (lv_room (Nat.le_of_ble_eq_true rfl)) dX6_tell_1 ⟨Nat.le_of_ble_eq_true rfl, Nat.le_of_ble_eq_true rfl⟩) ?_
  refine xb_if_eqB (tgt := 24) hx hb dX6_tell_4 (by decide) (fun h_1 => ?_) (fun h_1 => ?_)
  · refine xi_bipush hx hb dX6_tell_24 (by decide +kernel) ?_
    exact W.iret (v := iI (-2)) hx hb hr (fun t_ ht_ _ => ⟨congrArg (fun z => Outcome.returned (some (Value.int (iI z)))) rfl, ht_⟩) (fun _ h9 => absurd h9 List.not_mem_nil) dX6_tell_26
  · refine lv_iload_n hx hb dX6_tell_7 rfl (lv_at hl 2 rfl) ?_
    refine lv_iload_n hx hb dX6_tell_8 rfl (lv_at hl 3 rfl) ?_
    have hPc := hP.sub (ws' := []) [] rfl
    refine xc_i (va_runS (As := [.int (iI (k)), .int (iI (v))]) (rest := []) ⟨hx, hb, hml, hown, hts⟩ (c_X6_mayBeTold l D cyI cyJ cyO k v (by first | exact h_k | assumption | omega) (by first | exact h_v | assumption | omega)) (va_cwS 2 hts gX6_tell_X6_mayBeTold rfl rfl rfl (by decide +kernel) ⟨Nat.le_of_ble_eq_true rfl, Nat.le_of_ble_eq_true rfl⟩) (xpS hPc hK) rfl rfl hl.1 rfl (lv_room (Nat.le_of_ble_eq_true rfl)) dX6_tell_9 ⟨Nat.le_of_ble_eq_true rfl, Nat.le_of_ble_eq_true rfl⟩) ?_
    refine xb_if_eqB (tgt := 24) hx hb dX6_tell_12 (by decide) (fun h_2 => ?_) (fun h_2 => ?_)
    · refine xi_bipush hx hb dX6_tell_24 (by decide +kernel) ?_
      exact W.iret (v := iI (-2)) hx hb hr (fun t_ ht_ _ => ⟨congrArg (fun z => Outcome.returned (some (Value.int (iI z)))) rfl, ht_⟩) (fun _ h9 => absurd h9 List.not_mem_nil) dX6_tell_26
    · refine lv_aload_n hx hb dX6_tell_15 rfl (lv_at hl 0 rfl) ?_
      refine lv_iload hx hb dX6_tell_16 (lv_at hl 4 rfl) ?_
      have hPc := hP.sub (ws' := [(qW, .inr (6, [.ref qT, .ref qA, .ref qK, .ref qC, .ref qE, .ref qI, .ref qF, .ref qH, .ref qO, .int (iI (fi))])), (qT, .inr (4, [.ref qTy, .ref qTk, .ref qTl, .ref qTt, .int (iI (tn)), .int (iI (tm))]))]) [0, 1] rfl
      refine xc_i (va_runV (As := [.int (iI (t9))]) (rest := []) ⟨hx, hb, hml, hown, hts⟩ (c_X6_isTimeToTell l D cyI cyJ cyO qW qT qA qK qC qE qI qF qH qO fi qTy qTk qTl qTt tn tm t9 (by first | exact h_tm | assumption | omega) (by first | exact h_t9 | assumption | omega)) (cwV 1 hts gX6_tell_X6_isTimeToTell rfl rfl rfl (by decide +kernel) ⟨Nat.le_of_ble_eq_true rfl, Nat.le_of_ble_eq_true rfl⟩) (xpV hPc hK (ci := 6) (q0 := 0) (q := (RX6, TX6, 10)) rfl rfl) rfl rfl hl.1 rfl (lv_room (Nat.le_of_ble_eq_true rfl)) dX6_tell_18 ⟨Nat.le_of_ble_eq_true rfl, Nat.le_of_ble_eq_true rfl⟩) ?_
      refine xb_if_neB (tgt := 27) hx hb dX6_tell_21 (by decide) (fun h_3 => by exfalso; omega) (fun h_3 => ?_)
      refine xi_bipush hx hb dX6_tell_24 (by decide +kernel) ?_
      exact W.iret (v := iI (-2)) hx hb hr (fun t_ ht_ _ => ⟨congrArg (fun z => Outcome.returned (some (Value.int (iI z)))) rfl, ht_⟩) (fun _ h9 => absurd h9 List.not_mem_nil) dX6_tell_26
set_option maxHeartbeats 1000000 in
set_option maxRecDepth 100000 in
theorem c_X6_tell_vF (l : Launch) (D : va_G) (cyI cyJ cyO : ClassId) (qW : Nat) (qT : Nat) (qA : Nat) (qK : Nat) (qC : Nat) (qE : Nat) (qI : Nat) (qF : Nat) (qH : Nat) (qO : Nat) (fi : Int) (qTy : Nat) (qTk : Nat) (qTl : Nat) (qTt : Nat) (tn : Int) (tm : Int) (y : Int) (k : Int) (v : Int) (t9 : Int) (h_tn : 0 ≤ tn ∧ tn ≤ 120) (h_tm : 0 ≤ tm ∧ tm ≤ 999) (h_y : -2147483648 ≤ y ∧ y ≤ 2147483647) (h_k : -2147483648 ≤ k ∧ k ≤ 2147483647) (h_v : -2147483648 ≤ v ∧ v ≤ 2147483647) (h_t9 : -2147483648 ≤ t9 ∧ t9 ≤ 2147483647) (h_ok : (0 ≤ y ∧ y < 60) ∧ ((k = 0 ∧ 0 ≤ v ∧ v ≤ 999) ∨ (k = 1 ∧ 0 < v ∧ v ≤ 999) ∨ k = 2) ∧ (tm ≤ t9 ∧ t9 ≤ 999)) (h_full : tn = 120) : Met l yX6_tell wsX6_tell ({ frames := 2, cells := 0, slots := 0, locals := 41 }) (va_Pc [.ref qW, .int (iI (y)), .int (iI (k)), .int (iI (v)), .int (iI (t9))] (xR D vwCl [(qW, .inr (6, [.ref qT, .ref qA, .ref qK, .ref qC, .ref qE, .ref qI, .ref qF, .ref qH, .ref qO, .int (iI (fi))])), (qT, .inr (4, [.ref qTy, .ref qTk, .ref qTl, .ref qTt, .int (iI (tn)), .int (iI (tm))]))] (xT cyI cyJ cyO))) (xq (some (.int (iI (-4))))) 0 0 (fun _ => False) := by
  refine Met.ofW (cc := cX6_tell) (maxL := 5) (ret := (some .int)) (by decide) rfl ?_
  intro p e s m args below meth c s₁ B hml hv
  obtain ⟨rfl, hP, hK⟩ := hv
  have hx := B.exec
  have hb := B.bytes
  have hr := B.returns
  have hts := atoms_spec (ws := wsX6_tell) B.pre
  have hown : s.vm.findClass RX6 = some m.cls := findClass_of_methodNamed B.named
  have hlocks := B.notSynchronized
  have hcX6 : ∀ w ∈ wsX60, w ∈ wsX6_tell := fun _ h => List.mem_cons_of_mem _ (List.mem_append_left _ (List.mem_append_left _ (List.mem_append_left _ (List.mem_append_left _ (List.mem_append_right _ h)))))
  have hP : va_P D vwCl [(qW, .inr (6, [.ref qT, .ref qA, .ref qK, .ref qC, .ref qE, .ref qI, .ref qF, .ref qH, .ref qO, .int (iI (fi))])), (qT, .inr (4, [.ref qTy, .ref qTk, .ref qTl, .ref qTt, .int (iI (tn)), .int (iI (tm))]))] s.heap := hP
  have hl := lv_entry ([.ref qW, .int (iI (y)), .int (iI (k)), .int (iI (v)), .int (iI (t9))]) (n := 5) (Nat.le_of_ble_eq_true rfl)
  rw [lg_entry_eq]
  generalize (lg_sl ([.ref qW, .int (iI (y)), .int (iI (k)), .int (iI (v)), .int (iI (t9))]) ++ List.replicate (5 - (lg_sl ([.ref qW, .int (iI (y)), .int (iI (k)), .int (iI (v)), .int (iI (t9))])).length) Slot.unset).toArray = ls at hl ⊢
  have hl : lv_has ls 5 [(0, .ref qW), (1, .int (iI (y))), (2, .int (iI (k))), (3, .int (iI (v))), (4, .int (iI (t9)))] := hl
  refine lv_iload_n hx hb dX6_tell_0 rfl (lv_at hl 1 rfl) ?_
  have hPc := hP.sub (ws' := []) [] rfl
  refine xc_i (va_runS (As := [.int (iI (y))]) (rest := []) ⟨hx, hb, hml, hown, hts⟩ (c_X6_isYear l D cyI cyJ cyO y (by first | exact h_y | assumption | omega)) (va_cwS 1 hts gX6_tell_X6_isYear rfl rfl rfl (by decide +kernel) ⟨Nat.le_of_ble_eq_true rfl, Nat.le_of_ble_eq_true rfl⟩) (xpS hPc hK) rfl rfl hl.1 rfl (lv_room (Nat.le_of_ble_eq_true rfl)) dX6_tell_1 ⟨Nat.le_of_ble_eq_true rfl, Nat.le_of_ble_eq_true rfl⟩) ?_
  refine xb_if_eqB (tgt := 24) hx hb dX6_tell_4 (by decide) (fun h_1 => by exfalso; omega) (fun h_1 => ?_)
  refine lv_iload_n hx hb dX6_tell_7 rfl (lv_at hl 2 rfl) ?_
  refine lv_iload_n hx hb dX6_tell_8 rfl (lv_at hl 3 rfl) ?_
  have hPc := hP.sub (ws' := []) [] rfl
  refine xc_i (va_runS (As := [.int (iI (k)), .int (iI (v))]) (rest := []) ⟨hx, hb, hml, hown, hts⟩ (c_X6_mayBeTold l D cyI cyJ cyO k v (by first | exact h_k | assumption | omega) (by first | exact h_v | assumption | omega)) (va_cwS 2 hts gX6_tell_X6_mayBeTold rfl rfl rfl (by decide +kernel) ⟨Nat.le_of_ble_eq_true rfl, Nat.le_of_ble_eq_true rfl⟩) (xpS hPc hK) rfl rfl hl.1 rfl (lv_room (Nat.le_of_ble_eq_true rfl)) dX6_tell_9 ⟨Nat.le_of_ble_eq_true rfl, Nat.le_of_ble_eq_true rfl⟩) ?_
  refine xb_if_eqB (tgt := 24) hx hb dX6_tell_12 (by decide) (fun h_2 => by exfalso; omega) (fun h_2 => ?_)
  refine lv_aload_n hx hb dX6_tell_15 rfl (lv_at hl 0 rfl) ?_
  refine lv_iload hx hb dX6_tell_16 (lv_at hl 4 rfl) ?_
  have hPc := hP.sub (ws' := [(qW, .inr (6, [.ref qT, .ref qA, .ref qK, .ref qC, .ref qE, .ref qI, .ref qF, .ref qH, .ref qO, .int (iI (fi))])), (qT, .inr (4, [.ref qTy, .ref qTk, .ref qTl, .ref qTt, .int (iI (tn)), .int (iI (tm))]))]) [0, 1] rfl
  refine xc_i (va_runV (As := [.int (iI (t9))]) (rest := []) ⟨hx, hb, hml, hown, hts⟩ (c_X6_isTimeToTell l D cyI cyJ cyO qW qT qA qK qC qE qI qF qH qO fi qTy qTk qTl qTt tn tm t9 (by first | exact h_tm | assumption | omega) (by first | exact h_t9 | assumption | omega)) (cwV 1 hts gX6_tell_X6_isTimeToTell rfl rfl rfl (by decide +kernel) ⟨Nat.le_of_ble_eq_true rfl, Nat.le_of_ble_eq_true rfl⟩) (xpV hPc hK (ci := 6) (q0 := 0) (q := (RX6, TX6, 10)) rfl rfl) rfl rfl hl.1 rfl (lv_room (Nat.le_of_ble_eq_true rfl)) dX6_tell_18 ⟨Nat.le_of_ble_eq_true rfl, Nat.le_of_ble_eq_true rfl⟩) ?_
  refine xb_if_neB (tgt := 27) hx hb dX6_tell_21 (by decide) (fun h_3 => ?_) (fun h_3 => by exfalso; omega)
  refine lv_aload_n hx hb dX6_tell_27 rfl (lv_at hl 0 rfl) ?_
  refine va_get (D := D) (ci := 6) (C := RX6) (T := TX6) (N := 10) hx hb hts hcX6 hown hK hP 0 rfl rfl 0 (by decide) (hts (.fieldLink RX6 10 "WallMarks" "tellings" "LWallMarks$Tellings;") (List.mem_of_getElem? (i := 1) (by decide +kernel))) (fun _ h9 => h9) rfl dX6_tell_28 ?_
  have hPc := hP.sub (ws' := [(qT, .inr (4, [.ref qTy, .ref qTk, .ref qTl, .ref qTt, .int (iI (tn)), .int (iI (tm))]))]) [1] rfl
  refine xc_i (va_runV (As := []) (rest := []) ⟨hx, hb, hml, hown, hts⟩ (c_X4_hasRoom l D cyI cyJ cyO qT qTy qTk qTl qTt tn tm (by first | exact h_tn | assumption | omega)) (cwV 0 hts gX6_tell_X4_hasRoom rfl rfl rfl (by decide +kernel) ⟨Nat.le_of_ble_eq_true rfl, Nat.le_of_ble_eq_true rfl⟩) (xpV hPc hK (ci := 4) (q0 := 0) (q := (RX4, TX4, 6)) rfl rfl) rfl rfl hl.1 rfl (lv_room (Nat.le_of_ble_eq_true rfl)) dX6_tell_31 ⟨Nat.le_of_ble_eq_true rfl, Nat.le_of_ble_eq_true rfl⟩) ?_
  refine xb_if_neB (tgt := 40) hx hb dX6_tell_34 (by decide) (fun h_4 => by exfalso; omega) (fun h_4 => ?_)
  refine xi_bipush hx hb dX6_tell_37 (by decide +kernel) ?_
  exact W.iret (v := iI (-4)) hx hb hr (fun t_ ht_ _ => ⟨congrArg (fun z => Outcome.returned (some (Value.int (iI z)))) rfl, ht_⟩) (fun _ h9 => absurd h9 List.not_mem_nil) dX6_tell_39
set_option maxHeartbeats 1000000 in
set_option maxRecDepth 100000 in
theorem c_X6_tell_vK (l : Launch) (D : va_G) (cyI cyJ cyO : ClassId) (qW : Nat) (qT : Nat) (qA : Nat) (qK : Nat) (qC : Nat) (qE : Nat) (qI : Nat) (qF : Nat) (qH : Nat) (qO : Nat) (fi : Int) (qTy : Nat) (qTk : Nat) (qTl : Nat) (qTt : Nat) (tn : Int) (tm : Int) (ty : Int → Int) (tk : Int → Int) (tl : Int → Int) (tt : Int → Int) (se : Int → Int) (qKk : Nat) (qKl : Nat) (kk : Int → Int) (kl : Int → Int) (qAf : Nat) (qAt : Nat) (qAl : Nat) (wn : Int) (wf : Int → Int) (wt : Int → Int) (wl : Int → Int) (qCy : Nat) (qCl : Nat) (qCb : Nat) (ex : Int) (be : Int) (op : Int) (es : Int) (ge : Int) (rc : Int) (lr : Int) (lw : Int) (ey : Int → Int) (el : Int → Int) (bl : Int → Int) (sz : Nat) (y : Int) (k : Int) (v : Int) (t9 : Int) (h_tn : 0 ≤ tn ∧ tn ≤ 120) (h_ty : ∀ j, 0 ≤ ty j ∧ ty j ≤ 59) (h_tk : ∀ j, 0 ≤ tk j ∧ tk j ≤ 2) (h_tv : ∀ j, tk j ≠ 2 → 0 ≤ tl j ∧ tl j ≤ 999) (h_tl : ∀ j, -2147483648 ≤ tl j ∧ tl j ≤ 2147483647) (h_tt : ∀ j, 0 ≤ tt j ∧ tt j ≤ 999) (h_se : ∀ j, -2147483648 ≤ se j ∧ se j ≤ 2147483647) (h_wn : 0 ≤ wn ∧ wn ≤ 6) (h_wf : ∀ j, 0 ≤ wf j ∧ wf j ≤ 59) (h_wt : ∀ j, 0 ≤ wt j ∧ wt j ≤ 59) (h_wl : ∀ j, 0 ≤ wl j ∧ wl j ≤ 999) (h_ey : ∀ j, 0 ≤ ey j ∧ ey j ≤ 59) (h_el : ∀ j, 0 ≤ el j ∧ el j ≤ 999) (h_bl : ∀ j, 0 ≤ bl j ∧ bl j ≤ 999) (h_tm : 0 ≤ tm ∧ tm ≤ 999) (h_y : -2147483648 ≤ y ∧ y ≤ 2147483647) (h_k : -2147483648 ≤ k ∧ k ≤ 2147483647) (h_v : -2147483648 ≤ v ∧ v ≤ 2147483647) (h_t9 : -2147483648 ≤ t9 ∧ t9 ≤ 2147483647) (h_ok : (0 ≤ y ∧ y < 60) ∧ ((k = 0 ∧ 0 ≤ v ∧ v ≤ 999) ∨ (k = 1 ∧ 0 < v ∧ v ≤ 999) ∨ k = 2) ∧ (tm ≤ t9 ∧ t9 ≤ 999)) (h_full : tn < 120) : Met l yX6_tell wsX6_tell ({ frames := 5, cells := 0, slots := 0, locals := 115 }) (va_Pc [.ref qW, .int (iI (y)), .int (iI (k)), .int (iI (v)), .int (iI (t9))] (xMN D vwCl [(qW, .inr (6, [.ref qT, .ref qA, .ref qK, .ref qC, .ref qE, .ref qI, .ref qF, .ref qH, .ref qO, .int (iI (fi))])), (qT, .inr (4, [.ref qTy, .ref qTk, .ref qTl, .ref qTt, .int (iI (tn)), .int (iI (tm))])), (qTy, .inl (cyI, 120, .inl (xA (ty)))), (qTk, .inl (cyI, 120, .inl (xA (tk)))), (qTl, .inl (cyI, 120, .inl (xA (tl)))), (qTt, .inl (cyI, 120, .inl (xA (tt)))), (qE, .inl (cyI, 6, .inl (xA (se)))), (qK, .inr (2, [.ref qKk, .ref qKl])), (qKk, .inl (cyI, 60, .inl (xA (kk)))), (qKl, .inl (cyI, 60, .inl (xA (kl)))), (qA, .inr (5, [.ref qAf, .ref qAt, .ref qAl, .int (iI (wn))])), (qAf, .inl (cyI, 6, .inl (xA (wf)))), (qAt, .inl (cyI, 6, .inl (xA (wt)))), (qAl, .inl (cyI, 6, .inl (xA (wl)))), (qC, .inr (0, [.ref qCy, .ref qCl, .ref qCb, .int (iI (ex)), .int (iI (be)), .int (iI (op)), .int (iI (es)), .int (iI (ge)), .int (iI (rc)), .int (iI (lr)), .int (iI (lw))])), (qCy, .inl (cyI, 60, .inl (xA (ey)))), (qCl, .inl (cyI, 60, .inl (xA (el)))), (qCb, .inl (cyI, 60, .inl (xA (bl))))] (xT cyI cyJ cyO) sz nsK)) (va_Qi (fun (r : Int32) (u : (Int → Int) × (Int → Int) × (Int → Int)) => r = iI (tn + 1) ∧ (rowR (PX (KKf (uz ty tn y) (uz tk tn k) (uz tl tn v) (uz tt tn t9) (tn + 1) wf wt wl wn se) (se 1) (se 2) 0) (u.1) (u.2.1) (KLf (uz ty tn y) (uz tk tn k) (uz tl tn v) (uz tt tn t9) (tn + 1) wf wt wl wn se) 60) ∧ (rowB (PX (KKf (uz ty tn y) (uz tk tn k) (uz tl tn v) (uz tt tn t9) (tn + 1) wf wt wl wn se) (se 1) (se 2) 1) (u.2.2) (KLf (uz ty tn y) (uz tk tn k) (uz tl tn v) (uz tt tn t9) (tn + 1) wf wt wl wn se) 60) ∧ (∀ j, 0 ≤ (u.1) j ∧ (u.1) j ≤ 59) ∧ (∀ j, 0 ≤ (u.2.1) j ∧ (u.2.1) j ≤ 999) ∧ (∀ j, 0 ≤ (u.2.2) j ∧ (u.2.2) j ≤ 999)) (xB D vwCl (xT cyI cyJ cyO) (va_A [(qW, .inr (6, [.ref qT, .ref qA, .ref qK, .ref qC, .ref qE, .ref qI, .ref qF, .ref qH, .ref qO, .int (iI (fi))])), (qT, .inr (4, [.ref qTy, .ref qTk, .ref qTl, .ref qTt, .int (iI (tn)), .int (iI (tm))])), (qTy, .inl (cyI, 120, .inl (xA (ty)))), (qTk, .inl (cyI, 120, .inl (xA (tk)))), (qTl, .inl (cyI, 120, .inl (xA (tl)))), (qTt, .inl (cyI, 120, .inl (xA (tt)))), (qE, .inl (cyI, 6, .inl (xA (se)))), (qK, .inr (2, [.ref qKk, .ref qKl])), (qKk, .inl (cyI, 60, .inl (xA (kk)))), (qKl, .inl (cyI, 60, .inl (xA (kl)))), (qA, .inr (5, [.ref qAf, .ref qAt, .ref qAl, .int (iI (wn))])), (qAf, .inl (cyI, 6, .inl (xA (wf)))), (qAt, .inl (cyI, 6, .inl (xA (wt)))), (qAl, .inl (cyI, 6, .inl (xA (wl)))), (qC, .inr (0, [.ref qCy, .ref qCl, .ref qCb, .int (iI (ex)), .int (iI (be)), .int (iI (op)), .int (iI (es)), .int (iI (ge)), .int (iI (rc)), .int (iI (lr)), .int (iI (lw))])), (qCy, .inl (cyI, 60, .inl (xA (ey)))), (qCl, .inl (cyI, 60, .inl (xA (el)))), (qCb, .inl (cyI, 60, .inl (xA (bl))))] sz) (fun u : (Int → Int) × (Int → Int) × (Int → Int) => [(qW, .inr (6, [.ref qT, .ref qA, .ref qK, .ref qC, .ref qE, .ref qI, .ref qF, .ref qH, .ref qO, .int (iI (fi))])), (qT, .inr (4, [.ref qTy, .ref qTk, .ref qTl, .ref qTt, .int (iI (tn + 1)), .int (iI (t9))])), (qTy, .inl (cyI, 120, .inl (xA (uz ty tn y)))), (qTk, .inl (cyI, 120, .inl (xA (uz tk tn k)))), (qTl, .inl (cyI, 120, .inl (xA (uz tl tn v)))), (qTt, .inl (cyI, 120, .inl (xA (uz tt tn t9)))), (qE, .inl (cyI, 6, .inl (xA (se)))), (qK, .inr (2, [.ref qKk, .ref qKl])), (qKk, .inl (cyI, 60, .inl (xA ((KKf (uz ty tn y) (uz tk tn k) (uz tl tn v) (uz tt tn t9) (tn + 1) wf wt wl wn se))))), (qKl, .inl (cyI, 60, .inl (xA ((KLf (uz ty tn y) (uz tk tn k) (uz tl tn v) (uz tt tn t9) (tn + 1) wf wt wl wn se))))), (qA, .inr (5, [.ref qAf, .ref qAt, .ref qAl, .int (iI (wn))])), (qAf, .inl (cyI, 6, .inl (xA (wf)))), (qAt, .inl (cyI, 6, .inl (xA (wt)))), (qAl, .inl (cyI, 6, .inl (xA (wl)))), (qC, .inr (0, [.ref qCy, .ref qCl, .ref qCb, .int (iI (cntZ (PX (KKf (uz ty tn y) (uz tk tn k) (uz tl tn v) (uz tt tn t9) (tn + 1) wf wt wl wn se) (se 1) (se 2) 0) 60)), .int (iI (cntZ (PX (KKf (uz ty tn y) (uz tk tn k) (uz tl tn v) (uz tt tn t9) (tn + 1) wf wt wl wn se) (se 1) (se 2) 1) 60)), .int (iI (cntZ (PX (KKf (uz ty tn y) (uz tk tn k) (uz tl tn v) (uz tt tn t9) (tn + 1) wf wt wl wn se) (se 1) (se 2) 2) 60)), .int (iI (sumZ (exL (KKf (uz ty tn y) (uz tk tn k) (uz tl tn v) (uz tt tn t9) (tn + 1) wf wt wl wn se) (KLf (uz ty tn y) (uz tk tn k) (uz tl tn v) (uz tt tn t9) (tn + 1) wf wt wl wn se) (se 1) (se 2)) 60)), .int (iI ((recF (KKf (uz ty tn y) (uz tk tn k) (uz tl tn v) (uz tt tn t9) (tn + 1) wf wt wl wn se) (KLf (uz ty tn y) (uz tk tn k) (uz tl tn v) (uz tt tn t9) (tn + 1) wf wt wl wn se) (se 1) (se 2) 60).1)), .int (iI ((recF (KKf (uz ty tn y) (uz tk tn k) (uz tl tn v) (uz tt tn t9) (tn + 1) wf wt wl wn se) (KLf (uz ty tn y) (uz tk tn k) (uz tl tn v) (uz tt tn t9) (tn + 1) wf wt wl wn se) (se 1) (se 2) 60).2.1)), .int (iI ((recF (KKf (uz ty tn y) (uz tk tn k) (uz tl tn v) (uz tt tn t9) (tn + 1) wf wt wl wn se) (KLf (uz ty tn y) (uz tk tn k) (uz tl tn v) (uz tt tn t9) (tn + 1) wf wt wl wn se) (se 1) (se 2) 60).2.2.1)), .int (iI ((recF (KKf (uz ty tn y) (uz tk tn k) (uz tl tn v) (uz tt tn t9) (tn + 1) wf wt wl wn se) (KLf (uz ty tn y) (uz tk tn k) (uz tl tn v) (uz tt tn t9) (tn + 1) wf wt wl wn se) (se 1) (se 2) 60).2.2.2))])), (qCy, .inl (cyI, 60, .inl (xA ((u.1))))), (qCl, .inl (cyI, 60, .inl (xA ((u.2.1))))), (qCb, .inl (cyI, 60, .inl (xA ((u.2.2)))))])) (va_A [(qW, .inr (6, [.ref qT, .ref qA, .ref qK, .ref qC, .ref qE, .ref qI, .ref qF, .ref qH, .ref qO, .int (iI (fi))])), (qT, .inr (4, [.ref qTy, .ref qTk, .ref qTl, .ref qTt, .int (iI (tn)), .int (iI (tm))])), (qTy, .inl (cyI, 120, .inl (xA (ty)))), (qTk, .inl (cyI, 120, .inl (xA (tk)))), (qTl, .inl (cyI, 120, .inl (xA (tl)))), (qTt, .inl (cyI, 120, .inl (xA (tt)))), (qE, .inl (cyI, 6, .inl (xA (se)))), (qK, .inr (2, [.ref qKk, .ref qKl])), (qKk, .inl (cyI, 60, .inl (xA (kk)))), (qKl, .inl (cyI, 60, .inl (xA (kl)))), (qA, .inr (5, [.ref qAf, .ref qAt, .ref qAl, .int (iI (wn))])), (qAf, .inl (cyI, 6, .inl (xA (wf)))), (qAt, .inl (cyI, 6, .inl (xA (wt)))), (qAl, .inl (cyI, 6, .inl (xA (wl)))), (qC, .inr (0, [.ref qCy, .ref qCl, .ref qCb, .int (iI (ex)), .int (iI (be)), .int (iI (op)), .int (iI (es)), .int (iI (ge)), .int (iI (rc)), .int (iI (lr)), .int (iI (lw))])), (qCy, .inl (cyI, 60, .inl (xA (ey)))), (qCl, .inl (cyI, 60, .inl (xA (el)))), (qCb, .inl (cyI, 60, .inl (xA (bl))))] sz)) 0 0 (va_A [(qW, .inr (6, [.ref qT, .ref qA, .ref qK, .ref qC, .ref qE, .ref qI, .ref qF, .ref qH, .ref qO, .int (iI (fi))])), (qT, .inr (4, [.ref qTy, .ref qTk, .ref qTl, .ref qTt, .int (iI (tn)), .int (iI (tm))])), (qTy, .inl (cyI, 120, .inl (xA (ty)))), (qTk, .inl (cyI, 120, .inl (xA (tk)))), (qTl, .inl (cyI, 120, .inl (xA (tl)))), (qTt, .inl (cyI, 120, .inl (xA (tt)))), (qE, .inl (cyI, 6, .inl (xA (se)))), (qK, .inr (2, [.ref qKk, .ref qKl])), (qKk, .inl (cyI, 60, .inl (xA (kk)))), (qKl, .inl (cyI, 60, .inl (xA (kl)))), (qA, .inr (5, [.ref qAf, .ref qAt, .ref qAl, .int (iI (wn))])), (qAf, .inl (cyI, 6, .inl (xA (wf)))), (qAt, .inl (cyI, 6, .inl (xA (wt)))), (qAl, .inl (cyI, 6, .inl (xA (wl)))), (qC, .inr (0, [.ref qCy, .ref qCl, .ref qCb, .int (iI (ex)), .int (iI (be)), .int (iI (op)), .int (iI (es)), .int (iI (ge)), .int (iI (rc)), .int (iI (lr)), .int (iI (lw))])), (qCy, .inl (cyI, 60, .inl (xA (ey)))), (qCl, .inl (cyI, 60, .inl (xA (el)))), (qCb, .inl (cyI, 60, .inl (xA (bl))))] sz) := by
  refine Met.ofW (cc := cX6_tell) (maxL := 5) (ret := (some .int)) (by decide) rfl ?_
  intro p e s m args below meth c s₁ B hml hv
  obtain ⟨rfl, ⟨hsz, hP, hK, hD0⟩, hN⟩ := hv
  have hx := B.exec
  have hb := B.bytes
  have hr := B.returns
  have hts := atoms_spec (ws := wsX6_tell) B.pre
  have hown : s.vm.findClass RX6 = some m.cls := findClass_of_methodNamed B.named
  have hlocks := B.notSynchronized
  have hcX4 : ∀ w ∈ wsX40, w ∈ wsX6_tell := fun _ h => List.mem_cons_of_mem _ (List.mem_append_left _ (List.mem_append_left _ (List.mem_append_left _ (List.mem_append_right _ h))))
  have hcX6 : ∀ w ∈ wsX60, w ∈ wsX6_tell := fun _ h => List.mem_cons_of_mem _ (List.mem_append_left _ (List.mem_append_left _ (List.mem_append_left _ (List.mem_append_left _ (List.mem_append_right _ h)))))
  subst hsz
  have hD := hD0.self (sz := s.heap.size)
  generalize hAe : va_A [(qW, .inr (6, [.ref qT, .ref qA, .ref qK, .ref qC, .ref qE, .ref qI, .ref qF, .ref qH, .ref qO, .int (iI (fi))])), (qT, .inr (4, [.ref qTy, .ref qTk, .ref qTl, .ref qTt, .int (iI (tn)), .int (iI (tm))])), (qTy, .inl (cyI, 120, .inl (xA (ty)))), (qTk, .inl (cyI, 120, .inl (xA (tk)))), (qTl, .inl (cyI, 120, .inl (xA (tl)))), (qTt, .inl (cyI, 120, .inl (xA (tt)))), (qE, .inl (cyI, 6, .inl (xA (se)))), (qK, .inr (2, [.ref qKk, .ref qKl])), (qKk, .inl (cyI, 60, .inl (xA (kk)))), (qKl, .inl (cyI, 60, .inl (xA (kl)))), (qA, .inr (5, [.ref qAf, .ref qAt, .ref qAl, .int (iI (wn))])), (qAf, .inl (cyI, 6, .inl (xA (wf)))), (qAt, .inl (cyI, 6, .inl (xA (wt)))), (qAl, .inl (cyI, 6, .inl (xA (wl)))), (qC, .inr (0, [.ref qCy, .ref qCl, .ref qCb, .int (iI (ex)), .int (iI (be)), .int (iI (op)), .int (iI (es)), .int (iI (ge)), .int (iI (rc)), .int (iI (lr)), .int (iI (lw))])), (qCy, .inl (cyI, 60, .inl (xA (ey)))), (qCl, .inl (cyI, 60, .inl (xA (el)))), (qCb, .inl (cyI, 60, .inl (xA (bl))))] s.heap.size = A at hD ⊢
  have hA : ∀ q : Nat, s.heap.size ≤ q → A q := fun q h => by rw [← hAe]; exact Or.inr h
  have hS : va_S A s.heap s.heap [] := va_S.rf
  have hP : va_P D vwCl [(qW, .inr (6, [.ref qT, .ref qA, .ref qK, .ref qC, .ref qE, .ref qI, .ref qF, .ref qH, .ref qO, .int (iI (fi))])), (qT, .inr (4, [.ref qTy, .ref qTk, .ref qTl, .ref qTt, .int (iI (tn)), .int (iI (tm))])), (qTy, .inl (cyI, 120, .inl (xA (ty)))), (qTk, .inl (cyI, 120, .inl (xA (tk)))), (qTl, .inl (cyI, 120, .inl (xA (tl)))), (qTt, .inl (cyI, 120, .inl (xA (tt)))), (qE, .inl (cyI, 6, .inl (xA (se)))), (qK, .inr (2, [.ref qKk, .ref qKl])), (qKk, .inl (cyI, 60, .inl (xA (kk)))), (qKl, .inl (cyI, 60, .inl (xA (kl)))), (qA, .inr (5, [.ref qAf, .ref qAt, .ref qAl, .int (iI (wn))])), (qAf, .inl (cyI, 6, .inl (xA (wf)))), (qAt, .inl (cyI, 6, .inl (xA (wt)))), (qAl, .inl (cyI, 6, .inl (xA (wl)))), (qC, .inr (0, [.ref qCy, .ref qCl, .ref qCb, .int (iI (ex)), .int (iI (be)), .int (iI (op)), .int (iI (es)), .int (iI (ge)), .int (iI (rc)), .int (iI (lr)), .int (iI (lw))])), (qCy, .inl (cyI, 60, .inl (xA (ey)))), (qCl, .inl (cyI, 60, .inl (xA (el)))), (qCb, .inl (cyI, 60, .inl (xA (bl))))] s.heap := hP
  have hl := lv_entry ([.ref qW, .int (iI (y)), .int (iI (k)), .int (iI (v)), .int (iI (t9))]) (n := 5) (Nat.le_of_ble_eq_true rfl)
  rw [lg_entry_eq]
  generalize (lg_sl ([.ref qW, .int (iI (y)), .int (iI (k)), .int (iI (v)), .int (iI (t9))]) ++ List.replicate (5 - (lg_sl ([.ref qW, .int (iI (y)), .int (iI (k)), .int (iI (v)), .int (iI (t9))])).length) Slot.unset).toArray = ls at hl ⊢
  have hl : lv_has ls 5 [(0, .ref qW), (1, .int (iI (y))), (2, .int (iI (k))), (3, .int (iI (v))), (4, .int (iI (t9)))] := hl
  refine lv_iload_n hx hb dX6_tell_0 rfl (lv_at hl 1 rfl) ?_
  have hPc := hP.sub (ws' := []) [] rfl
  refine xc_i (va_runS (As := [.int (iI (y))]) (rest := []) ⟨hx, hb, hml, hown, hts⟩ (c_X6_isYear l D cyI cyJ cyO y (by first | exact h_y | assumption | omega)) (va_cwS 1 hts gX6_tell_X6_isYear rfl rfl rfl (by decide +kernel) ⟨Nat.le_of_ble_eq_true rfl, Nat.le_of_ble_eq_true rfl⟩) (xpS hPc hK) rfl rfl hl.1 rfl (lv_room (Nat.le_of_ble_eq_true rfl)) dX6_tell_1 ⟨Nat.le_of_ble_eq_true rfl, Nat.le_of_ble_eq_true rfl⟩) ?_
  refine xb_if_eqB (tgt := 24) hx hb dX6_tell_4 (by decide) (fun h_1 => by exfalso; omega) (fun h_1 => ?_)
  refine lv_iload_n hx hb dX6_tell_7 rfl (lv_at hl 2 rfl) ?_
  refine lv_iload_n hx hb dX6_tell_8 rfl (lv_at hl 3 rfl) ?_
  have hPc := hP.sub (ws' := []) [] rfl
  refine xc_i (va_runS (As := [.int (iI (k)), .int (iI (v))]) (rest := []) ⟨hx, hb, hml, hown, hts⟩ (c_X6_mayBeTold l D cyI cyJ cyO k v (by first | exact h_k | assumption | omega) (by first | exact h_v | assumption | omega)) (va_cwS 2 hts gX6_tell_X6_mayBeTold rfl rfl rfl (by decide +kernel) ⟨Nat.le_of_ble_eq_true rfl, Nat.le_of_ble_eq_true rfl⟩) (xpS hPc hK) rfl rfl hl.1 rfl (lv_room (Nat.le_of_ble_eq_true rfl)) dX6_tell_9 ⟨Nat.le_of_ble_eq_true rfl, Nat.le_of_ble_eq_true rfl⟩) ?_
  refine xb_if_eqB (tgt := 24) hx hb dX6_tell_12 (by decide) (fun h_2 => by exfalso; omega) (fun h_2 => ?_)
  refine lv_aload_n hx hb dX6_tell_15 rfl (lv_at hl 0 rfl) ?_
  refine lv_iload hx hb dX6_tell_16 (lv_at hl 4 rfl) ?_
  have hPc := hP.sub (ws' := [(qW, .inr (6, [.ref qT, .ref qA, .ref qK, .ref qC, .ref qE, .ref qI, .ref qF, .ref qH, .ref qO, .int (iI (fi))])), (qT, .inr (4, [.ref qTy, .ref qTk, .ref qTl, .ref qTt, .int (iI (tn)), .int (iI (tm))]))]) [0, 1] rfl
  refine xc_i (va_runV (As := [.int (iI (t9))]) (rest := []) ⟨hx, hb, hml, hown, hts⟩ (c_X6_isTimeToTell l D cyI cyJ cyO qW qT qA qK qC qE qI qF qH qO fi qTy qTk qTl qTt tn tm t9 (by first | exact h_tm | assumption | omega) (by first | exact h_t9 | assumption | omega)) (cwV 1 hts gX6_tell_X6_isTimeToTell rfl rfl rfl (by decide +kernel) ⟨Nat.le_of_ble_eq_true rfl, Nat.le_of_ble_eq_true rfl⟩) (xpV hPc hK (ci := 6) (q0 := 0) (q := (RX6, TX6, 10)) rfl rfl) rfl rfl hl.1 rfl (lv_room (Nat.le_of_ble_eq_true rfl)) dX6_tell_18 ⟨Nat.le_of_ble_eq_true rfl, Nat.le_of_ble_eq_true rfl⟩) ?_
  refine xb_if_neB (tgt := 27) hx hb dX6_tell_21 (by decide) (fun h_3 => ?_) (fun h_3 => by exfalso; omega)
  refine lv_aload_n hx hb dX6_tell_27 rfl (lv_at hl 0 rfl) ?_
  refine va_get (D := D) (ci := 6) (C := RX6) (T := TX6) (N := 10) hx hb hts hcX6 hown hK hP 0 rfl rfl 0 (by decide) (hts (.fieldLink RX6 10 "WallMarks" "tellings" "LWallMarks$Tellings;") (List.mem_of_getElem? (i := 1) (by decide +kernel))) (fun _ h9 => h9) rfl dX6_tell_28 ?_
  have hPc := hP.sub (ws' := [(qT, .inr (4, [.ref qTy, .ref qTk, .ref qTl, .ref qTt, .int (iI (tn)), .int (iI (tm))]))]) [1] rfl
  refine xc_i (va_runV (As := []) (rest := []) ⟨hx, hb, hml, hown, hts⟩ (c_X4_hasRoom l D cyI cyJ cyO qT qTy qTk qTl qTt tn tm (by first | exact h_tn | assumption | omega)) (cwV 0 hts gX6_tell_X4_hasRoom rfl rfl rfl (by decide +kernel) ⟨Nat.le_of_ble_eq_true rfl, Nat.le_of_ble_eq_true rfl⟩) (xpV hPc hK (ci := 4) (q0 := 0) (q := (RX4, TX4, 6)) rfl rfl) rfl rfl hl.1 rfl (lv_room (Nat.le_of_ble_eq_true rfl)) dX6_tell_31 ⟨Nat.le_of_ble_eq_true rfl, Nat.le_of_ble_eq_true rfl⟩) ?_
  refine xb_if_neB (tgt := 40) hx hb dX6_tell_34 (by decide) (fun h_4 => ?_) (fun h_4 => by exfalso; omega)
  refine lv_aload_n hx hb dX6_tell_40 rfl (lv_at hl 0 rfl) ?_
  refine va_get (D := D) (ci := 6) (C := RX6) (T := TX6) (N := 10) hx hb hts hcX6 hown hK hP 0 rfl rfl 0 (by decide) (hts (.fieldLink RX6 10 "WallMarks" "tellings" "LWallMarks$Tellings;") (List.mem_of_getElem? (i := 1) (by decide +kernel))) (fun _ h9 => h9) rfl dX6_tell_41 ?_
  refine lv_iload_n hx hb dX6_tell_44 rfl (lv_at hl 1 rfl) ?_
  refine lv_iload_n hx hb dX6_tell_45 rfl (lv_at hl 2 rfl) ?_
  refine lv_iload_n hx hb dX6_tell_46 rfl (lv_at hl 3 rfl) ?_
  refine lv_iload hx hb dX6_tell_47 (lv_at hl 4 rfl) ?_
  have hPc := hP.sub (ws' := [(qT, .inr (4, [.ref qTy, .ref qTk, .ref qTl, .ref qTt, .int (iI (tn)), .int (iI (tm))])), (qTy, .inl (cyI, 120, .inl (xA (ty)))), (qTk, .inl (cyI, 120, .inl (xA (tk)))), (qTl, .inl (cyI, 120, .inl (xA (tl)))), (qTt, .inl (cyI, 120, .inl (xA (tt))))]) [1, 2, 3, 4, 5] rfl
  have hDc := hD.sub (ws' := [(qT, .inr (4, [.ref qTy, .ref qTk, .ref qTl, .ref qTt, .int (iI (tn)), .int (iI (tm))])), (qTy, .inl (cyI, 120, .inl (xA (ty)))), (qTk, .inl (cyI, 120, .inl (xA (tk)))), (qTl, .inl (cyI, 120, .inl (xA (tl)))), (qTt, .inl (cyI, 120, .inl (xA (tt))))]) [1, 2, 3, 4, 5] (by decide) rfl
  have hFc := va_free (wc := [(qT, .inr (4, [.ref qTy, .ref qTk, .ref qTl, .ref qTt, .int (iI (tn)), .int (iI (tm))])), (qTy, .inl (cyI, 120, .inl (xA (ty)))), (qTk, .inl (cyI, 120, .inl (xA (tk)))), (qTl, .inl (cyI, 120, .inl (xA (tl)))), (qTt, .inl (cyI, 120, .inl (xA (tt))))]) hD hS hA [1, 2, 3, 4, 5] rfl
  refine va_callv (va_runV (As := [.int (iI (y)), .int (iI (k)), .int (iI (v)), .int (iI (t9))]) (rest := []) ⟨hx, hb, hml, hown, hts⟩ (c_X4_add l D cyI cyJ cyO qT qTy qTk qTl qTt tn tm ty tk tl tt s.heap.size y k v t9 (by first | exact h_tn | assumption | omega)) (cwV 4 hts gX6_tell_X4_add rfl rfl rfl (by decide +kernel) ⟨Nat.le_of_ble_eq_true rfl, Nat.le_of_ble_eq_true rfl⟩) (xpVM hPc hK hDc (ci := 4) (q0 := 0) (q := (RX4, TX4, 6)) rfl rfl) rfl rfl hl.1 rfl (lv_room (Nat.le_of_ble_eq_true rfl)) dX6_tell_49 ⟨Nat.le_of_ble_eq_true rfl, Nat.le_of_ble_eq_true rfl⟩) hS (fun q _ h => hFc q h) hFc (fun u_5 t_ H1 locs ht_ hvm hw hB hz1 hk1 hS => ?_)
  obtain ⟨hP1, hK1, hD1⟩ := hB
  rw [ht_] at hP1
  obtain ⟨hP, hD⟩ := xj (wc := [(qT, .inr (4, [.ref qTy, .ref qTk, .ref qTl, .ref qTt, .int (iI (tn)), .int (iI (tm))])), (qTy, .inl (cyI, 120, .inl (xA (ty)))), (qTk, .inl (cyI, 120, .inl (xA (tk)))), (qTl, .inl (cyI, 120, .inl (xA (tl)))), (qTt, .inl (cyI, 120, .inl (xA (tt))))]) (w1 := [(qT, .inr (4, [.ref qTy, .ref qTk, .ref qTl, .ref qTt, .int (iI (tn + 1)), .int (iI (t9))])), (qTy, .inl (cyI, 120, .inl (xA (uz ty tn y)))), (qTk, .inl (cyI, 120, .inl (xA (uz tk tn k)))), (qTl, .inl (cyI, 120, .inl (xA (uz tl tn v)))), (qTt, .inl (cyI, 120, .inl (xA (uz tt tn t9))))]) hP hD [1, 2, 3, 4, 5] rfl rfl hk1 hP1
  generalize H1 = H at hP hS ⊢
  have hP : va_P D vwCl [(qW, .inr (6, [.ref qT, .ref qA, .ref qK, .ref qC, .ref qE, .ref qI, .ref qF, .ref qH, .ref qO, .int (iI (fi))])), (qT, .inr (4, [.ref qTy, .ref qTk, .ref qTl, .ref qTt, .int (iI (tn + 1)), .int (iI (t9))])), (qTy, .inl (cyI, 120, .inl (xA (uz ty tn y)))), (qTk, .inl (cyI, 120, .inl (xA (uz tk tn k)))), (qTl, .inl (cyI, 120, .inl (xA (uz tl tn v)))), (qTt, .inl (cyI, 120, .inl (xA (uz tt tn t9)))), (qE, .inl (cyI, 6, .inl (xA (se)))), (qK, .inr (2, [.ref qKk, .ref qKl])), (qKk, .inl (cyI, 60, .inl (xA (kk)))), (qKl, .inl (cyI, 60, .inl (xA (kl)))), (qA, .inr (5, [.ref qAf, .ref qAt, .ref qAl, .int (iI (wn))])), (qAf, .inl (cyI, 6, .inl (xA (wf)))), (qAt, .inl (cyI, 6, .inl (xA (wt)))), (qAl, .inl (cyI, 6, .inl (xA (wl)))), (qC, .inr (0, [.ref qCy, .ref qCl, .ref qCb, .int (iI (ex)), .int (iI (be)), .int (iI (op)), .int (iI (es)), .int (iI (ge)), .int (iI (rc)), .int (iI (lr)), .int (iI (lw))])), (qCy, .inl (cyI, 60, .inl (xA (ey)))), (qCl, .inl (cyI, 60, .inl (xA (el)))), (qCb, .inl (cyI, 60, .inl (xA (bl))))] H := hP
  have hD : va_D A [(qW, .inr (6, [.ref qT, .ref qA, .ref qK, .ref qC, .ref qE, .ref qI, .ref qF, .ref qH, .ref qO, .int (iI (fi))])), (qT, .inr (4, [.ref qTy, .ref qTk, .ref qTl, .ref qTt, .int (iI (tn + 1)), .int (iI (t9))])), (qTy, .inl (cyI, 120, .inl (xA (uz ty tn y)))), (qTk, .inl (cyI, 120, .inl (xA (uz tk tn k)))), (qTl, .inl (cyI, 120, .inl (xA (uz tl tn v)))), (qTt, .inl (cyI, 120, .inl (xA (uz tt tn t9)))), (qE, .inl (cyI, 6, .inl (xA (se)))), (qK, .inr (2, [.ref qKk, .ref qKl])), (qKk, .inl (cyI, 60, .inl (xA (kk)))), (qKl, .inl (cyI, 60, .inl (xA (kl)))), (qA, .inr (5, [.ref qAf, .ref qAt, .ref qAl, .int (iI (wn))])), (qAf, .inl (cyI, 6, .inl (xA (wf)))), (qAt, .inl (cyI, 6, .inl (xA (wt)))), (qAl, .inl (cyI, 6, .inl (xA (wl)))), (qC, .inr (0, [.ref qCy, .ref qCl, .ref qCb, .int (iI (ex)), .int (iI (be)), .int (iI (op)), .int (iI (es)), .int (iI (ge)), .int (iI (rc)), .int (iI (lr)), .int (iI (lw))])), (qCy, .inl (cyI, 60, .inl (xA (ey)))), (qCl, .inl (cyI, 60, .inl (xA (el)))), (qCb, .inl (cyI, 60, .inl (xA (bl))))] := hD
  have hw_6 : True := hw
  refine lv_aload_n hx hb dX6_tell_52 rfl (lv_at hl 0 rfl) ?_
  have hPc := hP.sub (ws' := [(qW, .inr (6, [.ref qT, .ref qA, .ref qK, .ref qC, .ref qE, .ref qI, .ref qF, .ref qH, .ref qO, .int (iI (fi))])), (qT, .inr (4, [.ref qTy, .ref qTk, .ref qTl, .ref qTt, .int (iI (tn + 1)), .int (iI (t9))])), (qTy, .inl (cyI, 120, .inl (xA (uz ty tn y)))), (qTk, .inl (cyI, 120, .inl (xA (uz tk tn k)))), (qTl, .inl (cyI, 120, .inl (xA (uz tl tn v)))), (qTt, .inl (cyI, 120, .inl (xA (uz tt tn t9)))), (qE, .inl (cyI, 6, .inl (xA (se)))), (qK, .inr (2, [.ref qKk, .ref qKl])), (qKk, .inl (cyI, 60, .inl (xA (kk)))), (qKl, .inl (cyI, 60, .inl (xA (kl)))), (qA, .inr (5, [.ref qAf, .ref qAt, .ref qAl, .int (iI (wn))])), (qAf, .inl (cyI, 6, .inl (xA (wf)))), (qAt, .inl (cyI, 6, .inl (xA (wt)))), (qAl, .inl (cyI, 6, .inl (xA (wl)))), (qC, .inr (0, [.ref qCy, .ref qCl, .ref qCb, .int (iI (ex)), .int (iI (be)), .int (iI (op)), .int (iI (es)), .int (iI (ge)), .int (iI (rc)), .int (iI (lr)), .int (iI (lw))])), (qCy, .inl (cyI, 60, .inl (xA (ey)))), (qCl, .inl (cyI, 60, .inl (xA (el)))), (qCb, .inl (cyI, 60, .inl (xA (bl))))]) [0, 1, 2, 3, 4, 5, 6, 7, 8, 9, 10, 11, 12, 13, 14, 15, 16, 17] rfl
  have hDc := hD.sub (ws' := [(qW, .inr (6, [.ref qT, .ref qA, .ref qK, .ref qC, .ref qE, .ref qI, .ref qF, .ref qH, .ref qO, .int (iI (fi))])), (qT, .inr (4, [.ref qTy, .ref qTk, .ref qTl, .ref qTt, .int (iI (tn + 1)), .int (iI (t9))])), (qTy, .inl (cyI, 120, .inl (xA (uz ty tn y)))), (qTk, .inl (cyI, 120, .inl (xA (uz tk tn k)))), (qTl, .inl (cyI, 120, .inl (xA (uz tl tn v)))), (qTt, .inl (cyI, 120, .inl (xA (uz tt tn t9)))), (qE, .inl (cyI, 6, .inl (xA (se)))), (qK, .inr (2, [.ref qKk, .ref qKl])), (qKk, .inl (cyI, 60, .inl (xA (kk)))), (qKl, .inl (cyI, 60, .inl (xA (kl)))), (qA, .inr (5, [.ref qAf, .ref qAt, .ref qAl, .int (iI (wn))])), (qAf, .inl (cyI, 6, .inl (xA (wf)))), (qAt, .inl (cyI, 6, .inl (xA (wt)))), (qAl, .inl (cyI, 6, .inl (xA (wl)))), (qC, .inr (0, [.ref qCy, .ref qCl, .ref qCb, .int (iI (ex)), .int (iI (be)), .int (iI (op)), .int (iI (es)), .int (iI (ge)), .int (iI (rc)), .int (iI (lr)), .int (iI (lw))])), (qCy, .inl (cyI, 60, .inl (xA (ey)))), (qCl, .inl (cyI, 60, .inl (xA (el)))), (qCb, .inl (cyI, 60, .inl (xA (bl))))]) [0, 1, 2, 3, 4, 5, 6, 7, 8, 9, 10, 11, 12, 13, 14, 15, 16, 17] (by decide) rfl
  have hFc := va_free (wc := [(qW, .inr (6, [.ref qT, .ref qA, .ref qK, .ref qC, .ref qE, .ref qI, .ref qF, .ref qH, .ref qO, .int (iI (fi))])), (qT, .inr (4, [.ref qTy, .ref qTk, .ref qTl, .ref qTt, .int (iI (tn + 1)), .int (iI (t9))])), (qTy, .inl (cyI, 120, .inl (xA (uz ty tn y)))), (qTk, .inl (cyI, 120, .inl (xA (uz tk tn k)))), (qTl, .inl (cyI, 120, .inl (xA (uz tl tn v)))), (qTt, .inl (cyI, 120, .inl (xA (uz tt tn t9)))), (qE, .inl (cyI, 6, .inl (xA (se)))), (qK, .inr (2, [.ref qKk, .ref qKl])), (qKk, .inl (cyI, 60, .inl (xA (kk)))), (qKl, .inl (cyI, 60, .inl (xA (kl)))), (qA, .inr (5, [.ref qAf, .ref qAt, .ref qAl, .int (iI (wn))])), (qAf, .inl (cyI, 6, .inl (xA (wf)))), (qAt, .inl (cyI, 6, .inl (xA (wt)))), (qAl, .inl (cyI, 6, .inl (xA (wl)))), (qC, .inr (0, [.ref qCy, .ref qCl, .ref qCb, .int (iI (ex)), .int (iI (be)), .int (iI (op)), .int (iI (es)), .int (iI (ge)), .int (iI (rc)), .int (iI (lr)), .int (iI (lw))])), (qCy, .inl (cyI, 60, .inl (xA (ey)))), (qCl, .inl (cyI, 60, .inl (xA (el)))), (qCb, .inl (cyI, 60, .inl (xA (bl))))]) hD hS hA [0, 1, 2, 3, 4, 5, 6, 7, 8, 9, 10, 11, 12, 13, 14, 15, 16, 17] rfl
  refine va_callv (va_runV (As := []) (rest := []) ⟨hx, hb, hml, hown, hts⟩ (c_X6_settle l D cyI cyJ cyO qW qT qA qK qC qE qI qF qH qO fi qTy qTk qTl qTt (tn + 1) t9 (uz ty tn y) (uz tk tn k) (uz tl tn v) (uz tt tn t9) se qKk qKl kk kl qAf qAt qAl wn wf wt wl qCy qCl qCb ex be op es ge rc lr lw ey el bl H.size (by first | exact h_tn | assumption | omega) (by exact uz_in h_ty (by omega)) (by exact uz_in h_tk (by omega)) (by exact tv_s h_tv (by omega)) (by exact uz_in h_tl (by omega)) (by exact uz_in h_tt (by omega)) (by first | exact h_se | assumption | omega) (by first | exact h_wn | assumption | omega) (by first | exact h_wf | assumption | omega) (by first | exact h_wt | assumption | omega) (by first | exact h_wl | assumption | omega) (by first | exact h_ey | assumption | omega) (by first | exact h_el | assumption | omega) (by first | exact h_bl | assumption | omega)) (cwV 0 hts gX6_tell_X6_settle rfl rfl rfl (by decide +kernel) ⟨Nat.le_of_ble_eq_true rfl, Nat.le_of_ble_eq_true rfl⟩) (xpVMN hPc hK hDc hN (ci := 6) (q0 := 0) (q := (RX6, TX6, 10)) rfl rfl) rfl rfl hl.1 rfl (lv_room (Nat.le_of_ble_eq_true rfl)) dX6_tell_53 ⟨Nat.le_of_ble_eq_true rfl, Nat.le_of_ble_eq_true rfl⟩) hS (fun q _ h => hFc q h) hFc (fun u_7 t_ H1 locs ht_ hvm hw hB hz1 hk1 hS => ?_)
  obtain ⟨eyN_8, elN_9, blN_10⟩ := u_7
  obtain ⟨hP1, hK1, hD1⟩ := hB
  rw [ht_] at hP1
  obtain ⟨hP, hD⟩ := xj (wc := [(qW, .inr (6, [.ref qT, .ref qA, .ref qK, .ref qC, .ref qE, .ref qI, .ref qF, .ref qH, .ref qO, .int (iI (fi))])), (qT, .inr (4, [.ref qTy, .ref qTk, .ref qTl, .ref qTt, .int (iI (tn + 1)), .int (iI (t9))])), (qTy, .inl (cyI, 120, .inl (xA (uz ty tn y)))), (qTk, .inl (cyI, 120, .inl (xA (uz tk tn k)))), (qTl, .inl (cyI, 120, .inl (xA (uz tl tn v)))), (qTt, .inl (cyI, 120, .inl (xA (uz tt tn t9)))), (qE, .inl (cyI, 6, .inl (xA (se)))), (qK, .inr (2, [.ref qKk, .ref qKl])), (qKk, .inl (cyI, 60, .inl (xA (kk)))), (qKl, .inl (cyI, 60, .inl (xA (kl)))), (qA, .inr (5, [.ref qAf, .ref qAt, .ref qAl, .int (iI (wn))])), (qAf, .inl (cyI, 6, .inl (xA (wf)))), (qAt, .inl (cyI, 6, .inl (xA (wt)))), (qAl, .inl (cyI, 6, .inl (xA (wl)))), (qC, .inr (0, [.ref qCy, .ref qCl, .ref qCb, .int (iI (ex)), .int (iI (be)), .int (iI (op)), .int (iI (es)), .int (iI (ge)), .int (iI (rc)), .int (iI (lr)), .int (iI (lw))])), (qCy, .inl (cyI, 60, .inl (xA (ey)))), (qCl, .inl (cyI, 60, .inl (xA (el)))), (qCb, .inl (cyI, 60, .inl (xA (bl))))]) (w1 := [(qW, .inr (6, [.ref qT, .ref qA, .ref qK, .ref qC, .ref qE, .ref qI, .ref qF, .ref qH, .ref qO, .int (iI (fi))])), (qT, .inr (4, [.ref qTy, .ref qTk, .ref qTl, .ref qTt, .int (iI (tn + 1)), .int (iI (t9))])), (qTy, .inl (cyI, 120, .inl (xA (uz ty tn y)))), (qTk, .inl (cyI, 120, .inl (xA (uz tk tn k)))), (qTl, .inl (cyI, 120, .inl (xA (uz tl tn v)))), (qTt, .inl (cyI, 120, .inl (xA (uz tt tn t9)))), (qE, .inl (cyI, 6, .inl (xA (se)))), (qK, .inr (2, [.ref qKk, .ref qKl])), (qKk, .inl (cyI, 60, .inl (xA ((KKf (uz ty tn y) (uz tk tn k) (uz tl tn v) (uz tt tn t9) (tn + 1) wf wt wl wn se))))), (qKl, .inl (cyI, 60, .inl (xA ((KLf (uz ty tn y) (uz tk tn k) (uz tl tn v) (uz tt tn t9) (tn + 1) wf wt wl wn se))))), (qA, .inr (5, [.ref qAf, .ref qAt, .ref qAl, .int (iI (wn))])), (qAf, .inl (cyI, 6, .inl (xA (wf)))), (qAt, .inl (cyI, 6, .inl (xA (wt)))), (qAl, .inl (cyI, 6, .inl (xA (wl)))), (qC, .inr (0, [.ref qCy, .ref qCl, .ref qCb, .int (iI (cntZ (PX (KKf (uz ty tn y) (uz tk tn k) (uz tl tn v) (uz tt tn t9) (tn + 1) wf wt wl wn se) (se 1) (se 2) 0) 60)), .int (iI (cntZ (PX (KKf (uz ty tn y) (uz tk tn k) (uz tl tn v) (uz tt tn t9) (tn + 1) wf wt wl wn se) (se 1) (se 2) 1) 60)), .int (iI (cntZ (PX (KKf (uz ty tn y) (uz tk tn k) (uz tl tn v) (uz tt tn t9) (tn + 1) wf wt wl wn se) (se 1) (se 2) 2) 60)), .int (iI (sumZ (exL (KKf (uz ty tn y) (uz tk tn k) (uz tl tn v) (uz tt tn t9) (tn + 1) wf wt wl wn se) (KLf (uz ty tn y) (uz tk tn k) (uz tl tn v) (uz tt tn t9) (tn + 1) wf wt wl wn se) (se 1) (se 2)) 60)), .int (iI ((recF (KKf (uz ty tn y) (uz tk tn k) (uz tl tn v) (uz tt tn t9) (tn + 1) wf wt wl wn se) (KLf (uz ty tn y) (uz tk tn k) (uz tl tn v) (uz tt tn t9) (tn + 1) wf wt wl wn se) (se 1) (se 2) 60).1)), .int (iI ((recF (KKf (uz ty tn y) (uz tk tn k) (uz tl tn v) (uz tt tn t9) (tn + 1) wf wt wl wn se) (KLf (uz ty tn y) (uz tk tn k) (uz tl tn v) (uz tt tn t9) (tn + 1) wf wt wl wn se) (se 1) (se 2) 60).2.1)), .int (iI ((recF (KKf (uz ty tn y) (uz tk tn k) (uz tl tn v) (uz tt tn t9) (tn + 1) wf wt wl wn se) (KLf (uz ty tn y) (uz tk tn k) (uz tl tn v) (uz tt tn t9) (tn + 1) wf wt wl wn se) (se 1) (se 2) 60).2.2.1)), .int (iI ((recF (KKf (uz ty tn y) (uz tk tn k) (uz tl tn v) (uz tt tn t9) (tn + 1) wf wt wl wn se) (KLf (uz ty tn y) (uz tk tn k) (uz tl tn v) (uz tt tn t9) (tn + 1) wf wt wl wn se) (se 1) (se 2) 60).2.2.2))])), (qCy, .inl (cyI, 60, .inl (xA (eyN_8)))), (qCl, .inl (cyI, 60, .inl (xA (elN_9)))), (qCb, .inl (cyI, 60, .inl (xA (blN_10))))]) hP hD [0, 1, 2, 3, 4, 5, 6, 7, 8, 9, 10, 11, 12, 13, 14, 15, 16, 17] rfl rfl hk1 hP1
  generalize H1 = H at hP hS ⊢
  have hP : va_P D vwCl [(qW, .inr (6, [.ref qT, .ref qA, .ref qK, .ref qC, .ref qE, .ref qI, .ref qF, .ref qH, .ref qO, .int (iI (fi))])), (qT, .inr (4, [.ref qTy, .ref qTk, .ref qTl, .ref qTt, .int (iI (tn + 1)), .int (iI (t9))])), (qTy, .inl (cyI, 120, .inl (xA (uz ty tn y)))), (qTk, .inl (cyI, 120, .inl (xA (uz tk tn k)))), (qTl, .inl (cyI, 120, .inl (xA (uz tl tn v)))), (qTt, .inl (cyI, 120, .inl (xA (uz tt tn t9)))), (qE, .inl (cyI, 6, .inl (xA (se)))), (qK, .inr (2, [.ref qKk, .ref qKl])), (qKk, .inl (cyI, 60, .inl (xA ((KKf (uz ty tn y) (uz tk tn k) (uz tl tn v) (uz tt tn t9) (tn + 1) wf wt wl wn se))))), (qKl, .inl (cyI, 60, .inl (xA ((KLf (uz ty tn y) (uz tk tn k) (uz tl tn v) (uz tt tn t9) (tn + 1) wf wt wl wn se))))), (qA, .inr (5, [.ref qAf, .ref qAt, .ref qAl, .int (iI (wn))])), (qAf, .inl (cyI, 6, .inl (xA (wf)))), (qAt, .inl (cyI, 6, .inl (xA (wt)))), (qAl, .inl (cyI, 6, .inl (xA (wl)))), (qC, .inr (0, [.ref qCy, .ref qCl, .ref qCb, .int (iI (cntZ (PX (KKf (uz ty tn y) (uz tk tn k) (uz tl tn v) (uz tt tn t9) (tn + 1) wf wt wl wn se) (se 1) (se 2) 0) 60)), .int (iI (cntZ (PX (KKf (uz ty tn y) (uz tk tn k) (uz tl tn v) (uz tt tn t9) (tn + 1) wf wt wl wn se) (se 1) (se 2) 1) 60)), .int (iI (cntZ (PX (KKf (uz ty tn y) (uz tk tn k) (uz tl tn v) (uz tt tn t9) (tn + 1) wf wt wl wn se) (se 1) (se 2) 2) 60)), .int (iI (sumZ (exL (KKf (uz ty tn y) (uz tk tn k) (uz tl tn v) (uz tt tn t9) (tn + 1) wf wt wl wn se) (KLf (uz ty tn y) (uz tk tn k) (uz tl tn v) (uz tt tn t9) (tn + 1) wf wt wl wn se) (se 1) (se 2)) 60)), .int (iI ((recF (KKf (uz ty tn y) (uz tk tn k) (uz tl tn v) (uz tt tn t9) (tn + 1) wf wt wl wn se) (KLf (uz ty tn y) (uz tk tn k) (uz tl tn v) (uz tt tn t9) (tn + 1) wf wt wl wn se) (se 1) (se 2) 60).1)), .int (iI ((recF (KKf (uz ty tn y) (uz tk tn k) (uz tl tn v) (uz tt tn t9) (tn + 1) wf wt wl wn se) (KLf (uz ty tn y) (uz tk tn k) (uz tl tn v) (uz tt tn t9) (tn + 1) wf wt wl wn se) (se 1) (se 2) 60).2.1)), .int (iI ((recF (KKf (uz ty tn y) (uz tk tn k) (uz tl tn v) (uz tt tn t9) (tn + 1) wf wt wl wn se) (KLf (uz ty tn y) (uz tk tn k) (uz tl tn v) (uz tt tn t9) (tn + 1) wf wt wl wn se) (se 1) (se 2) 60).2.2.1)), .int (iI ((recF (KKf (uz ty tn y) (uz tk tn k) (uz tl tn v) (uz tt tn t9) (tn + 1) wf wt wl wn se) (KLf (uz ty tn y) (uz tk tn k) (uz tl tn v) (uz tt tn t9) (tn + 1) wf wt wl wn se) (se 1) (se 2) 60).2.2.2))])), (qCy, .inl (cyI, 60, .inl (xA (eyN_8)))), (qCl, .inl (cyI, 60, .inl (xA (elN_9)))), (qCb, .inl (cyI, 60, .inl (xA (blN_10))))] H := hP
  have hD : va_D A [(qW, .inr (6, [.ref qT, .ref qA, .ref qK, .ref qC, .ref qE, .ref qI, .ref qF, .ref qH, .ref qO, .int (iI (fi))])), (qT, .inr (4, [.ref qTy, .ref qTk, .ref qTl, .ref qTt, .int (iI (tn + 1)), .int (iI (t9))])), (qTy, .inl (cyI, 120, .inl (xA (uz ty tn y)))), (qTk, .inl (cyI, 120, .inl (xA (uz tk tn k)))), (qTl, .inl (cyI, 120, .inl (xA (uz tl tn v)))), (qTt, .inl (cyI, 120, .inl (xA (uz tt tn t9)))), (qE, .inl (cyI, 6, .inl (xA (se)))), (qK, .inr (2, [.ref qKk, .ref qKl])), (qKk, .inl (cyI, 60, .inl (xA ((KKf (uz ty tn y) (uz tk tn k) (uz tl tn v) (uz tt tn t9) (tn + 1) wf wt wl wn se))))), (qKl, .inl (cyI, 60, .inl (xA ((KLf (uz ty tn y) (uz tk tn k) (uz tl tn v) (uz tt tn t9) (tn + 1) wf wt wl wn se))))), (qA, .inr (5, [.ref qAf, .ref qAt, .ref qAl, .int (iI (wn))])), (qAf, .inl (cyI, 6, .inl (xA (wf)))), (qAt, .inl (cyI, 6, .inl (xA (wt)))), (qAl, .inl (cyI, 6, .inl (xA (wl)))), (qC, .inr (0, [.ref qCy, .ref qCl, .ref qCb, .int (iI (cntZ (PX (KKf (uz ty tn y) (uz tk tn k) (uz tl tn v) (uz tt tn t9) (tn + 1) wf wt wl wn se) (se 1) (se 2) 0) 60)), .int (iI (cntZ (PX (KKf (uz ty tn y) (uz tk tn k) (uz tl tn v) (uz tt tn t9) (tn + 1) wf wt wl wn se) (se 1) (se 2) 1) 60)), .int (iI (cntZ (PX (KKf (uz ty tn y) (uz tk tn k) (uz tl tn v) (uz tt tn t9) (tn + 1) wf wt wl wn se) (se 1) (se 2) 2) 60)), .int (iI (sumZ (exL (KKf (uz ty tn y) (uz tk tn k) (uz tl tn v) (uz tt tn t9) (tn + 1) wf wt wl wn se) (KLf (uz ty tn y) (uz tk tn k) (uz tl tn v) (uz tt tn t9) (tn + 1) wf wt wl wn se) (se 1) (se 2)) 60)), .int (iI ((recF (KKf (uz ty tn y) (uz tk tn k) (uz tl tn v) (uz tt tn t9) (tn + 1) wf wt wl wn se) (KLf (uz ty tn y) (uz tk tn k) (uz tl tn v) (uz tt tn t9) (tn + 1) wf wt wl wn se) (se 1) (se 2) 60).1)), .int (iI ((recF (KKf (uz ty tn y) (uz tk tn k) (uz tl tn v) (uz tt tn t9) (tn + 1) wf wt wl wn se) (KLf (uz ty tn y) (uz tk tn k) (uz tl tn v) (uz tt tn t9) (tn + 1) wf wt wl wn se) (se 1) (se 2) 60).2.1)), .int (iI ((recF (KKf (uz ty tn y) (uz tk tn k) (uz tl tn v) (uz tt tn t9) (tn + 1) wf wt wl wn se) (KLf (uz ty tn y) (uz tk tn k) (uz tl tn v) (uz tt tn t9) (tn + 1) wf wt wl wn se) (se 1) (se 2) 60).2.2.1)), .int (iI ((recF (KKf (uz ty tn y) (uz tk tn k) (uz tl tn v) (uz tt tn t9) (tn + 1) wf wt wl wn se) (KLf (uz ty tn y) (uz tk tn k) (uz tl tn v) (uz tt tn t9) (tn + 1) wf wt wl wn se) (se 1) (se 2) 60).2.2.2))])), (qCy, .inl (cyI, 60, .inl (xA (eyN_8)))), (qCl, .inl (cyI, 60, .inl (xA (elN_9)))), (qCb, .inl (cyI, 60, .inl (xA (blN_10))))] := hD
  have hw_11 : (rowR (PX (KKf (uz ty tn y) (uz tk tn k) (uz tl tn v) (uz tt tn t9) (tn + 1) wf wt wl wn se) (se 1) (se 2) 0) eyN_8 elN_9 (KLf (uz ty tn y) (uz tk tn k) (uz tl tn v) (uz tt tn t9) (tn + 1) wf wt wl wn se) 60) ∧ (rowB (PX (KKf (uz ty tn y) (uz tk tn k) (uz tl tn v) (uz tt tn t9) (tn + 1) wf wt wl wn se) (se 1) (se 2) 1) blN_10 (KLf (uz ty tn y) (uz tk tn k) (uz tl tn v) (uz tt tn t9) (tn + 1) wf wt wl wn se) 60) ∧ (∀ j, 0 ≤ eyN_8 j ∧ eyN_8 j ≤ 59) ∧ (∀ j, 0 ≤ elN_9 j ∧ elN_9 j ≤ 999) ∧ (∀ j, 0 ≤ blN_10 j ∧ blN_10 j ≤ 999) := hw
  obtain ⟨hw1, hw2, hw3, hw4, hw5⟩ := hw_11
  refine lv_aload_n hx hb dX6_tell_56 rfl (lv_at hl 0 rfl) ?_
  refine va_get (D := D) (ci := 6) (C := RX6) (T := TX6) (N := 10) hx hb hts hcX6 hown hK hP 0 rfl rfl 0 (by decide) (hts (.fieldLink RX6 10 "WallMarks" "tellings" "LWallMarks$Tellings;") (List.mem_of_getElem? (i := 1) (by decide +kernel))) (fun _ h9 => h9) rfl dX6_tell_57 ?_
  refine va_get (D := D) (ci := 4) (C := RX4) (T := TX4) (N := 6) hx hb hts hcX4 hown hK hP 1 rfl rfl 4 (by decide) (hts (.fieldLink RX6 102 "WallMarks$Tellings" "size" "I") (List.mem_of_getElem? (i := 2) (by decide +kernel))) (fun _ h9 => h9) rfl dX6_tell_60 ?_
  exact W.iret (v := iI (tn + 1)) hx hb hr (fun t_ ht_ hW_ => ⟨⟨_, (eyN_8, elN_9, blN_10), rfl, ⟨rfl, ⟨(show rowR (PX (KKf (uz ty tn y) (uz tk tn k) (uz tl tn v) (uz tt tn t9) (tn + 1) wf wt wl wn se) (se 1) (se 2) 0) eyN_8 elN_9 (KLf (uz ty tn y) (uz tk tn k) (uz tl tn v) (uz tt tn t9) (tn + 1) wf wt wl wn se) 60 from by assumption), (show rowB (PX (KKf (uz ty tn y) (uz tk tn k) (uz tl tn v) (uz tt tn t9) (tn + 1) wf wt wl wn se) (se 1) (se 2) 1) blN_10 (KLf (uz ty tn y) (uz tk tn k) (uz tl tn v) (uz tt tn t9) (tn + 1) wf wt wl wn se) 60 from by assumption), (show ∀ j, 0 ≤ eyN_8 j ∧ eyN_8 j ≤ 59 from by assumption), (show ∀ j, 0 ≤ elN_9 j ∧ elN_9 j ≤ 999 from by assumption), (show ∀ j, 0 ≤ blN_10 j ∧ blN_10 j ≤ 999 from by assumption)⟩⟩, by rw [ht_]; exact hP, va_K.moved hW_.alike hK, hD⟩, hS.F ht_⟩) hS.2.2 dX6_tell_63
set_option maxHeartbeats 1000000 in
set_option maxRecDepth 100000 in
theorem c_X6_watch_vB (l : Launch) (D : va_G) (cyI cyJ cyO : ClassId) (qW : Nat) (qT : Nat) (qA : Nat) (qK : Nat) (qC : Nat) (qE : Nat) (qI : Nat) (qF : Nat) (qH : Nat) (qO : Nat) (fi : Int) (f9 : Int) (g9 : Int) (v : Int) (h_f9 : -2147483648 ≤ f9 ∧ f9 ≤ 2147483647) (h_g9 : -2147483648 ≤ g9 ∧ g9 ≤ 2147483647) (h_v : -2147483648 ≤ v ∧ v ≤ 2147483647) (h_ok : ¬ ((0 ≤ f9 ∧ f9 < 60) ∧ (0 ≤ g9 ∧ g9 < 60) ∧ f9 ≤ g9 ∧ 0 < v ∧ v ≤ 999)) : Met l yX6_watch wsX6_watch ({ frames := 1, cells := 0, slots := 0, locals := 20 }) (va_Pc [.ref qW, .int (iI (f9)), .int (iI (g9)), .int (iI (v))] (xR D vwCl [(qW, .inr (6, [.ref qT, .ref qA, .ref qK, .ref qC, .ref qE, .ref qI, .ref qF, .ref qH, .ref qO, .int (iI (fi))]))] (xT cyI cyJ cyO))) (xq (some (.int (iI (-2))))) 0 0 (fun _ => False) := by
  refine Met.ofW (cc := cX6_watch) (maxL := 4) (ret := (some .int)) (by decide) rfl ?_
  intro p e s m args below meth c s₁ B hml hv
  obtain ⟨rfl, hP, hK⟩ := hv
  have hx := B.exec
  have hb := B.bytes
  have hr := B.returns
  have hts := atoms_spec (ws := wsX6_watch) B.pre
  have hown : s.vm.findClass RX6 = some m.cls := findClass_of_methodNamed B.named
  have hlocks := B.notSynchronized
  have hP : va_P D vwCl [(qW, .inr (6, [.ref qT, .ref qA, .ref qK, .ref qC, .ref qE, .ref qI, .ref qF, .ref qH, .ref qO, .int (iI (fi))]))] s.heap := hP
  have hl := lv_entry ([.ref qW, .int (iI (f9)), .int (iI (g9)), .int (iI (v))]) (n := 4) (Nat.le_of_ble_eq_true rfl)
  rw [lg_entry_eq]
  generalize (lg_sl ([.ref qW, .int (iI (f9)), .int (iI (g9)), .int (iI (v))]) ++ List.replicate (4 - (lg_sl ([.ref qW, .int (iI (f9)), .int (iI (g9)), .int (iI (v))])).length) Slot.unset).toArray = ls at hl ⊢
  have hl : lv_has ls 4 [(0, .ref qW), (1, .int (iI (f9))), (2, .int (iI (g9))), (3, .int (iI (v)))] := hl
  refine lv_iload_n hx hb dX6_watch_0 rfl (lv_at hl 1 rfl) ?_
  have hPc := hP.sub (ws' := []) [] rfl
  refine xc_i (va_runS (As := [.int (iI (f9))]) (rest := []) ⟨hx, hb, hml, hown, hts⟩ (c_X6_isYear l D cyI cyJ cyO f9 (by first | exact h_y | assumption | omega)) (va_cwS 1 hts gX6_watch_X6_isYear rfl rfl rfl (by decide +kernel) ⟨Nat.le_of_ble_eq_true rfl, Nat.le_of_ble_eq_true rfl⟩) (xpS hPc hK) rfl rfl hl.1 rfl (lv_room (Nat.le_of_ble_eq_true rfl)) dX6_watch_1 ⟨Nat.le_of_ble_eq_true rfl, Nat.le_of_ble_eq_true rfl⟩) ?_
  refine xb_if_eqB (tgt := 30) hx hb dX6_watch_4 (by decide) (fun h_1 => ?_) (fun h_1 => ?_)
  · refine xi_bipush hx hb dX6_watch_30 (by decide +kernel) ?_
    exact W.iret (v := iI (-2)) hx hb hr (fun t_ ht_ _ => ⟨congrArg (fun z => Outcome.returned (some (Value.int (iI z)))) rfl, ht_⟩) (fun _ h9 => absurd h9 List.not_mem_nil) dX6_watch_32
  · refine lv_iload_n hx hb dX6_watch_7 rfl (lv_at hl 2 rfl) ?_
    have hPc := hP.sub (ws' := []) [] rfl
    refine xc_i (va_runS (As := [.int (iI (g9))]) (rest := []) ⟨hx, hb, hml, hown, hts⟩ (c_X6_isYear l D cyI cyJ cyO g9 (by first | exact h_y | assumption | omega)) (va_cwS 1 hts gX6_watch_X6_isYear rfl rfl rfl (by decide +kernel) ⟨Nat.le_of_ble_eq_true rfl, Nat.le_of_ble_eq_true rfl⟩) (xpS hPc hK) rfl rfl hl.1 rfl (lv_room (Nat.le_of_ble_eq_true rfl)) dX6_watch_8 ⟨Nat.le_of_ble_eq_true rfl, Nat.le_of_ble_eq_true rfl⟩) ?_
    refine xb_if_eqB (tgt := 30) hx hb dX6_watch_11 (by decide) (fun h_2 => ?_) (fun h_2 => ?_)
    · refine xi_bipush hx hb dX6_watch_30 (by decide +kernel) ?_
      exact W.iret (v := iI (-2)) hx hb hr (fun t_ ht_ _ => ⟨congrArg (fun z => Outcome.returned (some (Value.int (iI z)))) rfl, ht_⟩) (fun _ h9 => absurd h9 List.not_mem_nil) dX6_watch_32
    · refine lv_iload_n hx hb dX6_watch_14 rfl (lv_at hl 2 rfl) ?_
      refine lv_iload_n hx hb dX6_watch_15 rfl (lv_at hl 1 rfl) ?_
      refine xb_icmp_lt (tgt := 30) hx hb dX6_watch_16 (by decide) (by omega) (fun h_3 => ?_) (fun h_3 => ?_)
      · refine xi_bipush hx hb dX6_watch_30 (by decide +kernel) ?_
        exact W.iret (v := iI (-2)) hx hb hr (fun t_ ht_ _ => ⟨congrArg (fun z => Outcome.returned (some (Value.int (iI z)))) rfl, ht_⟩) (fun _ h9 => absurd h9 List.not_mem_nil) dX6_watch_32
      · refine lv_iload_n hx hb dX6_watch_19 rfl (lv_at hl 3 rfl) ?_
        have hPc := hP.sub (ws' := []) [] rfl
        refine xc_i (va_runS (As := [.int (iI (v))]) (rest := []) ⟨hx, hb, hml, hown, hts⟩ (c_X6_isLevel l D cyI cyJ cyO v (by first | exact h_y | assumption | omega)) (va_cwS 1 hts gX6_watch_X6_isLevel rfl rfl rfl (by decide +kernel) ⟨Nat.le_of_ble_eq_true rfl, Nat.le_of_ble_eq_true rfl⟩) (xpS hPc hK) rfl rfl hl.1 rfl (lv_room (Nat.le_of_ble_eq_true rfl)) dX6_watch_20 ⟨Nat.le_of_ble_eq_true rfl, Nat.le_of_ble_eq_true rfl⟩) ?_
        refine xb_if_eqB (tgt := 30) hx hb dX6_watch_23 (by decide) (fun h_4 => ?_) (fun h_4 => ?_)
        · refine xi_bipush hx hb dX6_watch_30 (by decide +kernel) ?_
          exact W.iret (v := iI (-2)) hx hb hr (fun t_ ht_ _ => ⟨congrArg (fun z => Outcome.returned (some (Value.int (iI z)))) rfl, ht_⟩) (fun _ h9 => absurd h9 List.not_mem_nil) dX6_watch_32
        · refine lv_iload_n hx hb dX6_watch_26 rfl (lv_at hl 3 rfl) ?_
          refine xb_if_ne (tgt := 33) hx hb dX6_watch_27 (by decide) (by omega) (fun h_5 => by exfalso; omega) (fun h_5 => ?_)
          refine xi_bipush hx hb dX6_watch_30 (by decide +kernel) ?_
          exact W.iret (v := iI (-2)) hx hb hr (fun t_ ht_ _ => ⟨congrArg (fun z => Outcome.returned (some (Value.int (iI z)))) rfl, ht_⟩) (fun _ h9 => absurd h9 List.not_mem_nil) dX6_watch_32
set_option maxHeartbeats 1000000 in
set_option maxRecDepth 100000 in
theorem c_X6_watch_vF (l : Launch) (D : va_G) (cyI cyJ cyO : ClassId) (qW : Nat) (qT : Nat) (qA : Nat) (qK : Nat) (qC : Nat) (qE : Nat) (qI : Nat) (qF : Nat) (qH : Nat) (qO : Nat) (fi : Int) (qAf : Nat) (qAt : Nat) (qAl : Nat) (wn : Int) (f9 : Int) (g9 : Int) (v : Int) (h_wn : 0 ≤ wn ∧ wn ≤ 6) (h_f9 : -2147483648 ≤ f9 ∧ f9 ≤ 2147483647) (h_g9 : -2147483648 ≤ g9 ∧ g9 ≤ 2147483647) (h_v : -2147483648 ≤ v ∧ v ≤ 2147483647) (h_ok : (0 ≤ f9 ∧ f9 < 60) ∧ (0 ≤ g9 ∧ g9 < 60) ∧ f9 ≤ g9 ∧ 0 < v ∧ v ≤ 999) (h_full : wn = 6) : Met l yX6_watch wsX6_watch ({ frames := 1, cells := 0, slots := 0, locals := 20 }) (va_Pc [.ref qW, .int (iI (f9)), .int (iI (g9)), .int (iI (v))] (xR D vwCl [(qW, .inr (6, [.ref qT, .ref qA, .ref qK, .ref qC, .ref qE, .ref qI, .ref qF, .ref qH, .ref qO, .int (iI (fi))])), (qA, .inr (5, [.ref qAf, .ref qAt, .ref qAl, .int (iI (wn))]))] (xT cyI cyJ cyO))) (xq (some (.int (iI (-4))))) 0 0 (fun _ => False) := by
  refine Met.ofW (cc := cX6_watch) (maxL := 4) (ret := (some .int)) (by decide) rfl ?_
  intro p e s m args below meth c s₁ B hml hv
  obtain ⟨rfl, hP, hK⟩ := hv
  have hx := B.exec
  have hb := B.bytes
  have hr := B.returns
  have hts := atoms_spec (ws := wsX6_watch) B.pre
  have hown : s.vm.findClass RX6 = some m.cls := findClass_of_methodNamed B.named
  have hlocks := B.notSynchronized
  have hcX6 : ∀ w ∈ wsX60, w ∈ wsX6_watch := fun _ h => List.mem_cons_of_mem _ (List.mem_append_left _ (List.mem_append_left _ (List.mem_append_left _ (List.mem_append_left _ (List.mem_append_right _ h)))))
  have hP : va_P D vwCl [(qW, .inr (6, [.ref qT, .ref qA, .ref qK, .ref qC, .ref qE, .ref qI, .ref qF, .ref qH, .ref qO, .int (iI (fi))])), (qA, .inr (5, [.ref qAf, .ref qAt, .ref qAl, .int (iI (wn))]))] s.heap := hP
  have hl := lv_entry ([.ref qW, .int (iI (f9)), .int (iI (g9)), .int (iI (v))]) (n := 4) (Nat.le_of_ble_eq_true rfl)
  rw [lg_entry_eq]
  generalize (lg_sl ([.ref qW, .int (iI (f9)), .int (iI (g9)), .int (iI (v))]) ++ List.replicate (4 - (lg_sl ([.ref qW, .int (iI (f9)), .int (iI (g9)), .int (iI (v))])).length) Slot.unset).toArray = ls at hl ⊢
  have hl : lv_has ls 4 [(0, .ref qW), (1, .int (iI (f9))), (2, .int (iI (g9))), (3, .int (iI (v)))] := hl
  refine lv_iload_n hx hb dX6_watch_0 rfl (lv_at hl 1 rfl) ?_
  have hPc := hP.sub (ws' := []) [] rfl
  refine xc_i (va_runS (As := [.int (iI (f9))]) (rest := []) ⟨hx, hb, hml, hown, hts⟩ (c_X6_isYear l D cyI cyJ cyO f9 (by first | exact h_y | assumption | omega)) (va_cwS 1 hts gX6_watch_X6_isYear rfl rfl rfl (by decide +kernel) ⟨Nat.le_of_ble_eq_true rfl, Nat.le_of_ble_eq_true rfl⟩) (xpS hPc hK) rfl rfl hl.1 rfl (lv_room (Nat.le_of_ble_eq_true rfl)) dX6_watch_1 ⟨Nat.le_of_ble_eq_true rfl, Nat.le_of_ble_eq_true rfl⟩) ?_
  refine xb_if_eqB (tgt := 30) hx hb dX6_watch_4 (by decide) (fun h_1 => by exfalso; omega) (fun h_1 => ?_)
  refine lv_iload_n hx hb dX6_watch_7 rfl (lv_at hl 2 rfl) ?_
  have hPc := hP.sub (ws' := []) [] rfl
  refine xc_i (va_runS (As := [.int (iI (g9))]) (rest := []) ⟨hx, hb, hml, hown, hts⟩ (c_X6_isYear l D cyI cyJ cyO g9 (by first | exact h_y | assumption | omega)) (va_cwS 1 hts gX6_watch_X6_isYear rfl rfl rfl (by decide +kernel) ⟨Nat.le_of_ble_eq_true rfl, Nat.le_of_ble_eq_true rfl⟩) (xpS hPc hK) rfl rfl hl.1 rfl (lv_room (Nat.le_of_ble_eq_true rfl)) dX6_watch_8 ⟨Nat.le_of_ble_eq_true rfl, Nat.le_of_ble_eq_true rfl⟩) ?_
  refine xb_if_eqB (tgt := 30) hx hb dX6_watch_11 (by decide) (fun h_2 => by exfalso; omega) (fun h_2 => ?_)
  refine lv_iload_n hx hb dX6_watch_14 rfl (lv_at hl 2 rfl) ?_
  refine lv_iload_n hx hb dX6_watch_15 rfl (lv_at hl 1 rfl) ?_
  refine xb_icmp_lt (tgt := 30) hx hb dX6_watch_16 (by decide) (by omega) (fun h_3 => by exfalso; omega) (fun h_3 => ?_)
  refine lv_iload_n hx hb dX6_watch_19 rfl (lv_at hl 3 rfl) ?_
  have hPc := hP.sub (ws' := []) [] rfl
  refine xc_i (va_runS (As := [.int (iI (v))]) (rest := []) ⟨hx, hb, hml, hown, hts⟩ (c_X6_isLevel l D cyI cyJ cyO v (by first | exact h_y | assumption | omega)) (va_cwS 1 hts gX6_watch_X6_isLevel rfl rfl rfl (by decide +kernel) ⟨Nat.le_of_ble_eq_true rfl, Nat.le_of_ble_eq_true rfl⟩) (xpS hPc hK) rfl rfl hl.1 rfl (lv_room (Nat.le_of_ble_eq_true rfl)) dX6_watch_20 ⟨Nat.le_of_ble_eq_true rfl, Nat.le_of_ble_eq_true rfl⟩) ?_
  refine xb_if_eqB (tgt := 30) hx hb dX6_watch_23 (by decide) (fun h_4 => by exfalso; omega) (fun h_4 => ?_)
  refine lv_iload_n hx hb dX6_watch_26 rfl (lv_at hl 3 rfl) ?_
  refine xb_if_ne (tgt := 33) hx hb dX6_watch_27 (by decide) (by omega) (fun h_5 => ?_) (fun h_5 => by exfalso; omega)
  refine lv_aload_n hx hb dX6_watch_33 rfl (lv_at hl 0 rfl) ?_
  refine va_get (D := D) (ci := 6) (C := RX6) (T := TX6) (N := 10) hx hb hts hcX6 hown hK hP 0 rfl rfl 1 (by decide) (hts (.fieldLink RX6 19 "WallMarks" "watches" "LWallMarks$Watches;") (List.mem_of_getElem? (i := 1) (by decide +kernel))) (fun _ h9 => h9) rfl dX6_watch_34 ?_
  have hPc := hP.sub (ws' := [(qA, .inr (5, [.ref qAf, .ref qAt, .ref qAl, .int (iI (wn))]))]) [1] rfl
  refine xc_i (va_runV (As := []) (rest := []) ⟨hx, hb, hml, hown, hts⟩ (c_X5_hasRoom l D cyI cyJ cyO qA qAf qAt qAl wn (by first | exact h_wn | assumption | omega)) (cwV 0 hts gX6_watch_X5_hasRoom rfl rfl rfl (by decide +kernel) ⟨Nat.le_of_ble_eq_true rfl, Nat.le_of_ble_eq_true rfl⟩) (xpV hPc hK (ci := 5) (q0 := 0) (q := (RX5, TX5, 4)) rfl rfl) rfl rfl hl.1 rfl (lv_room (Nat.le_of_ble_eq_true rfl)) dX6_watch_37 ⟨Nat.le_of_ble_eq_true rfl, Nat.le_of_ble_eq_true rfl⟩) ?_
  refine xb_if_neB (tgt := 46) hx hb dX6_watch_40 (by decide) (fun h_6 => by exfalso; omega) (fun h_6 => ?_)
  refine xi_bipush hx hb dX6_watch_43 (by decide +kernel) ?_
  exact W.iret (v := iI (-4)) hx hb hr (fun t_ ht_ _ => ⟨congrArg (fun z => Outcome.returned (some (Value.int (iI z)))) rfl, ht_⟩) (fun _ h9 => absurd h9 List.not_mem_nil) dX6_watch_45
set_option maxHeartbeats 1000000 in
set_option maxRecDepth 100000 in
theorem c_X6_watch_vK (l : Launch) (D : va_G) (cyI cyJ cyO : ClassId) (qW : Nat) (qT : Nat) (qA : Nat) (qK : Nat) (qC : Nat) (qE : Nat) (qI : Nat) (qF : Nat) (qH : Nat) (qO : Nat) (fi : Int) (qTy : Nat) (qTk : Nat) (qTl : Nat) (qTt : Nat) (tn : Int) (tm : Int) (ty : Int → Int) (tk : Int → Int) (tl : Int → Int) (tt : Int → Int) (se : Int → Int) (qKk : Nat) (qKl : Nat) (kk : Int → Int) (kl : Int → Int) (qAf : Nat) (qAt : Nat) (qAl : Nat) (wn : Int) (wf : Int → Int) (wt : Int → Int) (wl : Int → Int) (qCy : Nat) (qCl : Nat) (qCb : Nat) (ex : Int) (be : Int) (op : Int) (es : Int) (ge : Int) (rc : Int) (lr : Int) (lw : Int) (ey : Int → Int) (el : Int → Int) (bl : Int → Int) (sz : Nat) (f9 : Int) (g9 : Int) (v : Int) (h_tn : 0 ≤ tn ∧ tn ≤ 120) (h_ty : ∀ j, 0 ≤ ty j ∧ ty j ≤ 59) (h_tk : ∀ j, 0 ≤ tk j ∧ tk j ≤ 2) (h_tv : ∀ j, tk j ≠ 2 → 0 ≤ tl j ∧ tl j ≤ 999) (h_tl : ∀ j, -2147483648 ≤ tl j ∧ tl j ≤ 2147483647) (h_tt : ∀ j, 0 ≤ tt j ∧ tt j ≤ 999) (h_se : ∀ j, -2147483648 ≤ se j ∧ se j ≤ 2147483647) (h_wn : 0 ≤ wn ∧ wn ≤ 6) (h_wf : ∀ j, 0 ≤ wf j ∧ wf j ≤ 59) (h_wt : ∀ j, 0 ≤ wt j ∧ wt j ≤ 59) (h_wl : ∀ j, 0 ≤ wl j ∧ wl j ≤ 999) (h_ey : ∀ j, 0 ≤ ey j ∧ ey j ≤ 59) (h_el : ∀ j, 0 ≤ el j ∧ el j ≤ 999) (h_bl : ∀ j, 0 ≤ bl j ∧ bl j ≤ 999) (h_f9 : -2147483648 ≤ f9 ∧ f9 ≤ 2147483647) (h_g9 : -2147483648 ≤ g9 ∧ g9 ≤ 2147483647) (h_v : -2147483648 ≤ v ∧ v ≤ 2147483647) (h_ok : (0 ≤ f9 ∧ f9 < 60) ∧ (0 ≤ g9 ∧ g9 < 60) ∧ f9 ≤ g9 ∧ 0 < v ∧ v ≤ 999) (h_full : wn < 6) : Met l yX6_watch wsX6_watch ({ frames := 5, cells := 0, slots := 0, locals := 115 }) (va_Pc [.ref qW, .int (iI (f9)), .int (iI (g9)), .int (iI (v))] (xMN D vwCl [(qW, .inr (6, [.ref qT, .ref qA, .ref qK, .ref qC, .ref qE, .ref qI, .ref qF, .ref qH, .ref qO, .int (iI (fi))])), (qT, .inr (4, [.ref qTy, .ref qTk, .ref qTl, .ref qTt, .int (iI (tn)), .int (iI (tm))])), (qTy, .inl (cyI, 120, .inl (xA (ty)))), (qTk, .inl (cyI, 120, .inl (xA (tk)))), (qTl, .inl (cyI, 120, .inl (xA (tl)))), (qTt, .inl (cyI, 120, .inl (xA (tt)))), (qE, .inl (cyI, 6, .inl (xA (se)))), (qK, .inr (2, [.ref qKk, .ref qKl])), (qKk, .inl (cyI, 60, .inl (xA (kk)))), (qKl, .inl (cyI, 60, .inl (xA (kl)))), (qA, .inr (5, [.ref qAf, .ref qAt, .ref qAl, .int (iI (wn))])), (qAf, .inl (cyI, 6, .inl (xA (wf)))), (qAt, .inl (cyI, 6, .inl (xA (wt)))), (qAl, .inl (cyI, 6, .inl (xA (wl)))), (qC, .inr (0, [.ref qCy, .ref qCl, .ref qCb, .int (iI (ex)), .int (iI (be)), .int (iI (op)), .int (iI (es)), .int (iI (ge)), .int (iI (rc)), .int (iI (lr)), .int (iI (lw))])), (qCy, .inl (cyI, 60, .inl (xA (ey)))), (qCl, .inl (cyI, 60, .inl (xA (el)))), (qCb, .inl (cyI, 60, .inl (xA (bl))))] (xT cyI cyJ cyO) sz nsK)) (va_Qi (fun (r : Int32) (u : (Int → Int) × (Int → Int) × (Int → Int)) => r = iI (wn) ∧ (rowR (PX (KKf ty tk tl tt tn (uz wf wn f9) (uz wt wn g9) (uz wl wn v) (wn + 1) se) (se 1) (se 2) 0) (u.1) (u.2.1) (KLf ty tk tl tt tn (uz wf wn f9) (uz wt wn g9) (uz wl wn v) (wn + 1) se) 60) ∧ (rowB (PX (KKf ty tk tl tt tn (uz wf wn f9) (uz wt wn g9) (uz wl wn v) (wn + 1) se) (se 1) (se 2) 1) (u.2.2) (KLf ty tk tl tt tn (uz wf wn f9) (uz wt wn g9) (uz wl wn v) (wn + 1) se) 60) ∧ (∀ j, 0 ≤ (u.1) j ∧ (u.1) j ≤ 59) ∧ (∀ j, 0 ≤ (u.2.1) j ∧ (u.2.1) j ≤ 999) ∧ (∀ j, 0 ≤ (u.2.2) j ∧ (u.2.2) j ≤ 999)) (xB D vwCl (xT cyI cyJ cyO) (va_A [(qW, .inr (6, [.ref qT, .ref qA, .ref qK, .ref qC, .ref qE, .ref qI, .ref qF, .ref qH, .ref qO, .int (iI (fi))])), (qT, .inr (4, [.ref qTy, .ref qTk, .ref qTl, .ref qTt, .int (iI (tn)), .int (iI (tm))])), (qTy, .inl (cyI, 120, .inl (xA (ty)))), (qTk, .inl (cyI, 120, .inl (xA (tk)))), (qTl, .inl (cyI, 120, .inl (xA (tl)))), (qTt, .inl (cyI, 120, .inl (xA (tt)))), (qE, .inl (cyI, 6, .inl (xA (se)))), (qK, .inr (2, [.ref qKk, .ref qKl])), (qKk, .inl (cyI, 60, .inl (xA (kk)))), (qKl, .inl (cyI, 60, .inl (xA (kl)))), (qA, .inr (5, [.ref qAf, .ref qAt, .ref qAl, .int (iI (wn))])), (qAf, .inl (cyI, 6, .inl (xA (wf)))), (qAt, .inl (cyI, 6, .inl (xA (wt)))), (qAl, .inl (cyI, 6, .inl (xA (wl)))), (qC, .inr (0, [.ref qCy, .ref qCl, .ref qCb, .int (iI (ex)), .int (iI (be)), .int (iI (op)), .int (iI (es)), .int (iI (ge)), .int (iI (rc)), .int (iI (lr)), .int (iI (lw))])), (qCy, .inl (cyI, 60, .inl (xA (ey)))), (qCl, .inl (cyI, 60, .inl (xA (el)))), (qCb, .inl (cyI, 60, .inl (xA (bl))))] sz) (fun u : (Int → Int) × (Int → Int) × (Int → Int) => [(qW, .inr (6, [.ref qT, .ref qA, .ref qK, .ref qC, .ref qE, .ref qI, .ref qF, .ref qH, .ref qO, .int (iI (fi))])), (qT, .inr (4, [.ref qTy, .ref qTk, .ref qTl, .ref qTt, .int (iI (tn)), .int (iI (tm))])), (qTy, .inl (cyI, 120, .inl (xA (ty)))), (qTk, .inl (cyI, 120, .inl (xA (tk)))), (qTl, .inl (cyI, 120, .inl (xA (tl)))), (qTt, .inl (cyI, 120, .inl (xA (tt)))), (qE, .inl (cyI, 6, .inl (xA (se)))), (qK, .inr (2, [.ref qKk, .ref qKl])), (qKk, .inl (cyI, 60, .inl (xA ((KKf ty tk tl tt tn (uz wf wn f9) (uz wt wn g9) (uz wl wn v) (wn + 1) se))))), (qKl, .inl (cyI, 60, .inl (xA ((KLf ty tk tl tt tn (uz wf wn f9) (uz wt wn g9) (uz wl wn v) (wn + 1) se))))), (qA, .inr (5, [.ref qAf, .ref qAt, .ref qAl, .int (iI (wn + 1))])), (qAf, .inl (cyI, 6, .inl (xA (uz wf wn f9)))), (qAt, .inl (cyI, 6, .inl (xA (uz wt wn g9)))), (qAl, .inl (cyI, 6, .inl (xA (uz wl wn v)))), (qC, .inr (0, [.ref qCy, .ref qCl, .ref qCb, .int (iI (cntZ (PX (KKf ty tk tl tt tn (uz wf wn f9) (uz wt wn g9) (uz wl wn v) (wn + 1) se) (se 1) (se 2) 0) 60)), .int (iI (cntZ (PX (KKf ty tk tl tt tn (uz wf wn f9) (uz wt wn g9) (uz wl wn v) (wn + 1) se) (se 1) (se 2) 1) 60)), .int (iI (cntZ (PX (KKf ty tk tl tt tn (uz wf wn f9) (uz wt wn g9) (uz wl wn v) (wn + 1) se) (se 1) (se 2) 2) 60)), .int (iI (sumZ (exL (KKf ty tk tl tt tn (uz wf wn f9) (uz wt wn g9) (uz wl wn v) (wn + 1) se) (KLf ty tk tl tt tn (uz wf wn f9) (uz wt wn g9) (uz wl wn v) (wn + 1) se) (se 1) (se 2)) 60)), .int (iI ((recF (KKf ty tk tl tt tn (uz wf wn f9) (uz wt wn g9) (uz wl wn v) (wn + 1) se) (KLf ty tk tl tt tn (uz wf wn f9) (uz wt wn g9) (uz wl wn v) (wn + 1) se) (se 1) (se 2) 60).1)), .int (iI ((recF (KKf ty tk tl tt tn (uz wf wn f9) (uz wt wn g9) (uz wl wn v) (wn + 1) se) (KLf ty tk tl tt tn (uz wf wn f9) (uz wt wn g9) (uz wl wn v) (wn + 1) se) (se 1) (se 2) 60).2.1)), .int (iI ((recF (KKf ty tk tl tt tn (uz wf wn f9) (uz wt wn g9) (uz wl wn v) (wn + 1) se) (KLf ty tk tl tt tn (uz wf wn f9) (uz wt wn g9) (uz wl wn v) (wn + 1) se) (se 1) (se 2) 60).2.2.1)), .int (iI ((recF (KKf ty tk tl tt tn (uz wf wn f9) (uz wt wn g9) (uz wl wn v) (wn + 1) se) (KLf ty tk tl tt tn (uz wf wn f9) (uz wt wn g9) (uz wl wn v) (wn + 1) se) (se 1) (se 2) 60).2.2.2))])), (qCy, .inl (cyI, 60, .inl (xA ((u.1))))), (qCl, .inl (cyI, 60, .inl (xA ((u.2.1))))), (qCb, .inl (cyI, 60, .inl (xA ((u.2.2)))))])) (va_A [(qW, .inr (6, [.ref qT, .ref qA, .ref qK, .ref qC, .ref qE, .ref qI, .ref qF, .ref qH, .ref qO, .int (iI (fi))])), (qT, .inr (4, [.ref qTy, .ref qTk, .ref qTl, .ref qTt, .int (iI (tn)), .int (iI (tm))])), (qTy, .inl (cyI, 120, .inl (xA (ty)))), (qTk, .inl (cyI, 120, .inl (xA (tk)))), (qTl, .inl (cyI, 120, .inl (xA (tl)))), (qTt, .inl (cyI, 120, .inl (xA (tt)))), (qE, .inl (cyI, 6, .inl (xA (se)))), (qK, .inr (2, [.ref qKk, .ref qKl])), (qKk, .inl (cyI, 60, .inl (xA (kk)))), (qKl, .inl (cyI, 60, .inl (xA (kl)))), (qA, .inr (5, [.ref qAf, .ref qAt, .ref qAl, .int (iI (wn))])), (qAf, .inl (cyI, 6, .inl (xA (wf)))), (qAt, .inl (cyI, 6, .inl (xA (wt)))), (qAl, .inl (cyI, 6, .inl (xA (wl)))), (qC, .inr (0, [.ref qCy, .ref qCl, .ref qCb, .int (iI (ex)), .int (iI (be)), .int (iI (op)), .int (iI (es)), .int (iI (ge)), .int (iI (rc)), .int (iI (lr)), .int (iI (lw))])), (qCy, .inl (cyI, 60, .inl (xA (ey)))), (qCl, .inl (cyI, 60, .inl (xA (el)))), (qCb, .inl (cyI, 60, .inl (xA (bl))))] sz)) 0 0 (va_A [(qW, .inr (6, [.ref qT, .ref qA, .ref qK, .ref qC, .ref qE, .ref qI, .ref qF, .ref qH, .ref qO, .int (iI (fi))])), (qT, .inr (4, [.ref qTy, .ref qTk, .ref qTl, .ref qTt, .int (iI (tn)), .int (iI (tm))])), (qTy, .inl (cyI, 120, .inl (xA (ty)))), (qTk, .inl (cyI, 120, .inl (xA (tk)))), (qTl, .inl (cyI, 120, .inl (xA (tl)))), (qTt, .inl (cyI, 120, .inl (xA (tt)))), (qE, .inl (cyI, 6, .inl (xA (se)))), (qK, .inr (2, [.ref qKk, .ref qKl])), (qKk, .inl (cyI, 60, .inl (xA (kk)))), (qKl, .inl (cyI, 60, .inl (xA (kl)))), (qA, .inr (5, [.ref qAf, .ref qAt, .ref qAl, .int (iI (wn))])), (qAf, .inl (cyI, 6, .inl (xA (wf)))), (qAt, .inl (cyI, 6, .inl (xA (wt)))), (qAl, .inl (cyI, 6, .inl (xA (wl)))), (qC, .inr (0, [.ref qCy, .ref qCl, .ref qCb, .int (iI (ex)), .int (iI (be)), .int (iI (op)), .int (iI (es)), .int (iI (ge)), .int (iI (rc)), .int (iI (lr)), .int (iI (lw))])), (qCy, .inl (cyI, 60, .inl (xA (ey)))), (qCl, .inl (cyI, 60, .inl (xA (el)))), (qCb, .inl (cyI, 60, .inl (xA (bl))))] sz) := by
  refine Met.ofW (cc := cX6_watch) (maxL := 4) (ret := (some .int)) (by decide) rfl ?_
  intro p e s m args below meth c s₁ B hml hv
  obtain ⟨rfl, ⟨hsz, hP, hK, hD0⟩, hN⟩ := hv
  have hx := B.exec
  have hb := B.bytes
  have hr := B.returns
  have hts := atoms_spec (ws := wsX6_watch) B.pre
  have hown : s.vm.findClass RX6 = some m.cls := findClass_of_methodNamed B.named
  have hlocks := B.notSynchronized
  have hcX5 : ∀ w ∈ wsX50, w ∈ wsX6_watch := fun _ h => List.mem_cons_of_mem _ (List.mem_append_left _ (List.mem_append_left _ (List.mem_append_left _ (List.mem_append_right _ h))))
  have hcX6 : ∀ w ∈ wsX60, w ∈ wsX6_watch := fun _ h => List.mem_cons_of_mem _ (List.mem_append_left _ (List.mem_append_left _ (List.mem_append_left _ (List.mem_append_left _ (List.mem_append_right _ h)))))
  subst hsz
  have hD := hD0.self (sz := s.heap.size)
  generalize hAe : va_A [(qW, .inr (6, [.ref qT, .ref qA, .ref qK, .ref qC, .ref qE, .ref qI, .ref qF, .ref qH, .ref qO, .int (iI (fi))])), (qT, .inr (4, [.ref qTy, .ref qTk, .ref qTl, .ref qTt, .int (iI (tn)), .int (iI (tm))])), (qTy, .inl (cyI, 120, .inl (xA (ty)))), (qTk, .inl (cyI, 120, .inl (xA (tk)))), (qTl, .inl (cyI, 120, .inl (xA (tl)))), (qTt, .inl (cyI, 120, .inl (xA (tt)))), (qE, .inl (cyI, 6, .inl (xA (se)))), (qK, .inr (2, [.ref qKk, .ref qKl])), (qKk, .inl (cyI, 60, .inl (xA (kk)))), (qKl, .inl (cyI, 60, .inl (xA (kl)))), (qA, .inr (5, [.ref qAf, .ref qAt, .ref qAl, .int (iI (wn))])), (qAf, .inl (cyI, 6, .inl (xA (wf)))), (qAt, .inl (cyI, 6, .inl (xA (wt)))), (qAl, .inl (cyI, 6, .inl (xA (wl)))), (qC, .inr (0, [.ref qCy, .ref qCl, .ref qCb, .int (iI (ex)), .int (iI (be)), .int (iI (op)), .int (iI (es)), .int (iI (ge)), .int (iI (rc)), .int (iI (lr)), .int (iI (lw))])), (qCy, .inl (cyI, 60, .inl (xA (ey)))), (qCl, .inl (cyI, 60, .inl (xA (el)))), (qCb, .inl (cyI, 60, .inl (xA (bl))))] s.heap.size = A at hD ⊢
  have hA : ∀ q : Nat, s.heap.size ≤ q → A q := fun q h => by rw [← hAe]; exact Or.inr h
  have hS : va_S A s.heap s.heap [] := va_S.rf
  have hP : va_P D vwCl [(qW, .inr (6, [.ref qT, .ref qA, .ref qK, .ref qC, .ref qE, .ref qI, .ref qF, .ref qH, .ref qO, .int (iI (fi))])), (qT, .inr (4, [.ref qTy, .ref qTk, .ref qTl, .ref qTt, .int (iI (tn)), .int (iI (tm))])), (qTy, .inl (cyI, 120, .inl (xA (ty)))), (qTk, .inl (cyI, 120, .inl (xA (tk)))), (qTl, .inl (cyI, 120, .inl (xA (tl)))), (qTt, .inl (cyI, 120, .inl (xA (tt)))), (qE, .inl (cyI, 6, .inl (xA (se)))), (qK, .inr (2, [.ref qKk, .ref qKl])), (qKk, .inl (cyI, 60, .inl (xA (kk)))), (qKl, .inl (cyI, 60, .inl (xA (kl)))), (qA, .inr (5, [.ref qAf, .ref qAt, .ref qAl, .int (iI (wn))])), (qAf, .inl (cyI, 6, .inl (xA (wf)))), (qAt, .inl (cyI, 6, .inl (xA (wt)))), (qAl, .inl (cyI, 6, .inl (xA (wl)))), (qC, .inr (0, [.ref qCy, .ref qCl, .ref qCb, .int (iI (ex)), .int (iI (be)), .int (iI (op)), .int (iI (es)), .int (iI (ge)), .int (iI (rc)), .int (iI (lr)), .int (iI (lw))])), (qCy, .inl (cyI, 60, .inl (xA (ey)))), (qCl, .inl (cyI, 60, .inl (xA (el)))), (qCb, .inl (cyI, 60, .inl (xA (bl))))] s.heap := hP
  have hl := lv_entry ([.ref qW, .int (iI (f9)), .int (iI (g9)), .int (iI (v))]) (n := 4) (Nat.le_of_ble_eq_true rfl)
  rw [lg_entry_eq]
  generalize (lg_sl ([.ref qW, .int (iI (f9)), .int (iI (g9)), .int (iI (v))]) ++ List.replicate (4 - (lg_sl ([.ref qW, .int (iI (f9)), .int (iI (g9)), .int (iI (v))])).length) Slot.unset).toArray = ls at hl ⊢
  have hl : lv_has ls 4 [(0, .ref qW), (1, .int (iI (f9))), (2, .int (iI (g9))), (3, .int (iI (v)))] := hl
  refine lv_iload_n hx hb dX6_watch_0 rfl (lv_at hl 1 rfl) ?_
  have hPc := hP.sub (ws' := []) [] rfl
  refine xc_i (va_runS (As := [.int (iI (f9))]) (rest := []) ⟨hx, hb, hml, hown, hts⟩ (c_X6_isYear l D cyI cyJ cyO f9 (by first | exact h_y | assumption | omega)) (va_cwS 1 hts gX6_watch_X6_isYear rfl rfl rfl (by decide +kernel) ⟨Nat.le_of_ble_eq_true rfl, Nat.le_of_ble_eq_true rfl⟩) (xpS hPc hK) rfl rfl hl.1 rfl (lv_room (Nat.le_of_ble_eq_true rfl)) dX6_watch_1 ⟨Nat.le_of_ble_eq_true rfl, Nat.le_of_ble_eq_true rfl⟩) ?_
  refine xb_if_eqB (tgt := 30) hx hb dX6_watch_4 (by decide) (fun h_1 => by exfalso; omega) (fun h_1 => ?_)
  refine lv_iload_n hx hb dX6_watch_7 rfl (lv_at hl 2 rfl) ?_
  have hPc := hP.sub (ws' := []) [] rfl
  refine xc_i (va_runS (As := [.int (iI (g9))]) (rest := []) ⟨hx, hb, hml, hown, hts⟩ (c_X6_isYear l D cyI cyJ cyO g9 (by first | exact h_y | assumption | omega)) (va_cwS 1 hts gX6_watch_X6_isYear rfl rfl rfl (by decide +kernel) ⟨Nat.le_of_ble_eq_true rfl, Nat.le_of_ble_eq_true rfl⟩) (xpS hPc hK) rfl rfl hl.1 rfl (lv_room (Nat.le_of_ble_eq_true rfl)) dX6_watch_8 ⟨Nat.le_of_ble_eq_true rfl, Nat.le_of_ble_eq_true rfl⟩) ?_
  refine xb_if_eqB (tgt := 30) hx hb dX6_watch_11 (by decide) (fun h_2 => by exfalso; omega) (fun h_2 => ?_)
  refine lv_iload_n hx hb dX6_watch_14 rfl (lv_at hl 2 rfl) ?_
  refine lv_iload_n hx hb dX6_watch_15 rfl (lv_at hl 1 rfl) ?_
  refine xb_icmp_lt (tgt := 30) hx hb dX6_watch_16 (by decide) (by omega) (fun h_3 => by exfalso; omega) (fun h_3 => ?_)
  refine lv_iload_n hx hb dX6_watch_19 rfl (lv_at hl 3 rfl) ?_
  have hPc := hP.sub (ws' := []) [] rfl
  refine xc_i (va_runS (As := [.int (iI (v))]) (rest := []) ⟨hx, hb, hml, hown, hts⟩ (c_X6_isLevel l D cyI cyJ cyO v (by first | exact h_y | assumption | omega)) (va_cwS 1 hts gX6_watch_X6_isLevel rfl rfl rfl (by decide +kernel) ⟨Nat.le_of_ble_eq_true rfl, Nat.le_of_ble_eq_true rfl⟩) (xpS hPc hK) rfl rfl hl.1 rfl (lv_room (Nat.le_of_ble_eq_true rfl)) dX6_watch_20 ⟨Nat.le_of_ble_eq_true rfl, Nat.le_of_ble_eq_true rfl⟩) ?_
  refine xb_if_eqB (tgt := 30) hx hb dX6_watch_23 (by decide) (fun h_4 => by exfalso; omega) (fun h_4 => ?_)
  refine lv_iload_n hx hb dX6_watch_26 rfl (lv_at hl 3 rfl) ?_
  refine xb_if_ne (tgt := 33) hx hb dX6_watch_27 (by decide) (by omega) (fun h_5 => ?_) (fun h_5 => by exfalso; omega)
  refine lv_aload_n hx hb dX6_watch_33 rfl (lv_at hl 0 rfl) ?_
  refine va_get (D := D) (ci := 6) (C := RX6) (T := TX6) (N := 10) hx hb hts hcX6 hown hK hP 0 rfl rfl 1 (by decide) (hts (.fieldLink RX6 19 "WallMarks" "watches" "LWallMarks$Watches;") (List.mem_of_getElem? (i := 1) (by decide +kernel))) (fun _ h9 => h9) rfl dX6_watch_34 ?_
  have hPc := hP.sub (ws' := [(qA, .inr (5, [.ref qAf, .ref qAt, .ref qAl, .int (iI (wn))]))]) [10] rfl
  refine xc_i (va_runV (As := []) (rest := []) ⟨hx, hb, hml, hown, hts⟩ (c_X5_hasRoom l D cyI cyJ cyO qA qAf qAt qAl wn (by first | exact h_wn | assumption | omega)) (cwV 0 hts gX6_watch_X5_hasRoom rfl rfl rfl (by decide +kernel) ⟨Nat.le_of_ble_eq_true rfl, Nat.le_of_ble_eq_true rfl⟩) (xpV hPc hK (ci := 5) (q0 := 0) (q := (RX5, TX5, 4)) rfl rfl) rfl rfl hl.1 rfl (lv_room (Nat.le_of_ble_eq_true rfl)) dX6_watch_37 ⟨Nat.le_of_ble_eq_true rfl, Nat.le_of_ble_eq_true rfl⟩) ?_
  refine xb_if_neB (tgt := 46) hx hb dX6_watch_40 (by decide) (fun h_6 => ?_) (fun h_6 => by exfalso; omega)
  refine lv_aload_n hx hb dX6_watch_46 rfl (lv_at hl 0 rfl) ?_
  refine va_get (D := D) (ci := 6) (C := RX6) (T := TX6) (N := 10) hx hb hts hcX6 hown hK hP 0 rfl rfl 1 (by decide) (hts (.fieldLink RX6 19 "WallMarks" "watches" "LWallMarks$Watches;") (List.mem_of_getElem? (i := 1) (by decide +kernel))) (fun _ h9 => h9) rfl dX6_watch_47 ?_
  refine lv_iload_n hx hb dX6_watch_50 rfl (lv_at hl 1 rfl) ?_
  refine lv_iload_n hx hb dX6_watch_51 rfl (lv_at hl 2 rfl) ?_
  refine lv_iload_n hx hb dX6_watch_52 rfl (lv_at hl 3 rfl) ?_
  have hPc := hP.sub (ws' := [(qA, .inr (5, [.ref qAf, .ref qAt, .ref qAl, .int (iI (wn))])), (qAf, .inl (cyI, 6, .inl (xA (wf)))), (qAt, .inl (cyI, 6, .inl (xA (wt)))), (qAl, .inl (cyI, 6, .inl (xA (wl))))]) [10, 11, 12, 13] rfl
  have hDc := hD.sub (ws' := [(qA, .inr (5, [.ref qAf, .ref qAt, .ref qAl, .int (iI (wn))])), (qAf, .inl (cyI, 6, .inl (xA (wf)))), (qAt, .inl (cyI, 6, .inl (xA (wt)))), (qAl, .inl (cyI, 6, .inl (xA (wl))))]) [10, 11, 12, 13] (by decide) rfl
  have hFc := va_free (wc := [(qA, .inr (5, [.ref qAf, .ref qAt, .ref qAl, .int (iI (wn))])), (qAf, .inl (cyI, 6, .inl (xA (wf)))), (qAt, .inl (cyI, 6, .inl (xA (wt)))), (qAl, .inl (cyI, 6, .inl (xA (wl))))]) hD hS hA [10, 11, 12, 13] rfl
  refine va_callv (va_runV (As := [.int (iI (f9)), .int (iI (g9)), .int (iI (v))]) (rest := []) ⟨hx, hb, hml, hown, hts⟩ (c_X5_add l D cyI cyJ cyO qA qAf qAt qAl wn wf wt wl s.heap.size f9 g9 v (by first | exact h_wn | assumption | omega)) (cwV 3 hts gX6_watch_X5_add rfl rfl rfl (by decide +kernel) ⟨Nat.le_of_ble_eq_true rfl, Nat.le_of_ble_eq_true rfl⟩) (xpVM hPc hK hDc (ci := 5) (q0 := 0) (q := (RX5, TX5, 4)) rfl rfl) rfl rfl hl.1 rfl (lv_room (Nat.le_of_ble_eq_true rfl)) dX6_watch_53 ⟨Nat.le_of_ble_eq_true rfl, Nat.le_of_ble_eq_true rfl⟩) hS (fun q _ h => hFc q h) hFc (fun u_7 t_ H1 locs ht_ hvm hw hB hz1 hk1 hS => ?_)
  obtain ⟨hP1, hK1, hD1⟩ := hB
  rw [ht_] at hP1
  obtain ⟨hP, hD⟩ := xj (wc := [(qA, .inr (5, [.ref qAf, .ref qAt, .ref qAl, .int (iI (wn))])), (qAf, .inl (cyI, 6, .inl (xA (wf)))), (qAt, .inl (cyI, 6, .inl (xA (wt)))), (qAl, .inl (cyI, 6, .inl (xA (wl))))]) (w1 := [(qA, .inr (5, [.ref qAf, .ref qAt, .ref qAl, .int (iI (wn + 1))])), (qAf, .inl (cyI, 6, .inl (xA (uz wf wn f9)))), (qAt, .inl (cyI, 6, .inl (xA (uz wt wn g9)))), (qAl, .inl (cyI, 6, .inl (xA (uz wl wn v))))]) hP hD [10, 11, 12, 13] rfl rfl hk1 hP1
  generalize H1 = H at hP hS ⊢
  have hP : va_P D vwCl [(qW, .inr (6, [.ref qT, .ref qA, .ref qK, .ref qC, .ref qE, .ref qI, .ref qF, .ref qH, .ref qO, .int (iI (fi))])), (qT, .inr (4, [.ref qTy, .ref qTk, .ref qTl, .ref qTt, .int (iI (tn)), .int (iI (tm))])), (qTy, .inl (cyI, 120, .inl (xA (ty)))), (qTk, .inl (cyI, 120, .inl (xA (tk)))), (qTl, .inl (cyI, 120, .inl (xA (tl)))), (qTt, .inl (cyI, 120, .inl (xA (tt)))), (qE, .inl (cyI, 6, .inl (xA (se)))), (qK, .inr (2, [.ref qKk, .ref qKl])), (qKk, .inl (cyI, 60, .inl (xA (kk)))), (qKl, .inl (cyI, 60, .inl (xA (kl)))), (qA, .inr (5, [.ref qAf, .ref qAt, .ref qAl, .int (iI (wn + 1))])), (qAf, .inl (cyI, 6, .inl (xA (uz wf wn f9)))), (qAt, .inl (cyI, 6, .inl (xA (uz wt wn g9)))), (qAl, .inl (cyI, 6, .inl (xA (uz wl wn v)))), (qC, .inr (0, [.ref qCy, .ref qCl, .ref qCb, .int (iI (ex)), .int (iI (be)), .int (iI (op)), .int (iI (es)), .int (iI (ge)), .int (iI (rc)), .int (iI (lr)), .int (iI (lw))])), (qCy, .inl (cyI, 60, .inl (xA (ey)))), (qCl, .inl (cyI, 60, .inl (xA (el)))), (qCb, .inl (cyI, 60, .inl (xA (bl))))] H := hP
  have hD : va_D A [(qW, .inr (6, [.ref qT, .ref qA, .ref qK, .ref qC, .ref qE, .ref qI, .ref qF, .ref qH, .ref qO, .int (iI (fi))])), (qT, .inr (4, [.ref qTy, .ref qTk, .ref qTl, .ref qTt, .int (iI (tn)), .int (iI (tm))])), (qTy, .inl (cyI, 120, .inl (xA (ty)))), (qTk, .inl (cyI, 120, .inl (xA (tk)))), (qTl, .inl (cyI, 120, .inl (xA (tl)))), (qTt, .inl (cyI, 120, .inl (xA (tt)))), (qE, .inl (cyI, 6, .inl (xA (se)))), (qK, .inr (2, [.ref qKk, .ref qKl])), (qKk, .inl (cyI, 60, .inl (xA (kk)))), (qKl, .inl (cyI, 60, .inl (xA (kl)))), (qA, .inr (5, [.ref qAf, .ref qAt, .ref qAl, .int (iI (wn + 1))])), (qAf, .inl (cyI, 6, .inl (xA (uz wf wn f9)))), (qAt, .inl (cyI, 6, .inl (xA (uz wt wn g9)))), (qAl, .inl (cyI, 6, .inl (xA (uz wl wn v)))), (qC, .inr (0, [.ref qCy, .ref qCl, .ref qCb, .int (iI (ex)), .int (iI (be)), .int (iI (op)), .int (iI (es)), .int (iI (ge)), .int (iI (rc)), .int (iI (lr)), .int (iI (lw))])), (qCy, .inl (cyI, 60, .inl (xA (ey)))), (qCl, .inl (cyI, 60, .inl (xA (el)))), (qCb, .inl (cyI, 60, .inl (xA (bl))))] := hD
  have hw_8 : True := hw
  refine lv_aload_n hx hb dX6_watch_56 rfl (lv_at hl 0 rfl) ?_
  have hPc := hP.sub (ws' := [(qW, .inr (6, [.ref qT, .ref qA, .ref qK, .ref qC, .ref qE, .ref qI, .ref qF, .ref qH, .ref qO, .int (iI (fi))])), (qT, .inr (4, [.ref qTy, .ref qTk, .ref qTl, .ref qTt, .int (iI (tn)), .int (iI (tm))])), (qTy, .inl (cyI, 120, .inl (xA (ty)))), (qTk, .inl (cyI, 120, .inl (xA (tk)))), (qTl, .inl (cyI, 120, .inl (xA (tl)))), (qTt, .inl (cyI, 120, .inl (xA (tt)))), (qE, .inl (cyI, 6, .inl (xA (se)))), (qK, .inr (2, [.ref qKk, .ref qKl])), (qKk, .inl (cyI, 60, .inl (xA (kk)))), (qKl, .inl (cyI, 60, .inl (xA (kl)))), (qA, .inr (5, [.ref qAf, .ref qAt, .ref qAl, .int (iI (wn + 1))])), (qAf, .inl (cyI, 6, .inl (xA (uz wf wn f9)))), (qAt, .inl (cyI, 6, .inl (xA (uz wt wn g9)))), (qAl, .inl (cyI, 6, .inl (xA (uz wl wn v)))), (qC, .inr (0, [.ref qCy, .ref qCl, .ref qCb, .int (iI (ex)), .int (iI (be)), .int (iI (op)), .int (iI (es)), .int (iI (ge)), .int (iI (rc)), .int (iI (lr)), .int (iI (lw))])), (qCy, .inl (cyI, 60, .inl (xA (ey)))), (qCl, .inl (cyI, 60, .inl (xA (el)))), (qCb, .inl (cyI, 60, .inl (xA (bl))))]) [0, 1, 2, 3, 4, 5, 6, 7, 8, 9, 10, 11, 12, 13, 14, 15, 16, 17] rfl
  have hDc := hD.sub (ws' := [(qW, .inr (6, [.ref qT, .ref qA, .ref qK, .ref qC, .ref qE, .ref qI, .ref qF, .ref qH, .ref qO, .int (iI (fi))])), (qT, .inr (4, [.ref qTy, .ref qTk, .ref qTl, .ref qTt, .int (iI (tn)), .int (iI (tm))])), (qTy, .inl (cyI, 120, .inl (xA (ty)))), (qTk, .inl (cyI, 120, .inl (xA (tk)))), (qTl, .inl (cyI, 120, .inl (xA (tl)))), (qTt, .inl (cyI, 120, .inl (xA (tt)))), (qE, .inl (cyI, 6, .inl (xA (se)))), (qK, .inr (2, [.ref qKk, .ref qKl])), (qKk, .inl (cyI, 60, .inl (xA (kk)))), (qKl, .inl (cyI, 60, .inl (xA (kl)))), (qA, .inr (5, [.ref qAf, .ref qAt, .ref qAl, .int (iI (wn + 1))])), (qAf, .inl (cyI, 6, .inl (xA (uz wf wn f9)))), (qAt, .inl (cyI, 6, .inl (xA (uz wt wn g9)))), (qAl, .inl (cyI, 6, .inl (xA (uz wl wn v)))), (qC, .inr (0, [.ref qCy, .ref qCl, .ref qCb, .int (iI (ex)), .int (iI (be)), .int (iI (op)), .int (iI (es)), .int (iI (ge)), .int (iI (rc)), .int (iI (lr)), .int (iI (lw))])), (qCy, .inl (cyI, 60, .inl (xA (ey)))), (qCl, .inl (cyI, 60, .inl (xA (el)))), (qCb, .inl (cyI, 60, .inl (xA (bl))))]) [0, 1, 2, 3, 4, 5, 6, 7, 8, 9, 10, 11, 12, 13, 14, 15, 16, 17] (by decide) rfl
  have hFc := va_free (wc := [(qW, .inr (6, [.ref qT, .ref qA, .ref qK, .ref qC, .ref qE, .ref qI, .ref qF, .ref qH, .ref qO, .int (iI (fi))])), (qT, .inr (4, [.ref qTy, .ref qTk, .ref qTl, .ref qTt, .int (iI (tn)), .int (iI (tm))])), (qTy, .inl (cyI, 120, .inl (xA (ty)))), (qTk, .inl (cyI, 120, .inl (xA (tk)))), (qTl, .inl (cyI, 120, .inl (xA (tl)))), (qTt, .inl (cyI, 120, .inl (xA (tt)))), (qE, .inl (cyI, 6, .inl (xA (se)))), (qK, .inr (2, [.ref qKk, .ref qKl])), (qKk, .inl (cyI, 60, .inl (xA (kk)))), (qKl, .inl (cyI, 60, .inl (xA (kl)))), (qA, .inr (5, [.ref qAf, .ref qAt, .ref qAl, .int (iI (wn + 1))])), (qAf, .inl (cyI, 6, .inl (xA (uz wf wn f9)))), (qAt, .inl (cyI, 6, .inl (xA (uz wt wn g9)))), (qAl, .inl (cyI, 6, .inl (xA (uz wl wn v)))), (qC, .inr (0, [.ref qCy, .ref qCl, .ref qCb, .int (iI (ex)), .int (iI (be)), .int (iI (op)), .int (iI (es)), .int (iI (ge)), .int (iI (rc)), .int (iI (lr)), .int (iI (lw))])), (qCy, .inl (cyI, 60, .inl (xA (ey)))), (qCl, .inl (cyI, 60, .inl (xA (el)))), (qCb, .inl (cyI, 60, .inl (xA (bl))))]) hD hS hA [0, 1, 2, 3, 4, 5, 6, 7, 8, 9, 10, 11, 12, 13, 14, 15, 16, 17] rfl
  refine va_callv (va_runV (As := []) (rest := []) ⟨hx, hb, hml, hown, hts⟩ (c_X6_settle l D cyI cyJ cyO qW qT qA qK qC qE qI qF qH qO fi qTy qTk qTl qTt tn tm ty tk tl tt se qKk qKl kk kl qAf qAt qAl (wn + 1) (uz wf wn f9) (uz wt wn g9) (uz wl wn v) qCy qCl qCb ex be op es ge rc lr lw ey el bl H.size (by first | exact h_tn | assumption | omega) (by first | exact h_ty | assumption | omega) (by first | exact h_tk | assumption | omega) (by first | exact h_tv | assumption | omega) (by first | exact h_tl | assumption | omega) (by first | exact h_tt | assumption | omega) (by first | exact h_se | assumption | omega) (by first | exact h_wn | assumption | omega) (by exact uz_in h_wf (by omega)) (by exact uz_in h_wt (by omega)) (by exact uz_in h_wl (by omega)) (by first | exact h_ey | assumption | omega) (by first | exact h_el | assumption | omega) (by first | exact h_bl | assumption | omega)) (cwV 0 hts gX6_watch_X6_settle rfl rfl rfl (by decide +kernel) ⟨Nat.le_of_ble_eq_true rfl, Nat.le_of_ble_eq_true rfl⟩) (xpVMN hPc hK hDc hN (ci := 6) (q0 := 0) (q := (RX6, TX6, 10)) rfl rfl) rfl rfl hl.1 rfl (lv_room (Nat.le_of_ble_eq_true rfl)) dX6_watch_57 ⟨Nat.le_of_ble_eq_true rfl, Nat.le_of_ble_eq_true rfl⟩) hS (fun q _ h => hFc q h) hFc (fun u_9 t_ H1 locs ht_ hvm hw hB hz1 hk1 hS => ?_)
  obtain ⟨eyN_10, elN_11, blN_12⟩ := u_9
  obtain ⟨hP1, hK1, hD1⟩ := hB
  rw [ht_] at hP1
  obtain ⟨hP, hD⟩ := xj (wc := [(qW, .inr (6, [.ref qT, .ref qA, .ref qK, .ref qC, .ref qE, .ref qI, .ref qF, .ref qH, .ref qO, .int (iI (fi))])), (qT, .inr (4, [.ref qTy, .ref qTk, .ref qTl, .ref qTt, .int (iI (tn)), .int (iI (tm))])), (qTy, .inl (cyI, 120, .inl (xA (ty)))), (qTk, .inl (cyI, 120, .inl (xA (tk)))), (qTl, .inl (cyI, 120, .inl (xA (tl)))), (qTt, .inl (cyI, 120, .inl (xA (tt)))), (qE, .inl (cyI, 6, .inl (xA (se)))), (qK, .inr (2, [.ref qKk, .ref qKl])), (qKk, .inl (cyI, 60, .inl (xA (kk)))), (qKl, .inl (cyI, 60, .inl (xA (kl)))), (qA, .inr (5, [.ref qAf, .ref qAt, .ref qAl, .int (iI (wn + 1))])), (qAf, .inl (cyI, 6, .inl (xA (uz wf wn f9)))), (qAt, .inl (cyI, 6, .inl (xA (uz wt wn g9)))), (qAl, .inl (cyI, 6, .inl (xA (uz wl wn v)))), (qC, .inr (0, [.ref qCy, .ref qCl, .ref qCb, .int (iI (ex)), .int (iI (be)), .int (iI (op)), .int (iI (es)), .int (iI (ge)), .int (iI (rc)), .int (iI (lr)), .int (iI (lw))])), (qCy, .inl (cyI, 60, .inl (xA (ey)))), (qCl, .inl (cyI, 60, .inl (xA (el)))), (qCb, .inl (cyI, 60, .inl (xA (bl))))]) (w1 := [(qW, .inr (6, [.ref qT, .ref qA, .ref qK, .ref qC, .ref qE, .ref qI, .ref qF, .ref qH, .ref qO, .int (iI (fi))])), (qT, .inr (4, [.ref qTy, .ref qTk, .ref qTl, .ref qTt, .int (iI (tn)), .int (iI (tm))])), (qTy, .inl (cyI, 120, .inl (xA (ty)))), (qTk, .inl (cyI, 120, .inl (xA (tk)))), (qTl, .inl (cyI, 120, .inl (xA (tl)))), (qTt, .inl (cyI, 120, .inl (xA (tt)))), (qE, .inl (cyI, 6, .inl (xA (se)))), (qK, .inr (2, [.ref qKk, .ref qKl])), (qKk, .inl (cyI, 60, .inl (xA ((KKf ty tk tl tt tn (uz wf wn f9) (uz wt wn g9) (uz wl wn v) (wn + 1) se))))), (qKl, .inl (cyI, 60, .inl (xA ((KLf ty tk tl tt tn (uz wf wn f9) (uz wt wn g9) (uz wl wn v) (wn + 1) se))))), (qA, .inr (5, [.ref qAf, .ref qAt, .ref qAl, .int (iI (wn + 1))])), (qAf, .inl (cyI, 6, .inl (xA (uz wf wn f9)))), (qAt, .inl (cyI, 6, .inl (xA (uz wt wn g9)))), (qAl, .inl (cyI, 6, .inl (xA (uz wl wn v)))), (qC, .inr (0, [.ref qCy, .ref qCl, .ref qCb, .int (iI (cntZ (PX (KKf ty tk tl tt tn (uz wf wn f9) (uz wt wn g9) (uz wl wn v) (wn + 1) se) (se 1) (se 2) 0) 60)), .int (iI (cntZ (PX (KKf ty tk tl tt tn (uz wf wn f9) (uz wt wn g9) (uz wl wn v) (wn + 1) se) (se 1) (se 2) 1) 60)), .int (iI (cntZ (PX (KKf ty tk tl tt tn (uz wf wn f9) (uz wt wn g9) (uz wl wn v) (wn + 1) se) (se 1) (se 2) 2) 60)), .int (iI (sumZ (exL (KKf ty tk tl tt tn (uz wf wn f9) (uz wt wn g9) (uz wl wn v) (wn + 1) se) (KLf ty tk tl tt tn (uz wf wn f9) (uz wt wn g9) (uz wl wn v) (wn + 1) se) (se 1) (se 2)) 60)), .int (iI ((recF (KKf ty tk tl tt tn (uz wf wn f9) (uz wt wn g9) (uz wl wn v) (wn + 1) se) (KLf ty tk tl tt tn (uz wf wn f9) (uz wt wn g9) (uz wl wn v) (wn + 1) se) (se 1) (se 2) 60).1)), .int (iI ((recF (KKf ty tk tl tt tn (uz wf wn f9) (uz wt wn g9) (uz wl wn v) (wn + 1) se) (KLf ty tk tl tt tn (uz wf wn f9) (uz wt wn g9) (uz wl wn v) (wn + 1) se) (se 1) (se 2) 60).2.1)), .int (iI ((recF (KKf ty tk tl tt tn (uz wf wn f9) (uz wt wn g9) (uz wl wn v) (wn + 1) se) (KLf ty tk tl tt tn (uz wf wn f9) (uz wt wn g9) (uz wl wn v) (wn + 1) se) (se 1) (se 2) 60).2.2.1)), .int (iI ((recF (KKf ty tk tl tt tn (uz wf wn f9) (uz wt wn g9) (uz wl wn v) (wn + 1) se) (KLf ty tk tl tt tn (uz wf wn f9) (uz wt wn g9) (uz wl wn v) (wn + 1) se) (se 1) (se 2) 60).2.2.2))])), (qCy, .inl (cyI, 60, .inl (xA (eyN_10)))), (qCl, .inl (cyI, 60, .inl (xA (elN_11)))), (qCb, .inl (cyI, 60, .inl (xA (blN_12))))]) hP hD [0, 1, 2, 3, 4, 5, 6, 7, 8, 9, 10, 11, 12, 13, 14, 15, 16, 17] rfl rfl hk1 hP1
  generalize H1 = H at hP hS ⊢
  have hP : va_P D vwCl [(qW, .inr (6, [.ref qT, .ref qA, .ref qK, .ref qC, .ref qE, .ref qI, .ref qF, .ref qH, .ref qO, .int (iI (fi))])), (qT, .inr (4, [.ref qTy, .ref qTk, .ref qTl, .ref qTt, .int (iI (tn)), .int (iI (tm))])), (qTy, .inl (cyI, 120, .inl (xA (ty)))), (qTk, .inl (cyI, 120, .inl (xA (tk)))), (qTl, .inl (cyI, 120, .inl (xA (tl)))), (qTt, .inl (cyI, 120, .inl (xA (tt)))), (qE, .inl (cyI, 6, .inl (xA (se)))), (qK, .inr (2, [.ref qKk, .ref qKl])), (qKk, .inl (cyI, 60, .inl (xA ((KKf ty tk tl tt tn (uz wf wn f9) (uz wt wn g9) (uz wl wn v) (wn + 1) se))))), (qKl, .inl (cyI, 60, .inl (xA ((KLf ty tk tl tt tn (uz wf wn f9) (uz wt wn g9) (uz wl wn v) (wn + 1) se))))), (qA, .inr (5, [.ref qAf, .ref qAt, .ref qAl, .int (iI (wn + 1))])), (qAf, .inl (cyI, 6, .inl (xA (uz wf wn f9)))), (qAt, .inl (cyI, 6, .inl (xA (uz wt wn g9)))), (qAl, .inl (cyI, 6, .inl (xA (uz wl wn v)))), (qC, .inr (0, [.ref qCy, .ref qCl, .ref qCb, .int (iI (cntZ (PX (KKf ty tk tl tt tn (uz wf wn f9) (uz wt wn g9) (uz wl wn v) (wn + 1) se) (se 1) (se 2) 0) 60)), .int (iI (cntZ (PX (KKf ty tk tl tt tn (uz wf wn f9) (uz wt wn g9) (uz wl wn v) (wn + 1) se) (se 1) (se 2) 1) 60)), .int (iI (cntZ (PX (KKf ty tk tl tt tn (uz wf wn f9) (uz wt wn g9) (uz wl wn v) (wn + 1) se) (se 1) (se 2) 2) 60)), .int (iI (sumZ (exL (KKf ty tk tl tt tn (uz wf wn f9) (uz wt wn g9) (uz wl wn v) (wn + 1) se) (KLf ty tk tl tt tn (uz wf wn f9) (uz wt wn g9) (uz wl wn v) (wn + 1) se) (se 1) (se 2)) 60)), .int (iI ((recF (KKf ty tk tl tt tn (uz wf wn f9) (uz wt wn g9) (uz wl wn v) (wn + 1) se) (KLf ty tk tl tt tn (uz wf wn f9) (uz wt wn g9) (uz wl wn v) (wn + 1) se) (se 1) (se 2) 60).1)), .int (iI ((recF (KKf ty tk tl tt tn (uz wf wn f9) (uz wt wn g9) (uz wl wn v) (wn + 1) se) (KLf ty tk tl tt tn (uz wf wn f9) (uz wt wn g9) (uz wl wn v) (wn + 1) se) (se 1) (se 2) 60).2.1)), .int (iI ((recF (KKf ty tk tl tt tn (uz wf wn f9) (uz wt wn g9) (uz wl wn v) (wn + 1) se) (KLf ty tk tl tt tn (uz wf wn f9) (uz wt wn g9) (uz wl wn v) (wn + 1) se) (se 1) (se 2) 60).2.2.1)), .int (iI ((recF (KKf ty tk tl tt tn (uz wf wn f9) (uz wt wn g9) (uz wl wn v) (wn + 1) se) (KLf ty tk tl tt tn (uz wf wn f9) (uz wt wn g9) (uz wl wn v) (wn + 1) se) (se 1) (se 2) 60).2.2.2))])), (qCy, .inl (cyI, 60, .inl (xA (eyN_10)))), (qCl, .inl (cyI, 60, .inl (xA (elN_11)))), (qCb, .inl (cyI, 60, .inl (xA (blN_12))))] H := hP
  have hD : va_D A [(qW, .inr (6, [.ref qT, .ref qA, .ref qK, .ref qC, .ref qE, .ref qI, .ref qF, .ref qH, .ref qO, .int (iI (fi))])), (qT, .inr (4, [.ref qTy, .ref qTk, .ref qTl, .ref qTt, .int (iI (tn)), .int (iI (tm))])), (qTy, .inl (cyI, 120, .inl (xA (ty)))), (qTk, .inl (cyI, 120, .inl (xA (tk)))), (qTl, .inl (cyI, 120, .inl (xA (tl)))), (qTt, .inl (cyI, 120, .inl (xA (tt)))), (qE, .inl (cyI, 6, .inl (xA (se)))), (qK, .inr (2, [.ref qKk, .ref qKl])), (qKk, .inl (cyI, 60, .inl (xA ((KKf ty tk tl tt tn (uz wf wn f9) (uz wt wn g9) (uz wl wn v) (wn + 1) se))))), (qKl, .inl (cyI, 60, .inl (xA ((KLf ty tk tl tt tn (uz wf wn f9) (uz wt wn g9) (uz wl wn v) (wn + 1) se))))), (qA, .inr (5, [.ref qAf, .ref qAt, .ref qAl, .int (iI (wn + 1))])), (qAf, .inl (cyI, 6, .inl (xA (uz wf wn f9)))), (qAt, .inl (cyI, 6, .inl (xA (uz wt wn g9)))), (qAl, .inl (cyI, 6, .inl (xA (uz wl wn v)))), (qC, .inr (0, [.ref qCy, .ref qCl, .ref qCb, .int (iI (cntZ (PX (KKf ty tk tl tt tn (uz wf wn f9) (uz wt wn g9) (uz wl wn v) (wn + 1) se) (se 1) (se 2) 0) 60)), .int (iI (cntZ (PX (KKf ty tk tl tt tn (uz wf wn f9) (uz wt wn g9) (uz wl wn v) (wn + 1) se) (se 1) (se 2) 1) 60)), .int (iI (cntZ (PX (KKf ty tk tl tt tn (uz wf wn f9) (uz wt wn g9) (uz wl wn v) (wn + 1) se) (se 1) (se 2) 2) 60)), .int (iI (sumZ (exL (KKf ty tk tl tt tn (uz wf wn f9) (uz wt wn g9) (uz wl wn v) (wn + 1) se) (KLf ty tk tl tt tn (uz wf wn f9) (uz wt wn g9) (uz wl wn v) (wn + 1) se) (se 1) (se 2)) 60)), .int (iI ((recF (KKf ty tk tl tt tn (uz wf wn f9) (uz wt wn g9) (uz wl wn v) (wn + 1) se) (KLf ty tk tl tt tn (uz wf wn f9) (uz wt wn g9) (uz wl wn v) (wn + 1) se) (se 1) (se 2) 60).1)), .int (iI ((recF (KKf ty tk tl tt tn (uz wf wn f9) (uz wt wn g9) (uz wl wn v) (wn + 1) se) (KLf ty tk tl tt tn (uz wf wn f9) (uz wt wn g9) (uz wl wn v) (wn + 1) se) (se 1) (se 2) 60).2.1)), .int (iI ((recF (KKf ty tk tl tt tn (uz wf wn f9) (uz wt wn g9) (uz wl wn v) (wn + 1) se) (KLf ty tk tl tt tn (uz wf wn f9) (uz wt wn g9) (uz wl wn v) (wn + 1) se) (se 1) (se 2) 60).2.2.1)), .int (iI ((recF (KKf ty tk tl tt tn (uz wf wn f9) (uz wt wn g9) (uz wl wn v) (wn + 1) se) (KLf ty tk tl tt tn (uz wf wn f9) (uz wt wn g9) (uz wl wn v) (wn + 1) se) (se 1) (se 2) 60).2.2.2))])), (qCy, .inl (cyI, 60, .inl (xA (eyN_10)))), (qCl, .inl (cyI, 60, .inl (xA (elN_11)))), (qCb, .inl (cyI, 60, .inl (xA (blN_12))))] := hD
  have hw_13 : (rowR (PX (KKf ty tk tl tt tn (uz wf wn f9) (uz wt wn g9) (uz wl wn v) (wn + 1) se) (se 1) (se 2) 0) eyN_10 elN_11 (KLf ty tk tl tt tn (uz wf wn f9) (uz wt wn g9) (uz wl wn v) (wn + 1) se) 60) ∧ (rowB (PX (KKf ty tk tl tt tn (uz wf wn f9) (uz wt wn g9) (uz wl wn v) (wn + 1) se) (se 1) (se 2) 1) blN_12 (KLf ty tk tl tt tn (uz wf wn f9) (uz wt wn g9) (uz wl wn v) (wn + 1) se) 60) ∧ (∀ j, 0 ≤ eyN_10 j ∧ eyN_10 j ≤ 59) ∧ (∀ j, 0 ≤ elN_11 j ∧ elN_11 j ≤ 999) ∧ (∀ j, 0 ≤ blN_12 j ∧ blN_12 j ≤ 999) := hw
  obtain ⟨hw1, hw2, hw3, hw4, hw5⟩ := hw_13
  refine lv_aload_n hx hb dX6_watch_60 rfl (lv_at hl 0 rfl) ?_
  refine va_get (D := D) (ci := 6) (C := RX6) (T := TX6) (N := 10) hx hb hts hcX6 hown hK hP 0 rfl rfl 1 (by decide) (hts (.fieldLink RX6 19 "WallMarks" "watches" "LWallMarks$Watches;") (List.mem_of_getElem? (i := 1) (by decide +kernel))) (fun _ h9 => h9) rfl dX6_watch_61 ?_
  refine va_get (D := D) (ci := 5) (C := RX5) (T := TX5) (N := 4) hx hb hts hcX5 hown hK hP 10 rfl rfl 3 (by decide) (hts (.fieldLink RX6 127 "WallMarks$Watches" "size" "I") (List.mem_of_getElem? (i := 2) (by decide +kernel))) (fun _ h9 => h9) rfl dX6_watch_64 ?_
  refine xi_const hx hb dX6_watch_67 ?_
  refine xi_sub hx hb dX6_watch_68 ?_
  exact W.iret (v := iI ((wn + 1) - 1)) hx hb hr (fun t_ ht_ hW_ => ⟨⟨_, (eyN_10, elN_11, blN_12), rfl, ⟨(congrArg iI (show ((wn + 1) - 1) = (wn) from by first | rfl | omega)), ⟨(show rowR (PX (KKf ty tk tl tt tn (uz wf wn f9) (uz wt wn g9) (uz wl wn v) (wn + 1) se) (se 1) (se 2) 0) eyN_10 elN_11 (KLf ty tk tl tt tn (uz wf wn f9) (uz wt wn g9) (uz wl wn v) (wn + 1) se) 60 from by assumption), (show rowB (PX (KKf ty tk tl tt tn (uz wf wn f9) (uz wt wn g9) (uz wl wn v) (wn + 1) se) (se 1) (se 2) 1) blN_12 (KLf ty tk tl tt tn (uz wf wn f9) (uz wt wn g9) (uz wl wn v) (wn + 1) se) 60 from by assumption), (show ∀ j, 0 ≤ eyN_10 j ∧ eyN_10 j ≤ 59 from by assumption), (show ∀ j, 0 ≤ elN_11 j ∧ elN_11 j ≤ 999 from by assumption), (show ∀ j, 0 ≤ blN_12 j ∧ blN_12 j ≤ 999 from by assumption)⟩⟩, by rw [ht_]; exact hP, va_K.moved hW_.alike hK, hD⟩, hS.F ht_⟩) hS.2.2 dX6_watch_69
set_option maxHeartbeats 1000000 in
set_option maxRecDepth 100000 in
theorem c_X6_sister_vB (l : Launch) (D : va_G) (cyI cyJ cyO : ClassId) (qW : Nat) (qT : Nat) (qA : Nat) (qK : Nat) (qC : Nat) (qE : Nat) (qI : Nat) (qF : Nat) (qH : Nat) (qO : Nat) (fi : Int) (y : Int) (v : Int) (h_y : -2147483648 ≤ y ∧ y ≤ 2147483647) (h_v : -2147483648 ≤ v ∧ v ≤ 2147483647) (h_ok : ¬ ((0 ≤ y ∧ y < 60) ∧ -1 ≤ v ∧ v ≤ 999)) : Met l yX6_sister wsX6_sister ({ frames := 1, cells := 0, slots := 0, locals := 20 }) (va_Pc [.ref qW, .int (iI (y)), .int (iI (v))] (xR D vwCl [(qW, .inr (6, [.ref qT, .ref qA, .ref qK, .ref qC, .ref qE, .ref qI, .ref qF, .ref qH, .ref qO, .int (iI (fi))]))] (xT cyI cyJ cyO))) (xq (some (.int (iI (-5))))) 0 0 (fun _ => False) := by
  refine Met.ofW (cc := cX6_sister) (maxL := 4) (ret := (some .int)) (by decide) rfl ?_
  intro p e s m args below meth c s₁ B hml hv
  obtain ⟨rfl, hP, hK⟩ := hv
  have hx := B.exec
  have hb := B.bytes
  have hr := B.returns
  have hts := atoms_spec (ws := wsX6_sister) B.pre
  have hown : s.vm.findClass RX6 = some m.cls := findClass_of_methodNamed B.named
  have hlocks := B.notSynchronized
  have hP : va_P D vwCl [(qW, .inr (6, [.ref qT, .ref qA, .ref qK, .ref qC, .ref qE, .ref qI, .ref qF, .ref qH, .ref qO, .int (iI (fi))]))] s.heap := hP
  have hl := lv_entry ([.ref qW, .int (iI (y)), .int (iI (v))]) (n := 4) (Nat.le_of_ble_eq_true rfl)
  rw [lg_entry_eq]
  generalize (lg_sl ([.ref qW, .int (iI (y)), .int (iI (v))]) ++ List.replicate (4 - (lg_sl ([.ref qW, .int (iI (y)), .int (iI (v))])).length) Slot.unset).toArray = ls at hl ⊢
  have hl : lv_has ls 4 [(0, .ref qW), (1, .int (iI (y))), (2, .int (iI (v)))] := hl
  refine lv_iload_n hx hb dX6_sister_0 rfl (lv_at hl 1 rfl) ?_
  have hPc := hP.sub (ws' := []) [] rfl
  refine xc_i (va_runS (As := [.int (iI (y))]) (rest := []) ⟨hx, hb, hml, hown, hts⟩ (c_X6_isYear l D cyI cyJ cyO y (by first | exact h_y | assumption | omega)) (va_cwS 1 hts gX6_sister_X6_isYear rfl rfl rfl (by decide +kernel) ⟨Nat.le_of_ble_eq_true rfl, Nat.le_of_ble_eq_true rfl⟩) (xpS hPc hK) rfl rfl hl.1 rfl (lv_room (Nat.le_of_ble_eq_true rfl)) dX6_sister_1 ⟨Nat.le_of_ble_eq_true rfl, Nat.le_of_ble_eq_true rfl⟩) ?_
  refine xb_if_eqB (tgt := 19) hx hb dX6_sister_4 (by decide) (fun h_1 => ?_) (fun h_1 => ?_)
  · refine xi_bipush hx hb dX6_sister_19 (by decide +kernel) ?_
    exact W.iret (v := iI (-5)) hx hb hr (fun t_ ht_ _ => ⟨congrArg (fun z => Outcome.returned (some (Value.int (iI z)))) rfl, ht_⟩) (fun _ h9 => absurd h9 List.not_mem_nil) dX6_sister_21
  · refine lv_iload_n hx hb dX6_sister_7 rfl (lv_at hl 2 rfl) ?_
    refine xi_const hx hb dX6_sister_8 ?_
    refine xb_icmp_eq (tgt := 22) hx hb dX6_sister_9 (by decide) (by omega) (fun h_2 => by exfalso; omega) (fun h_2 => ?_)
    refine lv_iload_n hx hb dX6_sister_12 rfl (lv_at hl 2 rfl) ?_
    have hPc := hP.sub (ws' := []) [] rfl
    refine xc_i (va_runS (As := [.int (iI (v))]) (rest := []) ⟨hx, hb, hml, hown, hts⟩ (c_X6_isLevel l D cyI cyJ cyO v (by first | exact h_y | assumption | omega)) (va_cwS 1 hts gX6_sister_X6_isLevel rfl rfl rfl (by decide +kernel) ⟨Nat.le_of_ble_eq_true rfl, Nat.le_of_ble_eq_true rfl⟩) (xpS hPc hK) rfl rfl hl.1 rfl (lv_room (Nat.le_of_ble_eq_true rfl)) dX6_sister_13 ⟨Nat.le_of_ble_eq_true rfl, Nat.le_of_ble_eq_true rfl⟩) ?_
    refine xb_if_neB (tgt := 22) hx hb dX6_sister_16 (by decide) (fun h_3 => by exfalso; omega) (fun h_3 => ?_)
    refine xi_bipush hx hb dX6_sister_19 (by decide +kernel) ?_
    exact W.iret (v := iI (-5)) hx hb hr (fun t_ ht_ _ => ⟨congrArg (fun z => Outcome.returned (some (Value.int (iI z)))) rfl, ht_⟩) (fun _ h9 => absurd h9 List.not_mem_nil) dX6_sister_21
set_option maxHeartbeats 1000000 in
set_option maxRecDepth 100000 in
theorem c_X6_sister_vK (l : Launch) (D : va_G) (cyI cyJ cyO : ClassId) (qW : Nat) (qT : Nat) (qA : Nat) (qK : Nat) (qC : Nat) (qE : Nat) (qI : Nat) (qF : Nat) (qH : Nat) (qO : Nat) (fi : Int) (si : Int → Int) (sz : Nat) (y : Int) (v : Int) (h_y : -2147483648 ≤ y ∧ y ≤ 2147483647) (h_v : -2147483648 ≤ v ∧ v ≤ 2147483647) (h_ok : (0 ≤ y ∧ y < 60) ∧ -1 ≤ v ∧ v ≤ 999) : Met l yX6_sister wsX6_sister ({ frames := 1, cells := 0, slots := 0, locals := 20 }) (va_Pc [.ref qW, .int (iI (y)), .int (iI (v))] (xM D vwCl [(qW, .inr (6, [.ref qT, .ref qA, .ref qK, .ref qC, .ref qE, .ref qI, .ref qF, .ref qH, .ref qO, .int (iI (fi))])), (qI, .inl (cyI, 60, .inl (xA (si))))] (xT cyI cyJ cyO) sz)) (va_Qi (fun (r : Int32) (u : Unit) => r = iI (si y) ∧ True) (xB D vwCl (xT cyI cyJ cyO) (va_A [(qW, .inr (6, [.ref qT, .ref qA, .ref qK, .ref qC, .ref qE, .ref qI, .ref qF, .ref qH, .ref qO, .int (iI (fi))])), (qI, .inl (cyI, 60, .inl (xA (si))))] sz) (fun u : Unit => [(qW, .inr (6, [.ref qT, .ref qA, .ref qK, .ref qC, .ref qE, .ref qI, .ref qF, .ref qH, .ref qO, .int (iI (fi))])), (qI, .inl (cyI, 60, .inl (xA (uz si y v))))])) (va_A [(qW, .inr (6, [.ref qT, .ref qA, .ref qK, .ref qC, .ref qE, .ref qI, .ref qF, .ref qH, .ref qO, .int (iI (fi))])), (qI, .inl (cyI, 60, .inl (xA (si))))] sz)) 0 0 (va_A [(qW, .inr (6, [.ref qT, .ref qA, .ref qK, .ref qC, .ref qE, .ref qI, .ref qF, .ref qH, .ref qO, .int (iI (fi))])), (qI, .inl (cyI, 60, .inl (xA (si))))] sz) := by
  refine Met.ofW (cc := cX6_sister) (maxL := 4) (ret := (some .int)) (by decide) rfl ?_
  intro p e s m args below meth c s₁ B hml hv
  obtain ⟨rfl, hsz, hP, hK, hD0⟩ := hv
  have hx := B.exec
  have hb := B.bytes
  have hr := B.returns
  have hts := atoms_spec (ws := wsX6_sister) B.pre
  have hown : s.vm.findClass RX6 = some m.cls := findClass_of_methodNamed B.named
  have hlocks := B.notSynchronized
  have hcX6 : ∀ w ∈ wsX60, w ∈ wsX6_sister := fun _ h => List.mem_cons_of_mem _ (List.mem_append_right _ h)
  subst hsz
  have hD := hD0.self (sz := s.heap.size)
  generalize hAe : va_A [(qW, .inr (6, [.ref qT, .ref qA, .ref qK, .ref qC, .ref qE, .ref qI, .ref qF, .ref qH, .ref qO, .int (iI (fi))])), (qI, .inl (cyI, 60, .inl (xA (si))))] s.heap.size = A at hD ⊢
  have hA : ∀ q : Nat, s.heap.size ≤ q → A q := fun q h => by rw [← hAe]; exact Or.inr h
  have hS : va_S A s.heap s.heap [] := va_S.rf
  have hP : va_P D vwCl [(qW, .inr (6, [.ref qT, .ref qA, .ref qK, .ref qC, .ref qE, .ref qI, .ref qF, .ref qH, .ref qO, .int (iI (fi))])), (qI, .inl (cyI, 60, .inl (xA (si))))] s.heap := hP
  have hl := lv_entry ([.ref qW, .int (iI (y)), .int (iI (v))]) (n := 4) (Nat.le_of_ble_eq_true rfl)
  rw [lg_entry_eq]
  generalize (lg_sl ([.ref qW, .int (iI (y)), .int (iI (v))]) ++ List.replicate (4 - (lg_sl ([.ref qW, .int (iI (y)), .int (iI (v))])).length) Slot.unset).toArray = ls at hl ⊢
  have hl : lv_has ls 4 [(0, .ref qW), (1, .int (iI (y))), (2, .int (iI (v)))] := hl
  refine lv_iload_n hx hb dX6_sister_0 rfl (lv_at hl 1 rfl) ?_
  have hPc := hP.sub (ws' := []) [] rfl
  refine xc_i (va_runS (As := [.int (iI (y))]) (rest := []) ⟨hx, hb, hml, hown, hts⟩ (c_X6_isYear l D cyI cyJ cyO y (by first | exact h_y | assumption | omega)) (va_cwS 1 hts gX6_sister_X6_isYear rfl rfl rfl (by decide +kernel) ⟨Nat.le_of_ble_eq_true rfl, Nat.le_of_ble_eq_true rfl⟩) (xpS hPc hK) rfl rfl hl.1 rfl (lv_room (Nat.le_of_ble_eq_true rfl)) dX6_sister_1 ⟨Nat.le_of_ble_eq_true rfl, Nat.le_of_ble_eq_true rfl⟩) ?_
  refine xb_if_eqB (tgt := 19) hx hb dX6_sister_4 (by decide) (fun h_1 => by exfalso; omega) (fun h_1 => ?_)
  refine lv_iload_n hx hb dX6_sister_7 rfl (lv_at hl 2 rfl) ?_
  refine xi_const hx hb dX6_sister_8 ?_
  refine xb_icmp_eq (tgt := 22) hx hb dX6_sister_9 (by decide) (by omega) (fun h_2 => ?_) (fun h_2 => ?_)
  · refine lv_aload_n hx hb dX6_sister_22 rfl (lv_at hl 0 rfl) ?_
    refine va_get (D := D) (ci := 6) (C := RX6) (T := TX6) (N := 10) hx hb hts hcX6 hown hK hP 0 rfl rfl 5 (by decide) (hts (.fieldLink RX6 49 "WallMarks" "sisterLevels" "[I") (List.mem_of_getElem? (i := 1) (by decide +kernel))) (fun _ h9 => h9) rfl dX6_sister_23 ?_
    refine lv_iload_n hx hb dX6_sister_26 rfl (lv_at hl 1 rfl) ?_
    refine xi_ald (D := D) hx hb hK hP 1 0 rfl rfl (by decide) (by omega) dX6_sister_27 ?_
    refine lv_istore_n (lv' := [(3, .int (iI (si (y)))), (0, .ref qW), (1, .int (iI (y))), (2, .int (iI (v)))]) hx hb dX6_sister_28 rfl hl (by decide) rfl (fun ls hl => ?_)
    refine lv_aload_n hx hb dX6_sister_29 rfl (lv_at hl 1 rfl) ?_
    refine va_get (D := D) (ci := 6) (C := RX6) (T := TX6) (N := 10) hx hb hts hcX6 hown hK hP 0 rfl rfl 5 (by decide) (hts (.fieldLink RX6 49 "WallMarks" "sisterLevels" "[I") (List.mem_of_getElem? (i := 1) (by decide +kernel))) (fun _ h9 => h9) rfl dX6_sister_30 ?_
    refine lv_iload_n hx hb dX6_sister_33 rfl (lv_at hl 2 rfl) ?_
    refine lv_iload_n hx hb dX6_sister_34 rfl (lv_at hl 3 rfl) ?_
    refine xi_ast (D := D) hx hb hK hP hD hS 1 0 rfl rfl (by decide) (by omega) dX6_sister_35 (fun H locs hP hD hS => ?_)
    have hP : va_P D vwCl [(qW, .inr (6, [.ref qT, .ref qA, .ref qK, .ref qC, .ref qE, .ref qI, .ref qF, .ref qH, .ref qO, .int (iI (fi))])), (qI, .inl (cyI, 60, .inl (xA (uz si (y) (v)))))] H := hP
    have hD : va_D A [(qW, .inr (6, [.ref qT, .ref qA, .ref qK, .ref qC, .ref qE, .ref qI, .ref qF, .ref qH, .ref qO, .int (iI (fi))])), (qI, .inl (cyI, 60, .inl (xA (uz si (y) (v)))))] := hD
    refine lv_iload_n hx hb dX6_sister_36 rfl (lv_at hl 0 rfl) ?_
    have he0 : (uz si (y) (v) : Int → Int) = (uz si y v) := by first | rfl | omega
    have hW8 := congrArg (fun (xv0 : Int → Int) => ([(qW, .inr (6, [.ref qT, .ref qA, .ref qK, .ref qC, .ref qE, .ref qI, .ref qF, .ref qH, .ref qO, .int (iI (fi))])), (qI, .inl (cyI, 60, .inl (xA (xv0))))] : va_W)) he0
    have hW9 : ([(qW, .inr (6, [.ref qT, .ref qA, .ref qK, .ref qC, .ref qE, .ref qI, .ref qF, .ref qH, .ref qO, .int (iI (fi))])), (qI, .inl (cyI, 60, .inl (xA (uz si (y) (v)))))] : va_W) = [(qW, .inr (6, [.ref qT, .ref qA, .ref qK, .ref qC, .ref qE, .ref qI, .ref qF, .ref qH, .ref qO, .int (iI (fi))])), (qI, .inl (cyI, 60, .inl (xA (uz si y v))))] := hW8
    rw [hW9] at hP hD
    exact W.iret (v := iI (si (y))) hx hb hr (fun t_ ht_ hW_ => ⟨⟨_, (), rfl, ⟨(congrArg iI (show (si (y)) = (si y) from by first | rfl | omega)), trivial⟩, by rw [ht_]; exact hP, va_K.moved hW_.alike hK, hD⟩, hS.F ht_⟩) hS.2.2 dX6_sister_37
  · refine lv_iload_n hx hb dX6_sister_12 rfl (lv_at hl 2 rfl) ?_
    have hPc := hP.sub (ws' := []) [] rfl
    refine xc_i (va_runS (As := [.int (iI (v))]) (rest := []) ⟨hx, hb, hml, hown, hts⟩ (c_X6_isLevel l D cyI cyJ cyO v (by first | exact h_y | assumption | omega)) (va_cwS 1 hts gX6_sister_X6_isLevel rfl rfl rfl (by decide +kernel) ⟨Nat.le_of_ble_eq_true rfl, Nat.le_of_ble_eq_true rfl⟩) (xpS hPc hK) rfl rfl hl.1 rfl (lv_room (Nat.le_of_ble_eq_true rfl)) dX6_sister_13 ⟨Nat.le_of_ble_eq_true rfl, Nat.le_of_ble_eq_true rfl⟩) ?_
    refine xb_if_neB (tgt := 22) hx hb dX6_sister_16 (by decide) (fun h_3 => ?_) (fun h_3 => by exfalso; omega)
    refine lv_aload_n hx hb dX6_sister_22 rfl (lv_at hl 0 rfl) ?_
    refine va_get (D := D) (ci := 6) (C := RX6) (T := TX6) (N := 10) hx hb hts hcX6 hown hK hP 0 rfl rfl 5 (by decide) (hts (.fieldLink RX6 49 "WallMarks" "sisterLevels" "[I") (List.mem_of_getElem? (i := 1) (by decide +kernel))) (fun _ h9 => h9) rfl dX6_sister_23 ?_
    refine lv_iload_n hx hb dX6_sister_26 rfl (lv_at hl 1 rfl) ?_
    refine xi_ald (D := D) hx hb hK hP 1 0 rfl rfl (by decide) (by omega) dX6_sister_27 ?_
    refine lv_istore_n (lv' := [(3, .int (iI (si (y)))), (0, .ref qW), (1, .int (iI (y))), (2, .int (iI (v)))]) hx hb dX6_sister_28 rfl hl (by decide) rfl (fun ls hl => ?_)
    refine lv_aload_n hx hb dX6_sister_29 rfl (lv_at hl 1 rfl) ?_
    refine va_get (D := D) (ci := 6) (C := RX6) (T := TX6) (N := 10) hx hb hts hcX6 hown hK hP 0 rfl rfl 5 (by decide) (hts (.fieldLink RX6 49 "WallMarks" "sisterLevels" "[I") (List.mem_of_getElem? (i := 1) (by decide +kernel))) (fun _ h9 => h9) rfl dX6_sister_30 ?_
    refine lv_iload_n hx hb dX6_sister_33 rfl (lv_at hl 2 rfl) ?_
    refine lv_iload_n hx hb dX6_sister_34 rfl (lv_at hl 3 rfl) ?_
    refine xi_ast (D := D) hx hb hK hP hD hS 1 0 rfl rfl (by decide) (by omega) dX6_sister_35 (fun H locs hP hD hS => ?_)
    have hP : va_P D vwCl [(qW, .inr (6, [.ref qT, .ref qA, .ref qK, .ref qC, .ref qE, .ref qI, .ref qF, .ref qH, .ref qO, .int (iI (fi))])), (qI, .inl (cyI, 60, .inl (xA (uz si (y) (v)))))] H := hP
    have hD : va_D A [(qW, .inr (6, [.ref qT, .ref qA, .ref qK, .ref qC, .ref qE, .ref qI, .ref qF, .ref qH, .ref qO, .int (iI (fi))])), (qI, .inl (cyI, 60, .inl (xA (uz si (y) (v)))))] := hD
    refine lv_iload_n hx hb dX6_sister_36 rfl (lv_at hl 0 rfl) ?_
    have he0 : (uz si (y) (v) : Int → Int) = (uz si y v) := by first | rfl | omega
    have hW8 := congrArg (fun (xv0 : Int → Int) => ([(qW, .inr (6, [.ref qT, .ref qA, .ref qK, .ref qC, .ref qE, .ref qI, .ref qF, .ref qH, .ref qO, .int (iI (fi))])), (qI, .inl (cyI, 60, .inl (xA (xv0))))] : va_W)) he0
    have hW9 : ([(qW, .inr (6, [.ref qT, .ref qA, .ref qK, .ref qC, .ref qE, .ref qI, .ref qF, .ref qH, .ref qO, .int (iI (fi))])), (qI, .inl (cyI, 60, .inl (xA (uz si (y) (v)))))] : va_W) = [(qW, .inr (6, [.ref qT, .ref qA, .ref qK, .ref qC, .ref qE, .ref qI, .ref qF, .ref qH, .ref qO, .int (iI (fi))])), (qI, .inl (cyI, 60, .inl (xA (uz si y v))))] := hW8
    rw [hW9] at hP hD
    exact W.iret (v := iI (si (y))) hx hb hr (fun t_ ht_ hW_ => ⟨⟨_, (), rfl, ⟨(congrArg iI (show (si (y)) = (si y) from by first | rfl | omega)), trivial⟩, by rw [ht_]; exact hP, va_K.moved hW_.alike hK, hD⟩, hS.F ht_⟩) hS.2.2 dX6_sister_37
set_option maxHeartbeats 1000000 in
set_option maxRecDepth 100000 in
theorem c_X6_type_vB (l : Launch) (D : va_G) (cyI cyJ cyO : ClassId) (qW : Nat) (qT : Nat) (qA : Nat) (qK : Nat) (qC : Nat) (qE : Nat) (qI : Nat) (qF : Nat) (qH : Nat) (qO : Nat) (fi : Int) (b : Int) (h_b : -2147483648 ≤ b ∧ b ≤ 2147483647) (h_ok : ¬ (0 ≤ b ∧ b ≤ 255)) : Met l yX6_type wsX6_type ({ frames := 0, cells := 0, slots := 0, locals := 0 }) (va_Pc [.ref qW, .int (iI (b))] (xR D vwCl [(qW, .inr (6, [.ref qT, .ref qA, .ref qK, .ref qC, .ref qE, .ref qI, .ref qF, .ref qH, .ref qO, .int (iI (fi))]))] (xT cyI cyJ cyO))) (xq (some (.int (iI (-2))))) 0 0 (fun _ => False) := by
  refine Met.ofW (cc := cX6_type) (maxL := 2) (ret := (some .int)) (by decide) rfl ?_
  intro p e s m args below meth c s₁ B hml hv
  obtain ⟨rfl, hP, hK⟩ := hv
  have hx := B.exec
  have hb := B.bytes
  have hr := B.returns
  have hts := atoms_spec (ws := wsX6_type) B.pre
  have hown : s.vm.findClass RX6 = some m.cls := findClass_of_methodNamed B.named
  have hlocks := B.notSynchronized
  have hP : va_P D vwCl [(qW, .inr (6, [.ref qT, .ref qA, .ref qK, .ref qC, .ref qE, .ref qI, .ref qF, .ref qH, .ref qO, .int (iI (fi))]))] s.heap := hP
  have hl := lv_entry ([.ref qW, .int (iI (b))]) (n := 2) (Nat.le_of_ble_eq_true rfl)
  rw [lg_entry_eq]
  generalize (lg_sl ([.ref qW, .int (iI (b))]) ++ List.replicate (2 - (lg_sl ([.ref qW, .int (iI (b))])).length) Slot.unset).toArray = ls at hl ⊢
  have hl : lv_has ls 2 [(0, .ref qW), (1, .int (iI (b)))] := hl
  refine lv_iload_n hx hb dX6_type_0 rfl (lv_at hl 1 rfl) ?_
  refine xb_if_lt (tgt := 11) hx hb dX6_type_1 (by decide) (by omega) (fun h_1 => ?_) (fun h_1 => ?_)
  · refine xi_bipush hx hb dX6_type_11 (by decide +kernel) ?_
    exact W.iret (v := iI (-2)) hx hb hr (fun t_ ht_ _ => ⟨congrArg (fun z => Outcome.returned (some (Value.int (iI z)))) rfl, ht_⟩) (fun _ h9 => absurd h9 List.not_mem_nil) dX6_type_13
  · refine lv_iload_n hx hb dX6_type_4 rfl (lv_at hl 1 rfl) ?_
    refine xi_sipush hx hb dX6_type_5 (by decide +kernel) ?_
    refine xb_icmp_le (tgt := 14) hx hb dX6_type_8 (by decide) (by omega) (fun h_2 => by exfalso; omega) (fun h_2 => ?_)
    refine xi_bipush hx hb dX6_type_11 (by decide +kernel) ?_
    exact W.iret (v := iI (-2)) hx hb hr (fun t_ ht_ _ => ⟨congrArg (fun z => Outcome.returned (some (Value.int (iI z)))) rfl, ht_⟩) (fun _ h9 => absurd h9 List.not_mem_nil) dX6_type_13
set_option maxHeartbeats 1000000 in
set_option maxRecDepth 100000 in
theorem c_X6_type_vF (l : Launch) (D : va_G) (cyI cyJ cyO : ClassId) (qW : Nat) (qT : Nat) (qA : Nat) (qK : Nat) (qC : Nat) (qE : Nat) (qI : Nat) (qF : Nat) (qH : Nat) (qO : Nat) (fi : Int) (qFb : Nat) (qFl : Nat) (qFa : Nat) (fs : Int) (fp : Int) (fq : Int) (b : Int) (h_b : -2147483648 ≤ b ∧ b ≤ 2147483647) (h_fs : 0 ≤ fs ∧ fs ≤ 60) (h_ok : 0 ≤ b ∧ b ≤ 255) (h_full : fs = 60) : Met l yX6_type wsX6_type ({ frames := 1, cells := 0, slots := 0, locals := 20 }) (va_Pc [.ref qW, .int (iI (b))] (xR D vwCl [(qW, .inr (6, [.ref qT, .ref qA, .ref qK, .ref qC, .ref qE, .ref qI, .ref qF, .ref qH, .ref qO, .int (iI (fi))])), (qF, .inr (1, [.ref qFb, .ref qFl, .ref qFa, .int (iI (fs)), .int (iI (fp)), .int (iI (fq))]))] (xT cyI cyJ cyO))) (xq (some (.int (iI (-4))))) 0 0 (fun _ => False) := by
  refine Met.ofW (cc := cX6_type) (maxL := 2) (ret := (some .int)) (by decide) rfl ?_
  intro p e s m args below meth c s₁ B hml hv
  obtain ⟨rfl, hP, hK⟩ := hv
  have hx := B.exec
  have hb := B.bytes
  have hr := B.returns
  have hts := atoms_spec (ws := wsX6_type) B.pre
  have hown : s.vm.findClass RX6 = some m.cls := findClass_of_methodNamed B.named
  have hlocks := B.notSynchronized
  have hcX6 : ∀ w ∈ wsX60, w ∈ wsX6_type := fun _ h => List.mem_cons_of_mem _ (List.mem_append_left _ (List.mem_append_right _ h))
  have hP : va_P D vwCl [(qW, .inr (6, [.ref qT, .ref qA, .ref qK, .ref qC, .ref qE, .ref qI, .ref qF, .ref qH, .ref qO, .int (iI (fi))])), (qF, .inr (1, [.ref qFb, .ref qFl, .ref qFa, .int (iI (fs)), .int (iI (fp)), .int (iI (fq))]))] s.heap := hP
  have hl := lv_entry ([.ref qW, .int (iI (b))]) (n := 2) (Nat.le_of_ble_eq_true rfl)
  rw [lg_entry_eq]
  generalize (lg_sl ([.ref qW, .int (iI (b))]) ++ List.replicate (2 - (lg_sl ([.ref qW, .int (iI (b))])).length) Slot.unset).toArray = ls at hl ⊢
  have hl : lv_has ls 2 [(0, .ref qW), (1, .int (iI (b)))] := hl
  refine lv_iload_n hx hb dX6_type_0 rfl (lv_at hl 1 rfl) ?_
  refine xb_if_lt (tgt := 11) hx hb dX6_type_1 (by decide) (by omega) (fun h_1 => by exfalso; omega) (fun h_1 => ?_)
  refine lv_iload_n hx hb dX6_type_4 rfl (lv_at hl 1 rfl) ?_
  refine xi_sipush hx hb dX6_type_5 (by decide +kernel) ?_
  refine xb_icmp_le (tgt := 14) hx hb dX6_type_8 (by decide) (by omega) (fun h_2 => ?_) (fun h_2 => by exfalso; omega)
  refine lv_aload_n hx hb dX6_type_14 rfl (lv_at hl 0 rfl) ?_
  refine va_get (D := D) (ci := 6) (C := RX6) (T := TX6) (N := 10) hx hb hts hcX6 hown hK hP 0 rfl rfl 6 (by decide) (hts (.fieldLink RX6 61 "WallMarks" "flows" "LWallMarks$Flows;") (List.mem_of_getElem? (i := 1) (by decide +kernel))) (fun _ h9 => h9) rfl dX6_type_15 ?_
  have hPc := hP.sub (ws' := [(qF, .inr (1, [.ref qFb, .ref qFl, .ref qFa, .int (iI (fs)), .int (iI (fp)), .int (iI (fq))]))]) [1] rfl
  refine xc_i (va_runV (As := []) (rest := []) ⟨hx, hb, hml, hown, hts⟩ (c_X1_hasRoom l D cyI cyJ cyO qF qFb qFl qFa fs fp fq (by first | exact h_fs | assumption | omega)) (cwV 0 hts gX6_type_X1_hasRoom rfl rfl rfl (by decide +kernel) ⟨Nat.le_of_ble_eq_true rfl, Nat.le_of_ble_eq_true rfl⟩) (xpV hPc hK (ci := 1) (q0 := 0) (q := (RX1, TX1, 6)) rfl rfl) rfl rfl hl.1 rfl (lv_room (Nat.le_of_ble_eq_true rfl)) dX6_type_18 ⟨Nat.le_of_ble_eq_true rfl, Nat.le_of_ble_eq_true rfl⟩) ?_
  refine xb_if_neB (tgt := 27) hx hb dX6_type_21 (by decide) (fun h_3 => by exfalso; omega) (fun h_3 => ?_)
  refine xi_bipush hx hb dX6_type_24 (by decide +kernel) ?_
  exact W.iret (v := iI (-4)) hx hb hr (fun t_ ht_ _ => ⟨congrArg (fun z => Outcome.returned (some (Value.int (iI z)))) rfl, ht_⟩) (fun _ h9 => absurd h9 List.not_mem_nil) dX6_type_26
set_option maxHeartbeats 1000000 in
set_option maxRecDepth 100000 in
theorem c_X6_type_vK (l : Launch) (D : va_G) (cyI cyJ cyO : ClassId) (qW : Nat) (qT : Nat) (qA : Nat) (qK : Nat) (qC : Nat) (qE : Nat) (qI : Nat) (qF : Nat) (qH : Nat) (qO : Nat) (fi : Int) (qFb : Nat) (qFl : Nat) (qFa : Nat) (fs : Int) (fp : Int) (fq : Int) (fb : Int → Int) (sz : Nat) (b : Int) (h_b : -2147483648 ≤ b ∧ b ≤ 2147483647) (h_fs : 0 ≤ fs ∧ fs ≤ 60) (h_ok : 0 ≤ b ∧ b ≤ 255) (h_full : fs < 60) : Met l yX6_type wsX6_type ({ frames := 2, cells := 0, slots := 0, locals := 41 }) (va_Pc [.ref qW, .int (iI (b))] (xM D vwCl [(qW, .inr (6, [.ref qT, .ref qA, .ref qK, .ref qC, .ref qE, .ref qI, .ref qF, .ref qH, .ref qO, .int (iI (fi))])), (qF, .inr (1, [.ref qFb, .ref qFl, .ref qFa, .int (iI (fs)), .int (iI (fp)), .int (iI (fq))])), (qFb, .inl (cyI, 60, .inl (xA (fb))))] (xT cyI cyJ cyO) sz)) (va_Qi (fun (r : Int32) (u : Unit) => r = iI (fs + 1) ∧ True) (xB D vwCl (xT cyI cyJ cyO) (va_A [(qW, .inr (6, [.ref qT, .ref qA, .ref qK, .ref qC, .ref qE, .ref qI, .ref qF, .ref qH, .ref qO, .int (iI (fi))])), (qF, .inr (1, [.ref qFb, .ref qFl, .ref qFa, .int (iI (fs)), .int (iI (fp)), .int (iI (fq))])), (qFb, .inl (cyI, 60, .inl (xA (fb))))] sz) (fun u : Unit => [(qW, .inr (6, [.ref qT, .ref qA, .ref qK, .ref qC, .ref qE, .ref qI, .ref qF, .ref qH, .ref qO, .int (iI (fi))])), (qF, .inr (1, [.ref qFb, .ref qFl, .ref qFa, .int (iI (fs + 1)), .int (iI (fp)), .int (iI (fq))])), (qFb, .inl (cyI, 60, .inl (xA (uz fb fs b))))])) (va_A [(qW, .inr (6, [.ref qT, .ref qA, .ref qK, .ref qC, .ref qE, .ref qI, .ref qF, .ref qH, .ref qO, .int (iI (fi))])), (qF, .inr (1, [.ref qFb, .ref qFl, .ref qFa, .int (iI (fs)), .int (iI (fp)), .int (iI (fq))])), (qFb, .inl (cyI, 60, .inl (xA (fb))))] sz)) 0 0 (va_A [(qW, .inr (6, [.ref qT, .ref qA, .ref qK, .ref qC, .ref qE, .ref qI, .ref qF, .ref qH, .ref qO, .int (iI (fi))])), (qF, .inr (1, [.ref qFb, .ref qFl, .ref qFa, .int (iI (fs)), .int (iI (fp)), .int (iI (fq))])), (qFb, .inl (cyI, 60, .inl (xA (fb))))] sz) := by
  refine Met.ofW (cc := cX6_type) (maxL := 2) (ret := (some .int)) (by decide) rfl ?_
  intro p e s m args below meth c s₁ B hml hv
  obtain ⟨rfl, hsz, hP, hK, hD0⟩ := hv
  have hx := B.exec
  have hb := B.bytes
  have hr := B.returns
  have hts := atoms_spec (ws := wsX6_type) B.pre
  have hown : s.vm.findClass RX6 = some m.cls := findClass_of_methodNamed B.named
  have hlocks := B.notSynchronized
  have hcX1 : ∀ w ∈ wsX10, w ∈ wsX6_type := fun _ h => List.mem_cons_of_mem _ (List.mem_append_right _ h)
  have hcX6 : ∀ w ∈ wsX60, w ∈ wsX6_type := fun _ h => List.mem_cons_of_mem _ (List.mem_append_left _ (List.mem_append_right _ h))
  subst hsz
  have hD := hD0.self (sz := s.heap.size)
  generalize hAe : va_A [(qW, .inr (6, [.ref qT, .ref qA, .ref qK, .ref qC, .ref qE, .ref qI, .ref qF, .ref qH, .ref qO, .int (iI (fi))])), (qF, .inr (1, [.ref qFb, .ref qFl, .ref qFa, .int (iI (fs)), .int (iI (fp)), .int (iI (fq))])), (qFb, .inl (cyI, 60, .inl (xA (fb))))] s.heap.size = A at hD ⊢
  have hA : ∀ q : Nat, s.heap.size ≤ q → A q := fun q h => by rw [← hAe]; exact Or.inr h
  have hS : va_S A s.heap s.heap [] := va_S.rf
  have hP : va_P D vwCl [(qW, .inr (6, [.ref qT, .ref qA, .ref qK, .ref qC, .ref qE, .ref qI, .ref qF, .ref qH, .ref qO, .int (iI (fi))])), (qF, .inr (1, [.ref qFb, .ref qFl, .ref qFa, .int (iI (fs)), .int (iI (fp)), .int (iI (fq))])), (qFb, .inl (cyI, 60, .inl (xA (fb))))] s.heap := hP
  have hl := lv_entry ([.ref qW, .int (iI (b))]) (n := 2) (Nat.le_of_ble_eq_true rfl)
  rw [lg_entry_eq]
  generalize (lg_sl ([.ref qW, .int (iI (b))]) ++ List.replicate (2 - (lg_sl ([.ref qW, .int (iI (b))])).length) Slot.unset).toArray = ls at hl ⊢
  have hl : lv_has ls 2 [(0, .ref qW), (1, .int (iI (b)))] := hl
  refine lv_iload_n hx hb dX6_type_0 rfl (lv_at hl 1 rfl) ?_
  refine xb_if_lt (tgt := 11) hx hb dX6_type_1 (by decide) (by omega) (fun h_1 => by exfalso; omega) (fun h_1 => ?_)
  refine lv_iload_n hx hb dX6_type_4 rfl (lv_at hl 1 rfl) ?_
  refine xi_sipush hx hb dX6_type_5 (by decide +kernel) ?_
  refine xb_icmp_le (tgt := 14) hx hb dX6_type_8 (by decide) (by omega) (fun h_2 => ?_) (fun h_2 => by exfalso; omega)
  refine lv_aload_n hx hb dX6_type_14 rfl (lv_at hl 0 rfl) ?_
  refine va_get (D := D) (ci := 6) (C := RX6) (T := TX6) (N := 10) hx hb hts hcX6 hown hK hP 0 rfl rfl 6 (by decide) (hts (.fieldLink RX6 61 "WallMarks" "flows" "LWallMarks$Flows;") (List.mem_of_getElem? (i := 1) (by decide +kernel))) (fun _ h9 => h9) rfl dX6_type_15 ?_
  have hPc := hP.sub (ws' := [(qF, .inr (1, [.ref qFb, .ref qFl, .ref qFa, .int (iI (fs)), .int (iI (fp)), .int (iI (fq))]))]) [1] rfl
  refine xc_i (va_runV (As := []) (rest := []) ⟨hx, hb, hml, hown, hts⟩ (c_X1_hasRoom l D cyI cyJ cyO qF qFb qFl qFa fs fp fq (by first | exact h_fs | assumption | omega)) (cwV 0 hts gX6_type_X1_hasRoom rfl rfl rfl (by decide +kernel) ⟨Nat.le_of_ble_eq_true rfl, Nat.le_of_ble_eq_true rfl⟩) (xpV hPc hK (ci := 1) (q0 := 0) (q := (RX1, TX1, 6)) rfl rfl) rfl rfl hl.1 rfl (lv_room (Nat.le_of_ble_eq_true rfl)) dX6_type_18 ⟨Nat.le_of_ble_eq_true rfl, Nat.le_of_ble_eq_true rfl⟩) ?_
  refine xb_if_neB (tgt := 27) hx hb dX6_type_21 (by decide) (fun h_3 => ?_) (fun h_3 => by exfalso; omega)
  refine lv_aload_n hx hb dX6_type_27 rfl (lv_at hl 0 rfl) ?_
  refine va_get (D := D) (ci := 6) (C := RX6) (T := TX6) (N := 10) hx hb hts hcX6 hown hK hP 0 rfl rfl 6 (by decide) (hts (.fieldLink RX6 61 "WallMarks" "flows" "LWallMarks$Flows;") (List.mem_of_getElem? (i := 1) (by decide +kernel))) (fun _ h9 => h9) rfl dX6_type_28 ?_
  refine lv_iload_n hx hb dX6_type_31 rfl (lv_at hl 1 rfl) ?_
  have hPc := hP.sub (ws' := [(qF, .inr (1, [.ref qFb, .ref qFl, .ref qFa, .int (iI (fs)), .int (iI (fp)), .int (iI (fq))])), (qFb, .inl (cyI, 60, .inl (xA (fb))))]) [1, 2] rfl
  have hDc := hD.sub (ws' := [(qF, .inr (1, [.ref qFb, .ref qFl, .ref qFa, .int (iI (fs)), .int (iI (fp)), .int (iI (fq))])), (qFb, .inl (cyI, 60, .inl (xA (fb))))]) [1, 2] (by decide) rfl
  have hFc := va_free (wc := [(qF, .inr (1, [.ref qFb, .ref qFl, .ref qFa, .int (iI (fs)), .int (iI (fp)), .int (iI (fq))])), (qFb, .inl (cyI, 60, .inl (xA (fb))))]) hD hS hA [1, 2] rfl
  refine va_callv (va_runV (As := [.int (iI (b))]) (rest := []) ⟨hx, hb, hml, hown, hts⟩ (c_X1_add l D cyI cyJ cyO qF qFb qFl qFa fs fp fq fb s.heap.size b (by first | exact h_fs | assumption | omega)) (cwV 1 hts gX6_type_X1_add rfl rfl rfl (by decide +kernel) ⟨Nat.le_of_ble_eq_true rfl, Nat.le_of_ble_eq_true rfl⟩) (xpVM hPc hK hDc (ci := 1) (q0 := 0) (q := (RX1, TX1, 6)) rfl rfl) rfl rfl hl.1 rfl (lv_room (Nat.le_of_ble_eq_true rfl)) dX6_type_32 ⟨Nat.le_of_ble_eq_true rfl, Nat.le_of_ble_eq_true rfl⟩) hS (fun q _ h => hFc q h) hFc (fun u_4 t_ H1 locs ht_ hvm hw hB hz1 hk1 hS => ?_)
  obtain ⟨hP1, hK1, hD1⟩ := hB
  rw [ht_] at hP1
  obtain ⟨hP, hD⟩ := xj (wc := [(qF, .inr (1, [.ref qFb, .ref qFl, .ref qFa, .int (iI (fs)), .int (iI (fp)), .int (iI (fq))])), (qFb, .inl (cyI, 60, .inl (xA (fb))))]) (w1 := [(qF, .inr (1, [.ref qFb, .ref qFl, .ref qFa, .int (iI (fs + 1)), .int (iI (fp)), .int (iI (fq))])), (qFb, .inl (cyI, 60, .inl (xA (uz fb fs b))))]) hP hD [1, 2] rfl rfl hk1 hP1
  generalize H1 = H at hP hS ⊢
  have hP : va_P D vwCl [(qW, .inr (6, [.ref qT, .ref qA, .ref qK, .ref qC, .ref qE, .ref qI, .ref qF, .ref qH, .ref qO, .int (iI (fi))])), (qF, .inr (1, [.ref qFb, .ref qFl, .ref qFa, .int (iI (fs + 1)), .int (iI (fp)), .int (iI (fq))])), (qFb, .inl (cyI, 60, .inl (xA (uz fb fs b))))] H := hP
  have hD : va_D A [(qW, .inr (6, [.ref qT, .ref qA, .ref qK, .ref qC, .ref qE, .ref qI, .ref qF, .ref qH, .ref qO, .int (iI (fi))])), (qF, .inr (1, [.ref qFb, .ref qFl, .ref qFa, .int (iI (fs + 1)), .int (iI (fp)), .int (iI (fq))])), (qFb, .inl (cyI, 60, .inl (xA (uz fb fs b))))] := hD
  have hw_5 : True := hw
  refine lv_aload_n hx hb dX6_type_35 rfl (lv_at hl 0 rfl) ?_
  refine va_get (D := D) (ci := 6) (C := RX6) (T := TX6) (N := 10) hx hb hts hcX6 hown hK hP 0 rfl rfl 6 (by decide) (hts (.fieldLink RX6 61 "WallMarks" "flows" "LWallMarks$Flows;") (List.mem_of_getElem? (i := 1) (by decide +kernel))) (fun _ h9 => h9) rfl dX6_type_36 ?_
  refine va_get (D := D) (ci := 1) (C := RX1) (T := TX1) (N := 6) hx hb hts hcX1 hown hK hP 1 rfl rfl 3 (by decide) (hts (.fieldLink RX6 245 "WallMarks$Flows" "size" "I") (List.mem_of_getElem? (i := 2) (by decide +kernel))) (fun _ h9 => h9) rfl dX6_type_39 ?_
  exact W.iret (v := iI (fs + 1)) hx hb hr (fun t_ ht_ hW_ => ⟨⟨_, (), rfl, ⟨rfl, trivial⟩, by rw [ht_]; exact hP, va_K.moved hW_.alike hK, hD⟩, hS.F ht_⟩) hS.2.2 dX6_type_42
set_option maxHeartbeats 1000000 in
set_option maxRecDepth 100000 in
theorem c_X6_wipe (l : Launch) (D : va_G) (cyI cyJ cyO : ClassId) (qW : Nat) (qT : Nat) (qA : Nat) (qK : Nat) (qC : Nat) (qE : Nat) (qI : Nat) (qF : Nat) (qH : Nat) (qO : Nat) (fi : Int) (qFb : Nat) (qFl : Nat) (qFa : Nat) (fs : Int) (fp : Int) (fq : Int) (sz : Nat) : Met l yX6_wipe wsX6_wipe ({ frames := 0, cells := 0, slots := 0, locals := 0 }) (va_Pc [.ref qW] (xM D vwCl [(qW, .inr (6, [.ref qT, .ref qA, .ref qK, .ref qC, .ref qE, .ref qI, .ref qF, .ref qH, .ref qO, .int (iI (fi))])), (qF, .inr (1, [.ref qFb, .ref qFl, .ref qFa, .int (iI (fs)), .int (iI (fp)), .int (iI (fq))]))] (xT cyI cyJ cyO) sz)) (va_Qi (fun (r : Int32) (u : Unit) => r = iI (fs) ∧ True) (xB D vwCl (xT cyI cyJ cyO) (va_A [(qW, .inr (6, [.ref qT, .ref qA, .ref qK, .ref qC, .ref qE, .ref qI, .ref qF, .ref qH, .ref qO, .int (iI (fi))])), (qF, .inr (1, [.ref qFb, .ref qFl, .ref qFa, .int (iI (fs)), .int (iI (fp)), .int (iI (fq))]))] sz) (fun u : Unit => [(qW, .inr (6, [.ref qT, .ref qA, .ref qK, .ref qC, .ref qE, .ref qI, .ref qF, .ref qH, .ref qO, .int (iI (fi))])), (qF, .inr (1, [.ref qFb, .ref qFl, .ref qFa, .int (iI (0)), .int (iI (fp)), .int (iI (fq))]))])) (va_A [(qW, .inr (6, [.ref qT, .ref qA, .ref qK, .ref qC, .ref qE, .ref qI, .ref qF, .ref qH, .ref qO, .int (iI (fi))])), (qF, .inr (1, [.ref qFb, .ref qFl, .ref qFa, .int (iI (fs)), .int (iI (fp)), .int (iI (fq))]))] sz)) 0 0 (va_A [(qW, .inr (6, [.ref qT, .ref qA, .ref qK, .ref qC, .ref qE, .ref qI, .ref qF, .ref qH, .ref qO, .int (iI (fi))])), (qF, .inr (1, [.ref qFb, .ref qFl, .ref qFa, .int (iI (fs)), .int (iI (fp)), .int (iI (fq))]))] sz) := by
  refine Met.ofW (cc := cX6_wipe) (maxL := 2) (ret := (some .int)) (by decide) rfl ?_
  intro p e s m args below meth c s₁ B hml hv
  obtain ⟨rfl, hsz, hP, hK, hD0⟩ := hv
  have hx := B.exec
  have hb := B.bytes
  have hr := B.returns
  have hts := atoms_spec (ws := wsX6_wipe) B.pre
  have hown : s.vm.findClass RX6 = some m.cls := findClass_of_methodNamed B.named
  have hlocks := B.notSynchronized
  have hcX1 : ∀ w ∈ wsX10, w ∈ wsX6_wipe := fun _ h => List.mem_cons_of_mem _ (List.mem_append_right _ h)
  have hcX6 : ∀ w ∈ wsX60, w ∈ wsX6_wipe := fun _ h => List.mem_cons_of_mem _ (List.mem_append_left _ (List.mem_append_right _ h))
  subst hsz
  have hD := hD0.self (sz := s.heap.size)
  generalize hAe : va_A [(qW, .inr (6, [.ref qT, .ref qA, .ref qK, .ref qC, .ref qE, .ref qI, .ref qF, .ref qH, .ref qO, .int (iI (fi))])), (qF, .inr (1, [.ref qFb, .ref qFl, .ref qFa, .int (iI (fs)), .int (iI (fp)), .int (iI (fq))]))] s.heap.size = A at hD ⊢
  have hA : ∀ q : Nat, s.heap.size ≤ q → A q := fun q h => by rw [← hAe]; exact Or.inr h
  have hS : va_S A s.heap s.heap [] := va_S.rf
  have hP : va_P D vwCl [(qW, .inr (6, [.ref qT, .ref qA, .ref qK, .ref qC, .ref qE, .ref qI, .ref qF, .ref qH, .ref qO, .int (iI (fi))])), (qF, .inr (1, [.ref qFb, .ref qFl, .ref qFa, .int (iI (fs)), .int (iI (fp)), .int (iI (fq))]))] s.heap := hP
  have hl := lv_entry ([.ref qW]) (n := 2) (Nat.le_of_ble_eq_true rfl)
  rw [lg_entry_eq]
  generalize (lg_sl ([.ref qW]) ++ List.replicate (2 - (lg_sl ([.ref qW])).length) Slot.unset).toArray = ls at hl ⊢
  have hl : lv_has ls 2 [(0, .ref qW)] := hl
  refine lv_aload_n hx hb dX6_wipe_0 rfl (lv_at hl 0 rfl) ?_
  refine va_get (D := D) (ci := 6) (C := RX6) (T := TX6) (N := 10) hx hb hts hcX6 hown hK hP 0 rfl rfl 6 (by decide) (hts (.fieldLink RX6 61 "WallMarks" "flows" "LWallMarks$Flows;") (List.mem_of_getElem? (i := 1) (by decide +kernel))) (fun _ h9 => h9) rfl dX6_wipe_1 ?_
  refine va_get (D := D) (ci := 1) (C := RX1) (T := TX1) (N := 6) hx hb hts hcX1 hown hK hP 1 rfl rfl 3 (by decide) (hts (.fieldLink RX6 245 "WallMarks$Flows" "size" "I") (List.mem_of_getElem? (i := 2) (by decide +kernel))) (fun _ h9 => h9) rfl dX6_wipe_4 ?_
  refine lv_istore_n (lv' := [(1, .int (iI (fs))), (0, .ref qW)]) hx hb dX6_wipe_7 rfl hl (by decide) rfl (fun ls hl => ?_)
  refine lv_aload_n hx hb dX6_wipe_8 rfl (lv_at hl 1 rfl) ?_
  refine va_get (D := D) (ci := 6) (C := RX6) (T := TX6) (N := 10) hx hb hts hcX6 hown hK hP 0 rfl rfl 6 (by decide) (hts (.fieldLink RX6 61 "WallMarks" "flows" "LWallMarks$Flows;") (List.mem_of_getElem? (i := 1) (by decide +kernel))) (fun _ h9 => h9) rfl dX6_wipe_9 ?_
  refine xi_const hx hb dX6_wipe_12 ?_
  refine va_put (D := D) (ci := 1) (v := .int (iI (0))) (ty := .int) (C := RX1) (T := TX1) (N := 6) hx hb hts hcX1 tyX1 tyX1_ok nmX1 hown hK hP hD hS 1 rfl rfl 3 (by decide) (hts (.fieldLink RX6 245 "WallMarks$Flows" "size" "I") (List.mem_of_getElem? (i := 2) (by decide +kernel))) (fun _ h9 => h9) rfl (by decide +kernel) rfl rfl (Nat.le_of_ble_eq_true rfl) dX6_wipe_13 (fun H locs hP hD hS => ?_)
  have hP : va_P D vwCl [(qW, .inr (6, [.ref qT, .ref qA, .ref qK, .ref qC, .ref qE, .ref qI, .ref qF, .ref qH, .ref qO, .int (iI (fi))])), (qF, .inr (1, [.ref qFb, .ref qFl, .ref qFa, .int (iI (0)), .int (iI (fp)), .int (iI (fq))]))] H := hP
  have hD : va_D A [(qW, .inr (6, [.ref qT, .ref qA, .ref qK, .ref qC, .ref qE, .ref qI, .ref qF, .ref qH, .ref qO, .int (iI (fi))])), (qF, .inr (1, [.ref qFb, .ref qFl, .ref qFa, .int (iI (0)), .int (iI (fp)), .int (iI (fq))]))] := hD
  refine lv_iload_n hx hb dX6_wipe_16 rfl (lv_at hl 0 rfl) ?_
  exact W.iret (v := iI (fs)) hx hb hr (fun t_ ht_ hW_ => ⟨⟨_, (), rfl, ⟨rfl, trivial⟩, by rw [ht_]; exact hP, va_K.moved hW_.alike hK, hD⟩, hS.F ht_⟩) hS.2.2 dX6_wipe_17
set_option maxHeartbeats 1000000 in
set_option maxRecDepth 100000 in
theorem c_X6_fault (l : Launch) (D : va_G) (cyI cyJ cyO : ClassId) (qW : Nat) (qT : Nat) (qA : Nat) (qK : Nat) (qC : Nat) (qE : Nat) (qI : Nat) (qF : Nat) (qH : Nat) (qO : Nat) (fi : Int) (qFb : Nat) (qFl : Nat) (qFa : Nat) (fs : Int) (fp : Int) (fq : Int) (fb : Int → Int) (fl : Int → Int) (fa : Int → Int) (sz : Nat) (h_fs : 0 ≤ fs ∧ fs ≤ 60) (h_fb : ∀ j, 0 ≤ fb j ∧ fb j ≤ 255) (h_fl : ∀ j, 0 ≤ fl j ∧ fl j ≤ 999) (h_fa : ∀ j, 0 ≤ fa j ∧ fa j ≤ 999) : Met l yX6_fault wsX6_fault ({ frames := 4, cells := 0, slots := 0, locals := 90 }) (va_Pc [.ref qW] (xM D vwCl [(qW, .inr (6, [.ref qT, .ref qA, .ref qK, .ref qC, .ref qE, .ref qI, .ref qF, .ref qH, .ref qO, .int (iI (fi))])), (qF, .inr (1, [.ref qFb, .ref qFl, .ref qFa, .int (iI (fs)), .int (iI (fp)), .int (iI (fq))])), (qFb, .inl (cyI, 60, .inl (xA (fb)))), (qFl, .inl (cyI, 6, .inl (xA (fl)))), (qFa, .inl (cyI, 6, .inl (xA (fa))))] (xT cyI cyJ cyO) sz)) (va_Qi (fun (r : Int32) (u : Int) => r = iI ((psF fb fs 6 0 0 fl fa).1) ∧ (0 ≤ u ∧ u ≤ fs) ∧ (∀ j, 0 ≤ (psF fb fs 6 0 0 fl fa).2.2.1 j ∧ (psF fb fs 6 0 0 fl fa).2.2.1 j ≤ 999) ∧ (∀ j, 0 ≤ (psF fb fs 6 0 0 fl fa).2.2.2 j ∧ (psF fb fs 6 0 0 fl fa).2.2.2 j ≤ 999)) (xB D vwCl (xT cyI cyJ cyO) (va_A [(qW, .inr (6, [.ref qT, .ref qA, .ref qK, .ref qC, .ref qE, .ref qI, .ref qF, .ref qH, .ref qO, .int (iI (fi))])), (qF, .inr (1, [.ref qFb, .ref qFl, .ref qFa, .int (iI (fs)), .int (iI (fp)), .int (iI (fq))])), (qFb, .inl (cyI, 60, .inl (xA (fb)))), (qFl, .inl (cyI, 6, .inl (xA (fl)))), (qFa, .inl (cyI, 6, .inl (xA (fa))))] sz) (fun u : Int => [(qW, .inr (6, [.ref qT, .ref qA, .ref qK, .ref qC, .ref qE, .ref qI, .ref qF, .ref qH, .ref qO, .int (iI (fi))])), (qF, .inr (1, [.ref qFb, .ref qFl, .ref qFa, .int (iI (fs)), .int (iI ((psF fb fs 6 0 0 fl fa).2.1)), .int (iI (u))])), (qFb, .inl (cyI, 60, .inl (xA (fb)))), (qFl, .inl (cyI, 6, .inl (xA ((psF fb fs 6 0 0 fl fa).2.2.1)))), (qFa, .inl (cyI, 6, .inl (xA ((psF fb fs 6 0 0 fl fa).2.2.2))))])) (va_A [(qW, .inr (6, [.ref qT, .ref qA, .ref qK, .ref qC, .ref qE, .ref qI, .ref qF, .ref qH, .ref qO, .int (iI (fi))])), (qF, .inr (1, [.ref qFb, .ref qFl, .ref qFa, .int (iI (fs)), .int (iI (fp)), .int (iI (fq))])), (qFb, .inl (cyI, 60, .inl (xA (fb)))), (qFl, .inl (cyI, 6, .inl (xA (fl)))), (qFa, .inl (cyI, 6, .inl (xA (fa))))] sz)) 0 0 (va_A [(qW, .inr (6, [.ref qT, .ref qA, .ref qK, .ref qC, .ref qE, .ref qI, .ref qF, .ref qH, .ref qO, .int (iI (fi))])), (qF, .inr (1, [.ref qFb, .ref qFl, .ref qFa, .int (iI (fs)), .int (iI (fp)), .int (iI (fq))])), (qFb, .inl (cyI, 60, .inl (xA (fb)))), (qFl, .inl (cyI, 6, .inl (xA (fl)))), (qFa, .inl (cyI, 6, .inl (xA (fa))))] sz) := by
  refine Met.ofW (cc := cX6_fault) (maxL := 1) (ret := (some .int)) (by decide) rfl ?_
  intro p e s m args below meth c s₁ B hml hv
  obtain ⟨rfl, hsz, hP, hK, hD0⟩ := hv
  have hx := B.exec
  have hb := B.bytes
  have hr := B.returns
  have hts := atoms_spec (ws := wsX6_fault) B.pre
  have hown : s.vm.findClass RX6 = some m.cls := findClass_of_methodNamed B.named
  have hlocks := B.notSynchronized
  have hcX6 : ∀ w ∈ wsX60, w ∈ wsX6_fault := fun _ h => List.mem_cons_of_mem _ (List.mem_append_left _ (List.mem_append_right _ h))
  subst hsz
  have hD := hD0.self (sz := s.heap.size)
  generalize hAe : va_A [(qW, .inr (6, [.ref qT, .ref qA, .ref qK, .ref qC, .ref qE, .ref qI, .ref qF, .ref qH, .ref qO, .int (iI (fi))])), (qF, .inr (1, [.ref qFb, .ref qFl, .ref qFa, .int (iI (fs)), .int (iI (fp)), .int (iI (fq))])), (qFb, .inl (cyI, 60, .inl (xA (fb)))), (qFl, .inl (cyI, 6, .inl (xA (fl)))), (qFa, .inl (cyI, 6, .inl (xA (fa))))] s.heap.size = A at hD ⊢
  have hA : ∀ q : Nat, s.heap.size ≤ q → A q := fun q h => by rw [← hAe]; exact Or.inr h
  have hS : va_S A s.heap s.heap [] := va_S.rf
  have hP : va_P D vwCl [(qW, .inr (6, [.ref qT, .ref qA, .ref qK, .ref qC, .ref qE, .ref qI, .ref qF, .ref qH, .ref qO, .int (iI (fi))])), (qF, .inr (1, [.ref qFb, .ref qFl, .ref qFa, .int (iI (fs)), .int (iI (fp)), .int (iI (fq))])), (qFb, .inl (cyI, 60, .inl (xA (fb)))), (qFl, .inl (cyI, 6, .inl (xA (fl)))), (qFa, .inl (cyI, 6, .inl (xA (fa))))] s.heap := hP
  have hl := lv_entry ([.ref qW]) (n := 1) (Nat.le_of_ble_eq_true rfl)
  rw [lg_entry_eq]
  generalize (lg_sl ([.ref qW]) ++ List.replicate (1 - (lg_sl ([.ref qW])).length) Slot.unset).toArray = ls at hl ⊢
  have hl : lv_has ls 1 [(0, .ref qW)] := hl
  refine lv_aload_n hx hb dX6_fault_0 rfl (lv_at hl 0 rfl) ?_
  refine va_get (D := D) (ci := 6) (C := RX6) (T := TX6) (N := 10) hx hb hts hcX6 hown hK hP 0 rfl rfl 6 (by decide) (hts (.fieldLink RX6 61 "WallMarks" "flows" "LWallMarks$Flows;") (List.mem_of_getElem? (i := 1) (by decide +kernel))) (fun _ h9 => h9) rfl dX6_fault_1 ?_
  have hf_1 := psF_in (fb := fb) (fs := fs) 6 0 0 fl fa (by omega) (by omega) (by omega) (flI_0 _ _)
  have hPc := hP.sub (ws' := [(qF, .inr (1, [.ref qFb, .ref qFl, .ref qFa, .int (iI (fs)), .int (iI (fp)), .int (iI (fq))])), (qFb, .inl (cyI, 60, .inl (xA (fb)))), (qFl, .inl (cyI, 6, .inl (xA (fl)))), (qFa, .inl (cyI, 6, .inl (xA (fa))))]) [1, 2, 3, 4] rfl
  have hDc := hD.sub (ws' := [(qF, .inr (1, [.ref qFb, .ref qFl, .ref qFa, .int (iI (fs)), .int (iI (fp)), .int (iI (fq))])), (qFb, .inl (cyI, 60, .inl (xA (fb)))), (qFl, .inl (cyI, 6, .inl (xA (fl)))), (qFa, .inl (cyI, 6, .inl (xA (fa))))]) [1, 2, 3, 4] (by decide) rfl
  have hFc := va_free (wc := [(qF, .inr (1, [.ref qFb, .ref qFl, .ref qFa, .int (iI (fs)), .int (iI (fp)), .int (iI (fq))])), (qFb, .inl (cyI, 60, .inl (xA (fb)))), (qFl, .inl (cyI, 6, .inl (xA (fl)))), (qFa, .inl (cyI, 6, .inl (xA (fa))))]) hD hS hA [1, 2, 3, 4] rfl
  refine va_calli (va_runV (As := []) (rest := []) ⟨hx, hb, hml, hown, hts⟩ (c_X1_parse l D cyI cyJ cyO qF qFb qFl qFa fs fp fq fb fl fa s.heap.size (by first | exact h_fs | assumption | omega) (by first | exact h_fb | assumption | omega) (by first | exact h_fl | assumption | omega) (by first | exact h_fa | assumption | omega)) (cwV 0 hts gX6_fault_X1_parse rfl rfl rfl (by decide +kernel) ⟨Nat.le_of_ble_eq_true rfl, Nat.le_of_ble_eq_true rfl⟩) (xpVM hPc hK hDc (ci := 1) (q0 := 0) (q := (RX1, TX1, 6)) rfl rfl) rfl rfl hl.1 rfl (lv_room (Nat.le_of_ble_eq_true rfl)) dX6_fault_4 ⟨Nat.le_of_ble_eq_true rfl, Nat.le_of_ble_eq_true rfl⟩) hS (fun q _ h => hFc q h) hFc (fun r_ u_2 t_ H1 locs ht_ hvm hw hB hz1 hk1 hS => ?_)
  obtain ⟨q9_3, rfl⟩ : ∃ z, z = u_2 := ⟨_, rfl⟩
  obtain ⟨hP1, hK1, hD1⟩ := hB
  rw [ht_] at hP1
  obtain ⟨hP, hD⟩ := xj (wc := [(qF, .inr (1, [.ref qFb, .ref qFl, .ref qFa, .int (iI (fs)), .int (iI (fp)), .int (iI (fq))])), (qFb, .inl (cyI, 60, .inl (xA (fb)))), (qFl, .inl (cyI, 6, .inl (xA (fl)))), (qFa, .inl (cyI, 6, .inl (xA (fa))))]) (w1 := [(qF, .inr (1, [.ref qFb, .ref qFl, .ref qFa, .int (iI (fs)), .int (iI ((psF fb fs 6 0 0 fl fa).2.1)), .int (iI (q9_3))])), (qFb, .inl (cyI, 60, .inl (xA (fb)))), (qFl, .inl (cyI, 6, .inl (xA ((psF fb fs 6 0 0 fl fa).2.2.1)))), (qFa, .inl (cyI, 6, .inl (xA ((psF fb fs 6 0 0 fl fa).2.2.2))))]) hP hD [1, 2, 3, 4] rfl rfl hk1 hP1
  generalize H1 = H at hP hS ⊢
  have hP : va_P D vwCl [(qW, .inr (6, [.ref qT, .ref qA, .ref qK, .ref qC, .ref qE, .ref qI, .ref qF, .ref qH, .ref qO, .int (iI (fi))])), (qF, .inr (1, [.ref qFb, .ref qFl, .ref qFa, .int (iI (fs)), .int (iI ((psF fb fs 6 0 0 fl fa).2.1)), .int (iI (q9_3))])), (qFb, .inl (cyI, 60, .inl (xA (fb)))), (qFl, .inl (cyI, 6, .inl (xA ((psF fb fs 6 0 0 fl fa).2.2.1)))), (qFa, .inl (cyI, 6, .inl (xA ((psF fb fs 6 0 0 fl fa).2.2.2))))] H := hP
  have hD : va_D A [(qW, .inr (6, [.ref qT, .ref qA, .ref qK, .ref qC, .ref qE, .ref qI, .ref qF, .ref qH, .ref qO, .int (iI (fi))])), (qF, .inr (1, [.ref qFb, .ref qFl, .ref qFa, .int (iI (fs)), .int (iI ((psF fb fs 6 0 0 fl fa).2.1)), .int (iI (q9_3))])), (qFb, .inl (cyI, 60, .inl (xA (fb)))), (qFl, .inl (cyI, 6, .inl (xA ((psF fb fs 6 0 0 fl fa).2.2.1)))), (qFa, .inl (cyI, 6, .inl (xA ((psF fb fs 6 0 0 fl fa).2.2.2))))] := hD
  obtain ⟨hre, hw_4⟩ := hw
  have hw_4 : (0 ≤ q9_3 ∧ q9_3 ≤ fs) ∧ (∀ j, 0 ≤ (psF fb fs 6 0 0 fl fa).2.2.1 j ∧ (psF fb fs 6 0 0 fl fa).2.2.1 j ≤ 999) ∧ (∀ j, 0 ≤ (psF fb fs 6 0 0 fl fa).2.2.2 j ∧ (psF fb fs 6 0 0 fl fa).2.2.2 j ≤ 999) := hw_4
  rw [show r_ = iI ((psF fb fs 6 0 0 fl fa).1) from hre]
  obtain ⟨hpa1, hpa2, hpa3⟩ := hw_4
  exact W.iret (v := iI ((psF fb fs 6 0 0 fl fa).1)) hx hb hr (fun t_ ht_ hW_ => ⟨⟨_, (q9_3), rfl, ⟨rfl, ⟨(show 0 ≤ q9_3 ∧ q9_3 ≤ fs from by assumption), (show ∀ j, 0 ≤ (psF fb fs 6 0 0 fl fa).2.2.1 j ∧ (psF fb fs 6 0 0 fl fa).2.2.1 j ≤ 999 from by assumption), (show ∀ j, 0 ≤ (psF fb fs 6 0 0 fl fa).2.2.2 j ∧ (psF fb fs 6 0 0 fl fa).2.2.2 j ≤ 999 from by assumption)⟩⟩, by rw [ht_]; exact hP, va_K.moved hW_.alike hK, hD⟩, hS.F ht_⟩) hS.2.2 dX6_fault_7
