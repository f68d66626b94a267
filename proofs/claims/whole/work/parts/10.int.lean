/-! ints and longs of the machine as images of Int; rows over them -/
def iI (a : Int) : Int32 := Int32.ofInt a
def lI (a : Int) : Int64 := Int64.ofInt a
def xA (g : Int → Int) : Nat → Int32 := fun j => iI (g (j : Int))
def xL (g : Int → Int) : Nat → Int64 := fun j => lI (g (j : Int))
def uz (g : Int → Int) (k v : Int) : Int → Int := fun j => if j = k then v else g j
noncomputable def b2 (p : Prop) : Int := @ite _ p (Classical.propDecidable p) 1 0
theorem b2_t {p : Prop} (h : p) : b2 p = 1 := by unfold b2; exact if_pos h
theorem b2_f {p : Prop} (h : ¬ p) : b2 p = 0 := by unfold b2; exact if_neg h
theorem b2_01 (p : Prop) : b2 p = 0 ∨ b2 p = 1 := (Classical.em p).elim (fun h => Or.inr (b2_t h)) (fun h => Or.inl (b2_f h))
theorem b2_0 {p : Prop} : b2 p = 0 ↔ ¬ p := ⟨fun h q => (by rw [b2_t q] at h; exact absurd h (by decide)), b2_f⟩
theorem b2_1 {p : Prop} : b2 p = 1 ↔ p := ⟨fun h => Classical.byContradiction fun q => (by rw [b2_f q] at h; exact absurd h (by decide)), b2_t⟩
theorem b2_e {p q : Prop} (h : p ↔ q) : b2 p = b2 q := by rw [propext h]
theorem iI_add (a b : Int) : iI a + iI b = iI (a + b) := (Int32.ofInt_add a b).symm
theorem iI_sub (a b : Int) : iI a - iI b = iI (a - b) := (Int32.ofInt_sub a b).symm
theorem iI_mul (a b : Int) : iI a * iI b = iI (a * b) := (Int32.ofInt_mul a b).symm
theorem iI_neg (a : Int) : -iI a = iI (-a) := (Int32.ofInt_neg a).symm
theorem lI_add (a b : Int) : lI a + lI b = lI (a + b) := (Int64.ofInt_add a b).symm
theorem lI_sub (a b : Int) : lI a - lI b = lI (a - b) := (Int64.ofInt_sub a b).symm
theorem lI_mul (a b : Int) : lI a * lI b = lI (a * b) := (Int64.ofInt_mul a b).symm
theorem lI_neg (a : Int) : -lI a = lI (-a) := (Int64.ofInt_neg a).symm
theorem iI_int {a : Int} (h : -2147483648 ≤ a ∧ a ≤ 2147483647) : (iI a).toInt = a := Int32.toInt_ofInt_of_le (by omega) (by omega)
theorem lI_int {a : Int} (h : -9223372036854775808 ≤ a ∧ a ≤ 9223372036854775807) : (lI a).toInt = a := Int64.toInt_ofInt_of_le (by omega) (by omega)
theorem iI_of (x : Int32) : ∃ a : Int, (-2147483648 ≤ a ∧ a ≤ 2147483647) ∧ x = iI a := ⟨x.toInt, ⟨by have := x.le_toInt; omega, by have := x.toInt_lt; omega⟩, (Int32.ofInt_toInt x).symm⟩
theorem iI_cl {a : Int} (h : 0 ≤ a ∧ a ≤ 2147483647) : (iI a).toNatClampNeg = a.toNat := Int32.toNatClampNeg_ofInt_of_le (by omega) (by omega)
theorem iI_eq {a b : Int} (ha : -2147483648 ≤ a ∧ a ≤ 2147483647) (hb : -2147483648 ≤ b ∧ b ≤ 2147483647) : iI a = iI b ↔ a = b := by
  rw [← Int32.toInt_inj, iI_int ha, iI_int hb]
theorem iI_lt {a b : Int} (ha : -2147483648 ≤ a ∧ a ≤ 2147483647) (hb : -2147483648 ≤ b ∧ b ≤ 2147483647) : iI a < iI b ↔ a < b := by
  rw [Int32.lt_iff_toInt_lt, iI_int ha, iI_int hb]
theorem iI_le {a b : Int} (ha : -2147483648 ≤ a ∧ a ≤ 2147483647) (hb : -2147483648 ≤ b ∧ b ≤ 2147483647) : iI a ≤ iI b ↔ a ≤ b := by
  rw [Int32.le_iff_toInt_le, iI_int ha, iI_int hb]
theorem lI_eq {a b : Int} (ha : -9223372036854775808 ≤ a ∧ a ≤ 9223372036854775807) (hb : -9223372036854775808 ≤ b ∧ b ≤ 9223372036854775807) : lI a = lI b ↔ a = b := by
  rw [← Int64.toInt_inj, lI_int ha, lI_int hb]
theorem lI_lt {a b : Int} (ha : -9223372036854775808 ≤ a ∧ a ≤ 9223372036854775807) (hb : -9223372036854775808 ≤ b ∧ b ≤ 9223372036854775807) : lI a < lI b ↔ a < b := by
  rw [Int64.lt_iff_toInt_lt, lI_int ha, lI_int hb]
theorem lI_le {a b : Int} (ha : -9223372036854775808 ≤ a ∧ a ≤ 9223372036854775807) (hb : -9223372036854775808 ≤ b ∧ b ≤ 9223372036854775807) : lI a ≤ lI b ↔ a ≤ b := by
  rw [Int64.le_iff_toInt_le, lI_int ha, lI_int hb]
theorem iI_l {a : Int} (h : -2147483648 ≤ a ∧ a ≤ 2147483647) : (iI a).toInt64 = lI a := by
  rw [← Int64.toInt_inj, lI_int (by omega), Int32.toInt_toInt64, iI_int h]
theorem lI_i (a : Int) : (lI a).toInt32 = iI a := Int64.toInt32_ofInt
theorem tdiv_in {a b M : Int} (hb : 0 < b) (ha : -M ≤ a ∧ a ≤ M) : -M ≤ a.tdiv b ∧ a.tdiv b ≤ M := by
  rcases Int.le_total 0 a with h | h
  · rw [Int.tdiv_eq_ediv_of_nonneg h]
    have h1 : 0 ≤ a / b := Int.ediv_nonneg h (by omega)
    have h2 : a / b ≤ a := Int.ediv_le_self b h
    omega
  · obtain ⟨c, rfl⟩ : ∃ c, a = -c := ⟨-a, by omega⟩
    rw [Int.neg_tdiv, Int.tdiv_eq_ediv_of_nonneg (by omega)]
    have h1 : 0 ≤ c / b := Int.ediv_nonneg (by omega) (by omega)
    have h2 : c / b ≤ c := Int.ediv_le_self b (by omega)
    omega
theorem iI_div {a b : Int} (ha : 0 ≤ a ∧ a ≤ 2147483647) (hb : 0 < b ∧ b ≤ 2147483647) : iI a / iI b = iI (a / b) := by
  have h1 : 0 ≤ a / b := Int.ediv_nonneg ha.1 (by omega)
  have h2 : a / b ≤ a := Int.ediv_le_self b ha.1
  have hmin : iI b ≠ -1 := by
    intro h
    have h3 := congrArg Int32.toInt h
    rw [iI_int (by omega), show (-1 : Int32).toInt = -1 from by decide] at h3
    omega
  rw [← Int32.toInt_inj, Int32.toInt_div_of_ne_right _ _ hmin, iI_int (by omega), iI_int (by omega), iI_int (by omega), Int.tdiv_eq_ediv_of_nonneg ha.1]
theorem lI_tdiv {a b : Int} (ha : -9223372036854775807 ≤ a ∧ a ≤ 9223372036854775807) (hb : 0 < b ∧ b ≤ 9223372036854775807) : lI a / lI b = lI (a.tdiv b) := by
  have h1 := tdiv_in hb.1 ha
  have hmin : lI b ≠ -1 := by
    intro h
    have h3 := congrArg Int64.toInt h
    rw [lI_int (by omega), show (-1 : Int64).toInt = -1 from by decide] at h3
    omega
  rw [← Int64.toInt_inj, Int64.toInt_div_of_ne_right _ _ hmin, lI_int (by omega), lI_int (by omega), lI_int (by omega)]
theorem lI_div {a b : Int} (ha : 0 ≤ a ∧ a ≤ 9223372036854775807) (hb : 0 < b ∧ b ≤ 9223372036854775807) : lI a / lI b = lI (a / b) := by
  rw [lI_tdiv (by omega) hb, Int.tdiv_eq_ediv_of_nonneg ha.1]
theorem lI_rem {a b : Int} (ha : 0 ≤ a ∧ a ≤ 9223372036854775807) (hb : 0 < b ∧ b ≤ 9223372036854775807) : lI a - lI a / lI b * lI b = lI (a % b) := by
  rw [lI_div ha hb, lI_mul, lI_sub, Int.emod_def, Int.mul_comm]
theorem xA_get (g : Int → Int) {k : Int} (h : 0 ≤ k ∧ k ≤ 2147483647) : xA g (iI k).toNatClampNeg = iI (g k) := by
  unfold xA
  rw [iI_cl h, Int.toNat_of_nonneg h.1]
theorem xL_get (g : Int → Int) {k : Int} (h : 0 ≤ k ∧ k ≤ 2147483647) : xL g (iI k).toNatClampNeg = lI (g k) := by
  unfold xL
  rw [iI_cl h, Int.toNat_of_nonneg h.1]
theorem xA_upd (g : Int → Int) {k : Int} (v : Int) (h : 0 ≤ k ∧ k ≤ 2147483647) : upd (xA g) (iI k).toNatClampNeg (iI v) = xA (uz g k v) := by
  funext j
  unfold upd xA uz
  rw [iI_cl h]
  by_cases hj : j = k.toNat
  · rw [if_pos hj, if_pos (by omega)]
  · rw [if_neg hj, if_neg (by omega)]
theorem xL_upd (g : Int → Int) {k : Int} (v : Int) (h : 0 ≤ k ∧ k ≤ 2147483647) : vp_updL (xL g) (iI k).toNatClampNeg (lI v) = xL (uz g k v) := by
  funext j
  unfold vp_updL xL uz
  rw [iI_cl h]
  by_cases hj : j = k.toNat
  · rw [if_pos hj, if_pos (by omega)]
  · rw [if_neg hj, if_neg (by omega)]
theorem uz_s (g : Int → Int) (k v : Int) : uz g k v k = v := if_pos rfl
theorem uz_n (g : Int → Int) {k j : Int} (v : Int) (h : j ≠ k) : uz g k v j = g j := if_neg h
theorem xin {k : Int} {n : Nat} (h : 0 ≤ k ∧ k < n) (hn : n < 2147483648) : vp_in (iI k) n := vp_in_iff.mpr (by rw [iI_int (by omega)]; exact h)
theorem xA_of (f : Nat → Int32) : ∃ g : Int → Int, (∀ j, -2147483648 ≤ g j ∧ g j ≤ 2147483647) ∧ f = xA g := by
  refine ⟨fun j => (f j.toNat).toInt, fun j => ⟨by have := (f j.toNat).le_toInt; dsimp only; omega, by have := (f j.toNat).toInt_lt; dsimp only; omega⟩, ?_⟩
  funext j
  unfold xA iI
  dsimp only
  rw [Int.toNat_natCast, Int32.ofInt_toInt]
theorem lg_cmp_lI {a b : Int} (ha : -9223372036854775808 ≤ a ∧ a ≤ 9223372036854775807) (hb : -9223372036854775808 ≤ b ∧ b ≤ 9223372036854775807) : lg_cmp (lI a) (lI b) = iI (if b < a then 1 else if a = b then 0 else -1) := by
  unfold lg_cmp
  by_cases h : b < a
  · rw [if_pos h, if_pos (show lI a > lI b from (lI_lt hb ha).mpr h)]; rfl
  · rw [if_neg h, if_neg (fun q => h ((lI_lt hb ha).mp q))]
    by_cases h2 : a = b
    · rw [if_pos h2, if_pos (by rw [h2])]; rfl
    · rw [if_neg h2, if_neg (fun q => h2 ((lI_eq ha hb).mp q))]; rfl
/-- what a method that only reads leaves -/
def xq (v : Option Value) : Array Value → State → Outcome → State → Prop := fun _ st oc t => oc = .returned v ∧ t.heap = st.heap
/-- a reader's start; a writer's start; a writer's world at its end -/
def xR (D : va_G) (cl : List vw_C) (ws : va_W) (tys : List (ClassId × FieldType)) (U : State) : Prop := va_P D cl ws U.heap ∧ va_K D cl tys U
def xM (D : va_G) (cl : List vw_C) (ws : va_W) (tys : List (ClassId × FieldType)) (sz : Nat) (U : State) : Prop := U.heap.size = sz ∧ va_P D cl ws U.heap ∧ va_K D cl tys U ∧ va_D (fun _ => True) ws
def xB {S : Type} (D : va_G) (cl : List vw_C) (tys : List (ClassId × FieldType)) (A : Nat → Prop) (wf : S → va_W) (u : S) (t : State) : Prop := va_P D cl (wf u) t.heap ∧ va_K D cl tys t ∧ va_D A (wf u)
def xset : va_W → List Nat → va_W → va_W
  | ws, i :: is, q :: qs => xset (ws.set i q) is qs
  | ws, _, _ => ws
theorem xset_get : ∀ (is : List Nat) (w1 ws : va_W) (k : Nat) (q : Nat × va_E), (xset ws is w1)[k]? = some q → (∃ j : Nat, is[j]? = some k ∧ w1[j]? = some q) ∨ ((k ∉ is ∨ w1.length < is.length) ∧ ws[k]? = some q)
  | [], w1, ws, k, q, h => by
    right; exact ⟨Or.inl List.not_mem_nil, by cases w1 <;> exact h⟩
  | i :: is, [], ws, k, q, h => by right; exact ⟨Or.inr (by simp), h⟩
  | i :: is, a :: w1, ws, k, q, h => by
    rcases xset_get is w1 (ws.set i a) k q h with ⟨j, h1, h2⟩ | ⟨h1, h2⟩
    · exact Or.inl ⟨j + 1, by simpa using h1, by simpa using h2⟩
    · by_cases hk : k = i
      · subst hk
        by_cases hl : k < ws.length
        · rw [List.getElem?_set_self hl] at h2
          cases h2
          exact Or.inl ⟨0, by simp, by simp⟩
        · rw [List.getElem?_eq_none (by simp; omega)] at h2
          cases h2
      · rw [List.getElem?_set_ne (Ne.symm hk)] at h2
        refine Or.inr ⟨?_, h2⟩
        rcases h1 with h1 | h1
        · exact Or.inl (by simp [hk, h1])
        · exact Or.inr (by simp; omega)
/-- behind a call: the callee's cells stand where they stood -/
theorem xj {A0 : Nat → Prop} {D : va_G} {cl : List vw_C} {ws wc w1 : va_W} {H H1 : Heap} (hP : va_P D cl ws H) (hD : va_D A0 ws) (isC : List Nat) (hC : isC.map (fun i => ws[i]?) = wc.map some) (ha : wc.map (fun q => q.1) = w1.map (fun q => q.1))
    (hk : ∀ q : Nat, q < H.size → ¬ va_A wc H.size q → H1[q]? = H[q]?) (hP1 : va_P D cl w1 H1) : va_P D cl (xset ws isC w1) H1 ∧ va_D A0 (xset ws isC w1) := by
  have hl : wc.length = w1.length := by simpa using congrArg List.length ha
  have hl2 : isC.length = wc.length := by simpa using congrArg List.length hC
  have at' : ∀ (j i : Nat), isC[j]? = some i → ∃ q, wc[j]? = some q ∧ ws[i]? = some q := by
    intro j i hj
    have h1 : (isC.map (fun i => ws[i]?))[j]? = some (ws[i]?) := by rw [List.getElem?_map, hj]; rfl
    rw [hC, List.getElem?_map] at h1
    cases hw : wc[j]? with
    | none => rw [hw] at h1; cases h1
    | some q => rw [hw] at h1; exact ⟨q, rfl, (Option.some.inj h1).symm⟩
  have addr : ∀ (j : Nat) (q : Nat × va_E), w1[j]? = some q → ∃ q0, wc[j]? = some q0 ∧ q0.1 = q.1 := by
    intro j q hq
    have h1 : (w1.map (fun q => q.1))[j]? = some q.1 := by rw [List.getElem?_map, hq]; rfl
    rw [← ha, List.getElem?_map] at h1
    cases hw : wc[j]? with
    | none => rw [hw] at h1; cases h1
    | some q0 => rw [hw] at h1; exact ⟨q0, rfl, Option.some.inj h1⟩
  have key : ∀ (k : Nat) (q : Nat × va_E), (xset ws isC w1)[k]? = some q → ∃ q0, ws[k]? = some q0 ∧ q0.1 = q.1 := by
    intro k q hq
    rcases xset_get isC w1 ws k q hq with ⟨j, h1, h2⟩ | ⟨-, h2⟩
    · obtain ⟨q0, h3, h4⟩ := addr j q h2
      obtain ⟨q5, h5, h6⟩ := at' j k h1
      rw [h3] at h5; cases h5
      exact ⟨q0, h6, h4⟩
    · exact ⟨q, h2, rfl⟩
  refine ⟨fun k q hq => ?_, fun i j x y hi hj hxy => ?_, fun k q hq => ?_⟩
  · rcases xset_get isC w1 ws k q hq with ⟨j, h1, h2⟩ | ⟨h1, h2⟩
    · exact hP1 j q h2
    · refine (hP k q h2).kept (hk q.1 (hP k q h2).lt ?_)
      rintro (⟨j, e, hj⟩ | hj)
      · have hlt : j < isC.length := by rw [hl2]; exact (List.getElem?_eq_some_iff.mp hj).1
        obtain ⟨q0, h3, h4⟩ := at' j isC[j] (List.getElem?_eq_getElem hlt)
        rw [hj] at h3; cases h3
        have := hD.1 _ _ _ _ h2 h4 rfl
        rcases h1 with h1 | h1
        · exact h1 (by rw [this]; exact List.getElem_mem hlt)
        · omega
      · exact absurd (hP k q h2).lt (Nat.not_lt.mpr hj)
  · obtain ⟨x0, h1, h2⟩ := key i x hi
    obtain ⟨y0, h3, h4⟩ := key j y hj
    exact hD.1 i j x0 y0 h1 h3 (h2.trans (hxy.trans h4.symm))
  · obtain ⟨q0, h1, h2⟩ := key k q hq
    rw [← h2]
    exact hD.2 k q0 h1
/-- an array's content beyond what it holds is free -/
theorem xP_at {D : va_G} {cl : List vw_C} {a : Nat} {cA : ClassId} {n : Nat} {f g : Int → Int} {H : Heap} (h : va_at D cl (a, .inl (cA, n, .inl (xA f))) H) (hfg : ∀ j : Int, 0 ≤ j → j < n → f j = g j) : va_at D cl (a, .inl (cA, n, .inl (xA g))) H := by
  show H[a]? = some (arrV cA n (fun j => .int (xA g j)))
  refine (show H[a]? = some (arrV cA n (fun j => .int (xA f j))) from h).trans ?_
  congr 1
  unfold arrV
  congr 1
  apply Array.ext
  · simp
  · intro i h1 h2
    simp only [Array.getElem_ofFn, xA]
    rw [hfg (i : Int) (by omega) (by simp at h1; omega)]
theorem xP_congr {D : va_G} {cl : List vw_C} {ws : va_W} {H : Heap} (hP : va_P D cl ws H) (p : Nat) {a : Nat} {cA : ClassId} {n : Nat} {f : Int → Int} (g : Int → Int) (hp : ws[p]? = some (a, .inl (cA, n, .inl (xA f)))) (hfg : ∀ j : Int, 0 ≤ j → j < n → f j = g j) : va_P D cl (ws.set p (a, .inl (cA, n, .inl (xA g)))) H := by
  have hl := (List.getElem?_eq_some_iff.mp hp).1
  intro k q hk
  by_cases hkp : k = p
  · subst hkp
    rw [List.getElem?_set_self hl] at hk
    cases hk
    exact xP_at (hP k _ hp) hfg
  · rw [List.getElem?_set_ne (Ne.symm hkp)] at hk
    exact hP k q hk
section XI
variable {p : Program} {l : Launch} {e : Env} {R : Room} {s : State} {m : MethodId} {args : Array Value} {below : List Frame} {meth : Method} {c : Code} {H : Heap} {locs : List Loc} {cells slots : Nat} {Q : State → Prop}
variable {pc : Nat} {ls : Array Slot} {rest : List Value} {cc : ByteArray} {a b : Int}
theorem xi_const (hx : p.tables.exec = Jvm.exec) (hb : c.code = cc) {n : Int} (hdg : decode cc pc = .ok (.iconst n, 1)) (k : W p l e R s m args below meth c H locs cells slots Q (F0 m (pc + 1) ls (.int (iI n) :: rest))) : W p l e R s m args below meth c H locs cells slots Q (F0 m pc ls rest) := lv_iconst hx hb hdg rfl k
theorem xi_bipush (hx : p.tables.exec = Jvm.exec) (hb : c.code = cc) {n : Int} (hdg : decode cc pc = .ok (.bipush n, 2)) (hv : (Int8.ofInt n).toInt32 = iI n) (k : W p l e R s m args below meth c H locs cells slots Q (F0 m (pc + 2) ls (.int (iI n) :: rest))) : W p l e R s m args below meth c H locs cells slots Q (F0 m pc ls rest) := lv_bipush hx hb hdg hv k
theorem xi_sipush (hx : p.tables.exec = Jvm.exec) (hb : c.code = cc) {n : Int} (hdg : decode cc pc = .ok (.sipush n, 3)) (hv : (Int16.ofInt n).toInt32 = iI n) (k : W p l e R s m args below meth c H locs cells slots Q (F0 m (pc + 3) ls (.int (iI n) :: rest))) : W p l e R s m args below meth c H locs cells slots Q (F0 m pc ls rest) := lv_sipush hx hb hdg hv k
theorem xi_lconst0 (hx : p.tables.exec = Jvm.exec) (hb : c.code = cc) (hdg : decode cc pc = .ok (.lconst 0, 1)) (k : W p l e R s m args below meth c H locs cells slots Q (F0 m (pc + 1) ls (.long (lI 0) :: rest))) : W p l e R s m args below meth c H locs cells slots Q (F0 m pc ls rest) := lv_lconst hx hb hdg rfl k
theorem xi_lconst1 (hx : p.tables.exec = Jvm.exec) (hb : c.code = cc) (hdg : decode cc pc = .ok (.lconst 1, 1)) (k : W p l e R s m args below meth c H locs cells slots Q (F0 m (pc + 1) ls (.long (lI 1) :: rest))) : W p l e R s m args below meth c H locs cells slots Q (F0 m pc ls rest) := lv_lconst hx hb hdg rfl k
theorem xi_add (hx : p.tables.exec = Jvm.exec) (hb : c.code = cc) (hdg : decode cc pc = .ok (.iadd, 1)) (k : W p l e R s m args below meth c H locs cells slots Q (F0 m (pc + 1) ls (.int (iI (a + b)) :: rest))) : W p l e R s m args below meth c H locs cells slots Q (F0 m pc ls (.int (iI b) :: .int (iI a) :: rest)) := lv_iadd hx hb hdg (by rw [iI_add]; exact k)
theorem xi_sub (hx : p.tables.exec = Jvm.exec) (hb : c.code = cc) (hdg : decode cc pc = .ok (.isub, 1)) (k : W p l e R s m args below meth c H locs cells slots Q (F0 m (pc + 1) ls (.int (iI (a - b)) :: rest))) : W p l e R s m args below meth c H locs cells slots Q (F0 m pc ls (.int (iI b) :: .int (iI a) :: rest)) := lv_isub hx hb hdg (by rw [iI_sub]; exact k)
theorem xi_mul (hx : p.tables.exec = Jvm.exec) (hb : c.code = cc) (hdg : decode cc pc = .ok (.imul, 1)) (k : W p l e R s m args below meth c H locs cells slots Q (F0 m (pc + 1) ls (.int (iI (a * b)) :: rest))) : W p l e R s m args below meth c H locs cells slots Q (F0 m pc ls (.int (iI b) :: .int (iI a) :: rest)) := lv_imul hx hb hdg (by rw [iI_mul]; exact k)
theorem xi_div (hx : p.tables.exec = Jvm.exec) (hb : c.code = cc) (hdg : decode cc pc = .ok (.idiv, 1)) (h : (0 ≤ a ∧ a ≤ 2147483647) ∧ 0 < b ∧ b ≤ 2147483647) (k : W p l e R s m args below meth c H locs cells slots Q (F0 m (pc + 1) ls (.int (iI (a / b)) :: rest))) : W p l e R s m args below meth c H locs cells slots Q (F0 m pc ls (.int (iI b) :: .int (iI a) :: rest)) := lv_idiv hx hb hdg (fun q => by have := (iI_eq (b := 0) (by omega) (by omega)).mp q; omega) (by rw [iI_div h.1 h.2]; exact k)
theorem xl_add (hx : p.tables.exec = Jvm.exec) (hb : c.code = cc) (hdg : decode cc pc = .ok (.ladd, 1)) (k : W p l e R s m args below meth c H locs cells slots Q (F0 m (pc + 1) ls (.long (lI (a + b)) :: rest))) : W p l e R s m args below meth c H locs cells slots Q (F0 m pc ls (.long (lI b) :: .long (lI a) :: rest)) := lv_ladd hx hb hdg (by rw [lI_add]; exact k)
theorem xl_sub (hx : p.tables.exec = Jvm.exec) (hb : c.code = cc) (hdg : decode cc pc = .ok (.lsub, 1)) (k : W p l e R s m args below meth c H locs cells slots Q (F0 m (pc + 1) ls (.long (lI (a - b)) :: rest))) : W p l e R s m args below meth c H locs cells slots Q (F0 m pc ls (.long (lI b) :: .long (lI a) :: rest)) := lv_lsub hx hb hdg (by rw [lI_sub]; exact k)
theorem xl_mul (hx : p.tables.exec = Jvm.exec) (hb : c.code = cc) (hdg : decode cc pc = .ok (.lmul, 1)) (k : W p l e R s m args below meth c H locs cells slots Q (F0 m (pc + 1) ls (.long (lI (a * b)) :: rest))) : W p l e R s m args below meth c H locs cells slots Q (F0 m pc ls (.long (lI b) :: .long (lI a) :: rest)) := lv_lmul hx hb hdg (by rw [lI_mul]; exact k)
theorem xl_neg (hx : p.tables.exec = Jvm.exec) (hb : c.code = cc) (hdg : decode cc pc = .ok (.lneg, 1)) (k : W p l e R s m args below meth c H locs cells slots Q (F0 m (pc + 1) ls (.long (lI (-a)) :: rest))) : W p l e R s m args below meth c H locs cells slots Q (F0 m pc ls (.long (lI a) :: rest)) := lv_lneg hx hb hdg (by rw [lI_neg]; exact k)
theorem xl_div (hx : p.tables.exec = Jvm.exec) (hb : c.code = cc) (hdg : decode cc pc = .ok (.ldiv, 1)) (h : (-9223372036854775807 ≤ a ∧ a ≤ 9223372036854775807) ∧ 0 < b ∧ b ≤ 9223372036854775807) (k : W p l e R s m args below meth c H locs cells slots Q (F0 m (pc + 1) ls (.long (lI (a.tdiv b)) :: rest))) : W p l e R s m args below meth c H locs cells slots Q (F0 m pc ls (.long (lI b) :: .long (lI a) :: rest)) := lv_ldiv hx hb hdg (fun q => by have := (lI_eq (b := 0) (by omega) (by omega)).mp q; omega) (by rw [lI_tdiv h.1 h.2]; exact k)
theorem xl_rem (hx : p.tables.exec = Jvm.exec) (hb : c.code = cc) (hdg : decode cc pc = .ok (.lrem, 1)) (h : (0 ≤ a ∧ a ≤ 9223372036854775807) ∧ 0 < b ∧ b ≤ 9223372036854775807) (k : W p l e R s m args below meth c H locs cells slots Q (F0 m (pc + 1) ls (.long (lI (a % b)) :: rest))) : W p l e R s m args below meth c H locs cells slots Q (F0 m pc ls (.long (lI b) :: .long (lI a) :: rest)) := lv_lrem hx hb hdg (fun q => by have := (lI_eq (b := 0) (by omega) (by omega)).mp q; omega) (by rw [lI_rem h.1 h.2]; exact k)
theorem xi_i2l (hx : p.tables.exec = Jvm.exec) (hb : c.code = cc) (hdg : decode cc pc = .ok (.i2l, 1)) (h : -2147483648 ≤ a ∧ a ≤ 2147483647) (k : W p l e R s m args below meth c H locs cells slots Q (F0 m (pc + 1) ls (.long (lI a) :: rest))) : W p l e R s m args below meth c H locs cells slots Q (F0 m pc ls (.int (iI a) :: rest)) := lv_i2l hx hb hdg (iI_l h) k
theorem xi_l2i (hx : p.tables.exec = Jvm.exec) (hb : c.code = cc) (hdg : decode cc pc = .ok (.l2i, 1)) (k : W p l e R s m args below meth c H locs cells slots Q (F0 m (pc + 1) ls (.int (iI a) :: rest))) : W p l e R s m args below meth c H locs cells slots Q (F0 m pc ls (.long (lI a) :: rest)) := lv_l2i hx hb hdg (lI_i a) k
theorem xl_cmp (hx : p.tables.exec = Jvm.exec) (hb : c.code = cc) (hdg : decode cc pc = .ok (.lcmp, 1)) (h : (-9223372036854775808 ≤ a ∧ a ≤ 9223372036854775807) ∧ -9223372036854775808 ≤ b ∧ b ≤ 9223372036854775807) (k : W p l e R s m args below meth c H locs cells slots Q (F0 m (pc + 1) ls (.int (iI (if b < a then 1 else if a = b then 0 else -1)) :: rest))) : W p l e R s m args below meth c H locs cells slots Q (F0 m pc ls (.long (lI b) :: .long (lI a) :: rest)) := W.lcmp hx hb hdg (by rw [lg_cmp_lI h.1 h.2]; exact k)
theorem xi_inc (hx : p.tables.exec = Jvm.exec) (hb : c.code = cc) {i nL k : Nat} {n : Int} {lv lv' : List (Nat × Value)} (hdg : decode cc pc = .ok (.iinc i n, 3)) (h : lv_has ls nL lv) (hk : lv[k]? = some (i, .int (iI a))) (hn : i < nL) (hl : (i, Value.int (iI (a + n))) :: lv.filter (fun q => !(q.1 == i) && !(q.1 + 1 == i && q.2.category == 2)) = lv')
    (kk : ∀ ls' : Array Slot, lv_has ls' nL lv' → W p l e R s m args below meth c H locs cells slots Q (F0 m (pc + 3) ls' rest)) : W p l e R s m args below meth c H locs cells slots Q (F0 m pc ls rest) := lv_iinc hx hb hdg h hk (iI_add a n) hn hl kk
/-- branches; the ranges first -/
theorem xb_icmp_eq (hx : p.tables.exec = Jvm.exec) (hb : c.code = cc) {off : Int} {tgt : Nat} (hdg : decode cc pc = .ok (.if_icmp .eq off, 3)) (ht : (pc : Int) + off = (tgt : Int)) (h : (-2147483648 ≤ a ∧ a ≤ 2147483647) ∧ -2147483648 ≤ b ∧ b ≤ 2147483647)
    (kt : a = b → W p l e R s m args below meth c H locs cells slots Q (F0 m tgt ls rest)) (kf : ¬ a = b → W p l e R s m args below meth c H locs cells slots Q (F0 m (pc + 3) ls rest)) : W p l e R s m args below meth c H locs cells slots Q (F0 m pc ls (.int (iI b) :: .int (iI a) :: rest)) := lv_icmp_eq hx hb hdg ht (fun q => kt ((iI_eq h.1 h.2).mp q)) (fun q => kf (fun z => q ((iI_eq h.1 h.2).mpr z)))
theorem xb_icmp_ne (hx : p.tables.exec = Jvm.exec) (hb : c.code = cc) {off : Int} {tgt : Nat} (hdg : decode cc pc = .ok (.if_icmp .ne off, 3)) (ht : (pc : Int) + off = (tgt : Int)) (h : (-2147483648 ≤ a ∧ a ≤ 2147483647) ∧ -2147483648 ≤ b ∧ b ≤ 2147483647)
    (kt : ¬ a = b → W p l e R s m args below meth c H locs cells slots Q (F0 m tgt ls rest)) (kf : a = b → W p l e R s m args below meth c H locs cells slots Q (F0 m (pc + 3) ls rest)) : W p l e R s m args below meth c H locs cells slots Q (F0 m pc ls (.int (iI b) :: .int (iI a) :: rest)) := lv_icmp_ne hx hb hdg ht (fun q => kt (fun z => q ((iI_eq h.1 h.2).mpr z))) (fun q => kf ((iI_eq h.1 h.2).mp q))
theorem xb_icmp_lt (hx : p.tables.exec = Jvm.exec) (hb : c.code = cc) {off : Int} {tgt : Nat} (hdg : decode cc pc = .ok (.if_icmp .lt off, 3)) (ht : (pc : Int) + off = (tgt : Int)) (h : (-2147483648 ≤ a ∧ a ≤ 2147483647) ∧ -2147483648 ≤ b ∧ b ≤ 2147483647)
    (kt : a < b → W p l e R s m args below meth c H locs cells slots Q (F0 m tgt ls rest)) (kf : ¬ a < b → W p l e R s m args below meth c H locs cells slots Q (F0 m (pc + 3) ls rest)) : W p l e R s m args below meth c H locs cells slots Q (F0 m pc ls (.int (iI b) :: .int (iI a) :: rest)) := lv_icmp_lt hx hb hdg ht (fun q => kt ((iI_lt h.1 h.2).mp q)) (fun q => kf (fun z => q ((iI_lt h.1 h.2).mpr z)))
theorem xb_icmp_ge (hx : p.tables.exec = Jvm.exec) (hb : c.code = cc) {off : Int} {tgt : Nat} (hdg : decode cc pc = .ok (.if_icmp .ge off, 3)) (ht : (pc : Int) + off = (tgt : Int)) (h : (-2147483648 ≤ a ∧ a ≤ 2147483647) ∧ -2147483648 ≤ b ∧ b ≤ 2147483647)
    (kt : b ≤ a → W p l e R s m args below meth c H locs cells slots Q (F0 m tgt ls rest)) (kf : ¬ b ≤ a → W p l e R s m args below meth c H locs cells slots Q (F0 m (pc + 3) ls rest)) : W p l e R s m args below meth c H locs cells slots Q (F0 m pc ls (.int (iI b) :: .int (iI a) :: rest)) := lv_icmp_ge hx hb hdg ht (fun q => kt ((iI_le h.2 h.1).mp q)) (fun q => kf (fun z => q ((iI_le h.2 h.1).mpr z)))
theorem xb_icmp_gt (hx : p.tables.exec = Jvm.exec) (hb : c.code = cc) {off : Int} {tgt : Nat} (hdg : decode cc pc = .ok (.if_icmp .gt off, 3)) (ht : (pc : Int) + off = (tgt : Int)) (h : (-2147483648 ≤ a ∧ a ≤ 2147483647) ∧ -2147483648 ≤ b ∧ b ≤ 2147483647)
    (kt : b < a → W p l e R s m args below meth c H locs cells slots Q (F0 m tgt ls rest)) (kf : ¬ b < a → W p l e R s m args below meth c H locs cells slots Q (F0 m (pc + 3) ls rest)) : W p l e R s m args below meth c H locs cells slots Q (F0 m pc ls (.int (iI b) :: .int (iI a) :: rest)) := lv_icmp_gt hx hb hdg ht (fun q => kt ((iI_lt h.2 h.1).mp q)) (fun q => kf (fun z => q ((iI_lt h.2 h.1).mpr z)))
theorem xb_icmp_le (hx : p.tables.exec = Jvm.exec) (hb : c.code = cc) {off : Int} {tgt : Nat} (hdg : decode cc pc = .ok (.if_icmp .le off, 3)) (ht : (pc : Int) + off = (tgt : Int)) (h : (-2147483648 ≤ a ∧ a ≤ 2147483647) ∧ -2147483648 ≤ b ∧ b ≤ 2147483647)
    (kt : a ≤ b → W p l e R s m args below meth c H locs cells slots Q (F0 m tgt ls rest)) (kf : ¬ a ≤ b → W p l e R s m args below meth c H locs cells slots Q (F0 m (pc + 3) ls rest)) : W p l e R s m args below meth c H locs cells slots Q (F0 m pc ls (.int (iI b) :: .int (iI a) :: rest)) := lv_icmp_le hx hb hdg ht (fun q => kt ((iI_le h.1 h.2).mp q)) (fun q => kf (fun z => q ((iI_le h.1 h.2).mpr z)))
theorem xb_if_eq (hx : p.tables.exec = Jvm.exec) (hb : c.code = cc) {off : Int} {tgt : Nat} (hdg : decode cc pc = .ok (.ifCond .eq off, 3)) (ht : (pc : Int) + off = (tgt : Int)) (h : -2147483648 ≤ a ∧ a ≤ 2147483647)
    (kt : a = 0 → W p l e R s m args below meth c H locs cells slots Q (F0 m tgt ls rest)) (kf : ¬ a = 0 → W p l e R s m args below meth c H locs cells slots Q (F0 m (pc + 3) ls rest)) : W p l e R s m args below meth c H locs cells slots Q (F0 m pc ls (.int (iI a) :: rest)) := lv_if_eq hx hb hdg ht (fun q => kt ((iI_eq h (b := 0) (by omega)).mp q)) (fun q => kf (fun z => q ((iI_eq h (b := 0) (by omega)).mpr z)))
theorem xb_if_ne (hx : p.tables.exec = Jvm.exec) (hb : c.code = cc) {off : Int} {tgt : Nat} (hdg : decode cc pc = .ok (.ifCond .ne off, 3)) (ht : (pc : Int) + off = (tgt : Int)) (h : -2147483648 ≤ a ∧ a ≤ 2147483647)
    (kt : ¬ a = 0 → W p l e R s m args below meth c H locs cells slots Q (F0 m tgt ls rest)) (kf : a = 0 → W p l e R s m args below meth c H locs cells slots Q (F0 m (pc + 3) ls rest)) : W p l e R s m args below meth c H locs cells slots Q (F0 m pc ls (.int (iI a) :: rest)) := lv_if_ne hx hb hdg ht (fun q => kt (fun z => q ((iI_eq h (b := 0) (by omega)).mpr z))) (fun q => kf ((iI_eq h (b := 0) (by omega)).mp q))
theorem xb_if_lt (hx : p.tables.exec = Jvm.exec) (hb : c.code = cc) {off : Int} {tgt : Nat} (hdg : decode cc pc = .ok (.ifCond .lt off, 3)) (ht : (pc : Int) + off = (tgt : Int)) (h : -2147483648 ≤ a ∧ a ≤ 2147483647)
    (kt : a < 0 → W p l e R s m args below meth c H locs cells slots Q (F0 m tgt ls rest)) (kf : ¬ a < 0 → W p l e R s m args below meth c H locs cells slots Q (F0 m (pc + 3) ls rest)) : W p l e R s m args below meth c H locs cells slots Q (F0 m pc ls (.int (iI a) :: rest)) := lv_if_lt hx hb hdg ht (fun q => kt ((iI_lt h (b := 0) (by omega)).mp q)) (fun q => kf (fun z => q ((iI_lt h (b := 0) (by omega)).mpr z)))
theorem xb_if_ge (hx : p.tables.exec = Jvm.exec) (hb : c.code = cc) {off : Int} {tgt : Nat} (hdg : decode cc pc = .ok (.ifCond .ge off, 3)) (ht : (pc : Int) + off = (tgt : Int)) (h : -2147483648 ≤ a ∧ a ≤ 2147483647)
    (kt : 0 ≤ a → W p l e R s m args below meth c H locs cells slots Q (F0 m tgt ls rest)) (kf : ¬ 0 ≤ a → W p l e R s m args below meth c H locs cells slots Q (F0 m (pc + 3) ls rest)) : W p l e R s m args below meth c H locs cells slots Q (F0 m pc ls (.int (iI a) :: rest)) := lv_if_ge hx hb hdg ht (fun q => kt ((iI_le (a := 0) (by omega) h).mp q)) (fun q => kf (fun z => q ((iI_le (a := 0) (by omega) h).mpr z)))
theorem xb_if_gt (hx : p.tables.exec = Jvm.exec) (hb : c.code = cc) {off : Int} {tgt : Nat} (hdg : decode cc pc = .ok (.ifCond .gt off, 3)) (ht : (pc : Int) + off = (tgt : Int)) (h : -2147483648 ≤ a ∧ a ≤ 2147483647)
    (kt : 0 < a → W p l e R s m args below meth c H locs cells slots Q (F0 m tgt ls rest)) (kf : ¬ 0 < a → W p l e R s m args below meth c H locs cells slots Q (F0 m (pc + 3) ls rest)) : W p l e R s m args below meth c H locs cells slots Q (F0 m pc ls (.int (iI a) :: rest)) := lv_if_gt hx hb hdg ht (fun q => kt ((iI_lt (a := 0) (by omega) h).mp q)) (fun q => kf (fun z => q ((iI_lt (a := 0) (by omega) h).mpr z)))
theorem xb_if_le (hx : p.tables.exec = Jvm.exec) (hb : c.code = cc) {off : Int} {tgt : Nat} (hdg : decode cc pc = .ok (.ifCond .le off, 3)) (ht : (pc : Int) + off = (tgt : Int)) (h : -2147483648 ≤ a ∧ a ≤ 2147483647)
    (kt : a ≤ 0 → W p l e R s m args below meth c H locs cells slots Q (F0 m tgt ls rest)) (kf : ¬ a ≤ 0 → W p l e R s m args below meth c H locs cells slots Q (F0 m (pc + 3) ls rest)) : W p l e R s m args below meth c H locs cells slots Q (F0 m pc ls (.int (iI a) :: rest)) := lv_if_le hx hb hdg ht (fun q => kt ((iI_le h (b := 0) (by omega)).mp q)) (fun q => kf (fun z => q ((iI_le h (b := 0) (by omega)).mpr z)))
/-- branches on a truth -/
theorem xb_if_eqB (hx : p.tables.exec = Jvm.exec) (hb : c.code = cc) {P : Prop} {off : Int} {tgt : Nat} (hdg : decode cc pc = .ok (.ifCond .eq off, 3)) (ht : (pc : Int) + off = (tgt : Int))
    (kt : ¬ P → W p l e R s m args below meth c H locs cells slots Q (F0 m tgt ls rest)) (kf : P → W p l e R s m args below meth c H locs cells slots Q (F0 m (pc + 3) ls rest)) : W p l e R s m args below meth c H locs cells slots Q (F0 m pc ls (.int (iI (b2 P)) :: rest)) := xb_if_eq hx hb hdg ht (by rcases b2_01 P with h | h <;> omega) (fun q => kt (b2_0.mp q)) (fun q => kf (Classical.byContradiction fun z => q (b2_f z)))
theorem xb_if_neB (hx : p.tables.exec = Jvm.exec) (hb : c.code = cc) {P : Prop} {off : Int} {tgt : Nat} (hdg : decode cc pc = .ok (.ifCond .ne off, 3)) (ht : (pc : Int) + off = (tgt : Int))
    (kt : P → W p l e R s m args below meth c H locs cells slots Q (F0 m tgt ls rest)) (kf : ¬ P → W p l e R s m args below meth c H locs cells slots Q (F0 m (pc + 3) ls rest)) : W p l e R s m args below meth c H locs cells slots Q (F0 m pc ls (.int (iI (b2 P)) :: rest)) := xb_if_ne hx hb hdg ht (by rcases b2_01 P with h | h <;> omega) (fun q => kt (Classical.byContradiction fun z => q (b2_f z))) (fun q => kf (b2_0.mp q))
/-- the compare of longs with its branch -/
theorem xl_cmp_if (hx : p.tables.exec = Jvm.exec) (hb : c.code = cc) {off : Int} {tgt : Nat} (hdg : decode cc pc = .ok (.lcmp, 1)) (h : (-9223372036854775808 ≤ a ∧ a ≤ 9223372036854775807) ∧ -9223372036854775808 ≤ b ∧ b ≤ 9223372036854775807)
    (k : ∀ d : Int, -1 ≤ d ∧ d ≤ 1 → (d = 0 ↔ a = b) → (d < 0 ↔ a < b) → (0 < d ↔ b < a) → W p l e R s m args below meth c H locs cells slots Q (F0 m (pc + 1) ls (.int (iI d) :: rest))) : W p l e R s m args below meth c H locs cells slots Q (F0 m pc ls (.long (lI b) :: .long (lI a) :: rest)) := by
  refine xl_cmp hx hb hdg h ?_
  by_cases q : b < a
  · rw [if_pos q]; exact k 1 (by omega) (by omega) (by omega) (by omega)
  · by_cases q2 : a = b
    · rw [if_neg q, if_pos q2]; exact k 0 (by omega) (by omega) (by omega) (by omega)
    · rw [if_neg q, if_neg q2]; exact k (-1) (by omega) (by omega) (by omega) (by omega)
theorem xi_ald (hx : p.tables.exec = Jvm.exec) (hb : c.code = cc) {D : va_G} {cl : List vw_C} {tys : List (ClassId × FieldType)} {ws : va_W} {aa : Nat} (hK : va_K D cl tys s) (hP : va_P D cl ws H) (q0 t0 : Nat) {cA : ClassId} {n : Nat} {g : Int → Int} (ha : ws[q0]? = some (aa, .inl (cA, n, .inl (xA g)))) (ht : tys[t0]? = some (cA, .int)) (hn : n < 2147483648) (hin : 0 ≤ a ∧ a < n) (hdg : decode cc pc = .ok (.iaload, 1))
    (kk : W p l e R s m args below meth c H locs cells slots Q (F0 m (pc + 1) ls (.int (iI (g a)) :: rest))) : W p l e R s m args below meth c H locs cells slots Q (F0 m pc ls (.int (iI a) :: .ref aa :: rest)) := va_iald hx hb hK hP q0 t0 ha ht (xin hin hn) hdg (by rw [xA_get g (by omega)]; exact kk)
theorem xl_ald (hx : p.tables.exec = Jvm.exec) (hb : c.code = cc) {D : va_G} {cl : List vw_C} {tys : List (ClassId × FieldType)} {ws : va_W} {aa : Nat} (hK : va_K D cl tys s) (hP : va_P D cl ws H) (q0 t0 : Nat) {cA : ClassId} {n : Nat} {g : Int → Int} (ha : ws[q0]? = some (aa, .inl (cA, n, .inr (.inl (xL g))))) (ht : tys[t0]? = some (cA, .long)) (hn : n < 2147483648) (hin : 0 ≤ a ∧ a < n) (hdg : decode cc pc = .ok (.laload, 1))
    (kk : W p l e R s m args below meth c H locs cells slots Q (F0 m (pc + 1) ls (.long (lI (g a)) :: rest))) : W p l e R s m args below meth c H locs cells slots Q (F0 m pc ls (.int (iI a) :: .ref aa :: rest)) := va_lald hx hb hK hP q0 t0 ha ht (xin hin hn) hdg (by rw [xL_get g (by omega)]; exact kk)
theorem xi_ast (hx : p.tables.exec = Jvm.exec) (hb : c.code = cc) {D : va_G} {cl : List vw_C} {tys : List (ClassId × FieldType)} {ws : va_W} {aa : Nat} {A : Nat → Prop} {H0 : Heap} (hK : va_K D cl tys s) (hP : va_P D cl ws H) (hD : va_D A ws) (hS : va_S A H0 H locs) (q0 t0 : Nat) {cA : ClassId} {n : Nat} {g : Int → Int} (ha : ws[q0]? = some (aa, .inl (cA, n, .inl (xA g)))) (ht : tys[t0]? = some (cA, .int)) (hn : n < 2147483648) (hin : 0 ≤ a ∧ a < n) (hdg : decode cc pc = .ok (.iastore, 1))
    (kk : ∀ (H1 : Heap) (locs1 : List Loc), va_P D cl (ws.set q0 (aa, .inl (cA, n, .inl (xA (uz g a b))))) H1 → va_D A (ws.set q0 (aa, .inl (cA, n, .inl (xA (uz g a b))))) → va_S A H0 H1 locs1 → W p l e R s m args below meth c H1 locs1 cells slots Q (F0 m (pc + 1) ls rest)) : W p l e R s m args below meth c H locs cells slots Q (F0 m pc ls (.int (iI b) :: .int (iI a) :: .ref aa :: rest)) := va_iast hx hb hK hP hD hS q0 t0 ha ht (xin hin hn) hdg (by rw [xA_upd g b (by omega)]; exact kk)
theorem xl_ast (hx : p.tables.exec = Jvm.exec) (hb : c.code = cc) {D : va_G} {cl : List vw_C} {tys : List (ClassId × FieldType)} {ws : va_W} {aa : Nat} {A : Nat → Prop} {H0 : Heap} (hK : va_K D cl tys s) (hP : va_P D cl ws H) (hD : va_D A ws) (hS : va_S A H0 H locs) (q0 t0 : Nat) {cA : ClassId} {n : Nat} {g : Int → Int} (ha : ws[q0]? = some (aa, .inl (cA, n, .inr (.inl (xL g))))) (ht : tys[t0]? = some (cA, .long)) (hn : n < 2147483648) (hin : 0 ≤ a ∧ a < n) (hdg : decode cc pc = .ok (.lastore, 1))
    (kk : ∀ (H1 : Heap) (locs1 : List Loc), va_P D cl (ws.set q0 (aa, .inl (cA, n, .inr (.inl (xL (uz g a b)))))) H1 → va_D A (ws.set q0 (aa, .inl (cA, n, .inr (.inl (xL (uz g a b)))))) → va_S A H0 H1 locs1 → W p l e R s m args below meth c H1 locs1 cells slots Q (F0 m (pc + 1) ls rest)) : W p l e R s m args below meth c H locs cells slots Q (F0 m pc ls (.long (lI b) :: .int (iI a) :: .ref aa :: rest)) := va_last hx hb hK hP hD hS q0 t0 ha ht (xin hin hn) hdg (by rw [xL_upd g b (by omega)]; exact kk)
/-- calls of readers -/
theorem xc {st0 : List Value} {v : Option Value} {av : Array Value} (hr : va_Run p l e R s m args below meth c H locs cells slots 0 0 (F0 m pc ls st0) rest (xq v av) (fun _ => False)) (kk : W p l e R s m args below meth c H locs cells slots Q (F0 m (pc + 3) ls (v.toList ++ rest))) : W p l e R s m args below meth c H locs cells slots Q (F0 m pc ls st0) := by
  intro T hT X
  obtain ⟨v', st₀, t, T', L, h0, X', hL, e1, -, ⟨hv, hh⟩, st⟩ := hr T hT X
  cases hv
  obtain ⟨t2, a1, b1⟩ := kk T' (by rw [e1, hh, h0]) (Stand.forget X' (fun q h => (hL q h).elim))
  exact ⟨t2, st t2 a1, b1⟩
end XI
theorem xpS {s : State} {H : Heap} {D : va_G} {cl : List vw_C} {wc : va_W} {tys : List (ClassId × FieldType)} {As : List Value} (hP : va_P D cl wc H) (hK : va_K D cl tys s) : PreS s H (va_Pc As (xR D cl wc tys)) As :=
  ⟨fun a U g mk q => by obtain ⟨q0, qP, qK⟩ := q; exact ⟨q0, qP, va_K.moved (u := U) (U := U.calling g mk a) (Vm.Alike.refl U.vm) qK⟩, fun U hU hW => ⟨rfl, by rw [hU]; exact hP, va_K.moved hW.alike hK⟩⟩
theorem xpV {s : State} {H : Heap} {D : va_G} {cl : List vw_C} {wc : va_W} {tys : List (ClassId × FieldType)} {h0 : Nat} {As : List Value} (hP : va_P D cl wc H) (hK : va_K D cl tys s) {ci q0 : Nat} {q : vw_C} {fs : List Value} (hc : cl[ci]? = some q) (he : wc[q0]? = some (h0, .inr (ci, fs))) : PreV s H q.1 h0 (va_Pc (.ref h0 :: As) (xR D cl wc tys)) As :=
  ⟨(xpS (As := .ref h0 :: As) hP hK).1, va_recv hK hP hc he, fun U hU hW => ⟨rfl, by rw [hU]; exact hP, va_K.moved hW.alike hK⟩⟩
theorem xpSM {s : State} {H : Heap} {D : va_G} {cl : List vw_C} {wc : va_W} {tys : List (ClassId × FieldType)} {As : List Value} {A : Nat → Prop} (hP : va_P D cl wc H) (hK : va_K D cl tys s) (hD : va_D A wc) : PreS s H (va_Pc As (xM D cl wc tys H.size)) As :=
  ⟨fun a U g mk q => by obtain ⟨q0, q1, qP, qK, qD⟩ := q; exact ⟨q0, q1, qP, va_K.moved (u := U) (U := U.calling g mk a) (Vm.Alike.refl U.vm) qK, qD⟩, fun U hU hW => ⟨rfl, by rw [hU], by rw [hU]; exact hP, va_K.moved hW.alike hK, hD.weaken (fun _ _ _ _ => trivial)⟩⟩
theorem xpVM {s : State} {H : Heap} {D : va_G} {cl : List vw_C} {wc : va_W} {tys : List (ClassId × FieldType)} {h0 : Nat} {As : List Value} {A : Nat → Prop} (hP : va_P D cl wc H) (hK : va_K D cl tys s) (hD : va_D A wc) {ci q0 : Nat} {q : vw_C} {fs : List Value} (hc : cl[ci]? = some q) (he : wc[q0]? = some (h0, .inr (ci, fs))) : PreV s H q.1 h0 (va_Pc (.ref h0 :: As) (xM D cl wc tys H.size)) As :=
  ⟨(xpSM (As := .ref h0 :: As) hP hK hD).1, va_recv hK hP hc he, fun U hU hW => ⟨rfl, by rw [hU], by rw [hU]; exact hP, va_K.moved hW.alike hK, hD.weaken (fun _ _ _ _ => trivial)⟩⟩
abbrev xT (cyI cyJ cyO : ClassId) : List (ClassId × FieldType) := [(cyI, .int), (cyJ, .long), (cyO, .object "WallMarks$Sheet")]
def zabs (a : Int) : Int := if 0 < a then a else -a
def zmax (a b : Int) : Int := if a < b then b else a
def zmin (a b : Int) : Int := if b < a then b else a
def sxB (a : Int) : Int := (Int8.ofInt a).toInt
def sxS (a : Int) : Int := (Int16.ofInt a).toInt
theorem zabs_e (a : Int) : (0 ≤ a → zabs a = a) ∧ (a ≤ 0 → zabs a = -a) := by unfold zabs; split <;> omega
theorem zmax_e (a b : Int) : (a ≤ b → zmax a b = b) ∧ (b ≤ a → zmax a b = a) := by unfold zmax; split <;> omega
theorem zmin_e (a b : Int) : (a ≤ b → zmin a b = a) ∧ (b ≤ a → zmin a b = b) := by unfold zmin; split <;> omega
theorem sxB_in (a : Int) : -128 ≤ sxB a ∧ sxB a ≤ 127 := by
  unfold sxB; have h1 := (Int8.ofInt a).le_toInt; have h2 := (Int8.ofInt a).toInt_lt; omega
theorem sxS_in (a : Int) : -32768 ≤ sxS a ∧ sxS a ≤ 32767 := by
  unfold sxS; have h1 := (Int16.ofInt a).le_toInt; have h2 := (Int16.ofInt a).toInt_lt; omega
section XI2
variable {p : Program} {l : Launch} {e : Env} {R : Room} {s : State} {m : MethodId} {args : Array Value} {below : List Frame} {meth : Method} {c : Code} {H : Heap} {locs : List Loc} {cells slots : Nat} {Q : State → Prop}
variable {pc : Nat} {ls : Array Slot} {rest : List Value} {cc : ByteArray} {a b : Int}
theorem xi_i2b (hx : p.tables.exec = Jvm.exec) (hb : c.code = cc) (hdg : decode cc pc = .ok (.i2b, 1)) (k : W p l e R s m args below meth c H locs cells slots Q (F0 m (pc + 1) ls (.int (iI (sxB a)) :: rest))) : W p l e R s m args below meth c H locs cells slots Q (F0 m pc ls (.int (iI a) :: rest)) := lv_i2b hx hb hdg (by unfold iI sxB; rw [Int32.toInt8_ofInt, Int32.ofInt_int8ToInt]) k
theorem xi_i2s (hx : p.tables.exec = Jvm.exec) (hb : c.code = cc) (hdg : decode cc pc = .ok (.i2s, 1)) (k : W p l e R s m args below meth c H locs cells slots Q (F0 m (pc + 1) ls (.int (iI (sxS a)) :: rest))) : W p l e R s m args below meth c H locs cells slots Q (F0 m pc ls (.int (iI a) :: rest)) := lv_i2s hx hb hdg (by unfold iI sxS; rw [Int32.toInt16_ofInt, Int32.ofInt_int16ToInt]) k
theorem xl_if_eq (hx : p.tables.exec = Jvm.exec) (hb : c.code = cc) {off : Int} {tgt : Nat} (hdg : decode cc pc = .ok (.lcmp, 1)) (hdg2 : decode cc (pc + 1) = .ok (.ifCond .eq off, 3)) (ht : ((pc + 1 : Nat) : Int) + off = (tgt : Int)) (h : (-9223372036854775808 ≤ a ∧ a ≤ 9223372036854775807) ∧ -9223372036854775808 ≤ b ∧ b ≤ 9223372036854775807)
    (kt : a = b → W p l e R s m args below meth c H locs cells slots Q (F0 m tgt ls rest)) (kf : ¬ a = b → W p l e R s m args below meth c H locs cells slots Q (F0 m (pc + 1 + 3) ls rest)) : W p l e R s m args below meth c H locs cells slots Q (F0 m pc ls (.long (lI b) :: .long (lI a) :: rest)) :=
  xl_cmp_if hx hb (tgt := tgt) (off := off) hdg h (fun d h1 h2 h3 h4 => xb_if_eq hx hb hdg2 ht (by omega) (fun q => kt (h2.mp q)) (fun q => kf (fun z => q (h2.mpr z))))
theorem xl_if_ne (hx : p.tables.exec = Jvm.exec) (hb : c.code = cc) {off : Int} {tgt : Nat} (hdg : decode cc pc = .ok (.lcmp, 1)) (hdg2 : decode cc (pc + 1) = .ok (.ifCond .ne off, 3)) (ht : ((pc + 1 : Nat) : Int) + off = (tgt : Int)) (h : (-9223372036854775808 ≤ a ∧ a ≤ 9223372036854775807) ∧ -9223372036854775808 ≤ b ∧ b ≤ 9223372036854775807)
    (kt : ¬ a = b → W p l e R s m args below meth c H locs cells slots Q (F0 m tgt ls rest)) (kf : a = b → W p l e R s m args below meth c H locs cells slots Q (F0 m (pc + 1 + 3) ls rest)) : W p l e R s m args below meth c H locs cells slots Q (F0 m pc ls (.long (lI b) :: .long (lI a) :: rest)) :=
  xl_cmp_if hx hb (tgt := tgt) (off := off) hdg h (fun d h1 h2 h3 h4 => xb_if_ne hx hb hdg2 ht (by omega) (fun q => kt (fun z => q (h2.mpr z))) (fun q => kf (h2.mp q)))
theorem xl_if_lt (hx : p.tables.exec = Jvm.exec) (hb : c.code = cc) {off : Int} {tgt : Nat} (hdg : decode cc pc = .ok (.lcmp, 1)) (hdg2 : decode cc (pc + 1) = .ok (.ifCond .lt off, 3)) (ht : ((pc + 1 : Nat) : Int) + off = (tgt : Int)) (h : (-9223372036854775808 ≤ a ∧ a ≤ 9223372036854775807) ∧ -9223372036854775808 ≤ b ∧ b ≤ 9223372036854775807)
    (kt : a < b → W p l e R s m args below meth c H locs cells slots Q (F0 m tgt ls rest)) (kf : ¬ a < b → W p l e R s m args below meth c H locs cells slots Q (F0 m (pc + 1 + 3) ls rest)) : W p l e R s m args below meth c H locs cells slots Q (F0 m pc ls (.long (lI b) :: .long (lI a) :: rest)) :=
  xl_cmp_if hx hb (tgt := tgt) (off := off) hdg h (fun d h1 h2 h3 h4 => xb_if_lt hx hb hdg2 ht (by omega) (fun q => kt (h3.mp q)) (fun q => kf (fun z => q (h3.mpr z))))
theorem xl_if_ge (hx : p.tables.exec = Jvm.exec) (hb : c.code = cc) {off : Int} {tgt : Nat} (hdg : decode cc pc = .ok (.lcmp, 1)) (hdg2 : decode cc (pc + 1) = .ok (.ifCond .ge off, 3)) (ht : ((pc + 1 : Nat) : Int) + off = (tgt : Int)) (h : (-9223372036854775808 ≤ a ∧ a ≤ 9223372036854775807) ∧ -9223372036854775808 ≤ b ∧ b ≤ 9223372036854775807)
    (kt : b ≤ a → W p l e R s m args below meth c H locs cells slots Q (F0 m tgt ls rest)) (kf : ¬ b ≤ a → W p l e R s m args below meth c H locs cells slots Q (F0 m (pc + 1 + 3) ls rest)) : W p l e R s m args below meth c H locs cells slots Q (F0 m pc ls (.long (lI b) :: .long (lI a) :: rest)) :=
  xl_cmp_if hx hb (tgt := tgt) (off := off) hdg h (fun d h1 h2 h3 h4 => xb_if_ge hx hb hdg2 ht (by omega) (fun q => kt (by omega)) (fun q => kf (by omega)))
theorem xl_if_gt (hx : p.tables.exec = Jvm.exec) (hb : c.code = cc) {off : Int} {tgt : Nat} (hdg : decode cc pc = .ok (.lcmp, 1)) (hdg2 : decode cc (pc + 1) = .ok (.ifCond .gt off, 3)) (ht : ((pc + 1 : Nat) : Int) + off = (tgt : Int)) (h : (-9223372036854775808 ≤ a ∧ a ≤ 9223372036854775807) ∧ -9223372036854775808 ≤ b ∧ b ≤ 9223372036854775807)
    (kt : b < a → W p l e R s m args below meth c H locs cells slots Q (F0 m tgt ls rest)) (kf : ¬ b < a → W p l e R s m args below meth c H locs cells slots Q (F0 m (pc + 1 + 3) ls rest)) : W p l e R s m args below meth c H locs cells slots Q (F0 m pc ls (.long (lI b) :: .long (lI a) :: rest)) :=
  xl_cmp_if hx hb (tgt := tgt) (off := off) hdg h (fun d h1 h2 h3 h4 => xb_if_gt hx hb hdg2 ht (by omega) (fun q => kt (h4.mp q)) (fun q => kf (fun z => q (h4.mpr z))))
theorem xl_if_le (hx : p.tables.exec = Jvm.exec) (hb : c.code = cc) {off : Int} {tgt : Nat} (hdg : decode cc pc = .ok (.lcmp, 1)) (hdg2 : decode cc (pc + 1) = .ok (.ifCond .le off, 3)) (ht : ((pc + 1 : Nat) : Int) + off = (tgt : Int)) (h : (-9223372036854775808 ≤ a ∧ a ≤ 9223372036854775807) ∧ -9223372036854775808 ≤ b ∧ b ≤ 9223372036854775807)
    (kt : a ≤ b → W p l e R s m args below meth c H locs cells slots Q (F0 m tgt ls rest)) (kf : ¬ a ≤ b → W p l e R s m args below meth c H locs cells slots Q (F0 m (pc + 1 + 3) ls rest)) : W p l e R s m args below meth c H locs cells slots Q (F0 m pc ls (.long (lI b) :: .long (lI a) :: rest)) :=
  xl_cmp_if hx hb (tgt := tgt) (off := off) hdg h (fun d h1 h2 h3 h4 => xb_if_le hx hb hdg2 ht (by omega) (fun q => kt (by omega)) (fun q => kf (by omega)))
theorem xi_tab (hx : p.tables.exec = Jvm.exec) (hb : c.code = cc) {dflt lo hi : Int} {offs : Array Int} {len : Nat} {off : Int} {tgt : Nat} {k : Int} (hdg : decode cc pc = .ok (.tableswitch dflt lo hi offs, len)) (he : a = k) (hr : -2147483648 ≤ k ∧ k ≤ 2147483647) (h1 : ¬ k < lo) (h2 : ¬ hi < k) (ho : offs[(k - lo).toNat]? = some off) (ht : (pc : Int) + off = (tgt : Int))
    (kk : W p l e R s m args below meth c H locs cells slots Q (F0 m tgt ls rest)) : W p l e R s m args below meth c H locs cells slots Q (F0 m pc ls (.int (iI a) :: rest)) := by
  subst he
  exact lv_tableIn hx hb hdg (by rw [iI_int hr]; exact h1) (by rw [iI_int hr]; exact h2) (by rw [iI_int hr]; exact ho) ht kk
theorem xi_tabO (hx : p.tables.exec = Jvm.exec) (hb : c.code = cc) {dflt lo hi : Int} {offs : Array Int} {len : Nat} {tgt : Nat} (hdg : decode cc pc = .ok (.tableswitch dflt lo hi offs, len)) (hr : -2147483648 ≤ a ∧ a ≤ 2147483647) (h : a < lo ∨ hi < a) (ht : (pc : Int) + dflt = (tgt : Int))
    (kk : W p l e R s m args below meth c H locs cells slots Q (F0 m tgt ls rest)) : W p l e R s m args below meth c H locs cells slots Q (F0 m pc ls (.int (iI a) :: rest)) := lv_tableOut hx hb hdg (by rw [iI_int hr]; exact h) ht kk
theorem xc_i {st0 : List Value} {v : Int32} {av : Array Value} (hr : va_Run p l e R s m args below meth c H locs cells slots 0 0 (F0 m pc ls st0) rest (xq (some (.int v)) av) (fun _ => False)) (kk : W p l e R s m args below meth c H locs cells slots Q (F0 m (pc + 3) ls (.int v :: rest))) : W p l e R s m args below meth c H locs cells slots Q (F0 m pc ls st0) := xc hr kk
theorem xc_l {st0 : List Value} {v : Int64} {av : Array Value} (hr : va_Run p l e R s m args below meth c H locs cells slots 0 0 (F0 m pc ls st0) rest (xq (some (.long v)) av) (fun _ => False)) (kk : W p l e R s m args below meth c H locs cells slots Q (F0 m (pc + 3) ls (.long v :: rest))) : W p l e R s m args below meth c H locs cells slots Q (F0 m pc ls st0) := xc hr kk
theorem xc_v {st0 : List Value} {av : Array Value} (hr : va_Run p l e R s m args below meth c H locs cells slots 0 0 (F0 m pc ls st0) rest (xq none av) (fun _ => False)) (kk : W p l e R s m args below meth c H locs cells slots Q (F0 m (pc + 3) ls rest)) : W p l e R s m args below meth c H locs cells slots Q (F0 m pc ls st0) := xc hr kk
theorem xm_max (hx : p.tables.exec = Jvm.exec) (hb : c.code = cc) (hml : c.maxLocals = ls.size) {own : String} {index : Nat} (hown : s.vm.findClass own = some m.cls) (hlink : (Cond.methodLink own index Lib.Math.max.name).before args s = true) (hstat : (Cond.static Lib.Math.max.name).before args s = true) (hini : (Cond.initialized "java/lang/Math").before args s = true) (hcode : (Cond.code Lib.Math.max.name Lib.Math.max.code 2 (some .int)).before args s = true)
    (hframes : 1 ≤ R.frames) (hlocals : (rest.map fun v => v.category).sum + 13 ≤ R.locals) (hc : cells ≤ R.cells) (hs : slots ≤ R.slots) (hdg : decode cc pc = .ok (.invokestatic index, 3)) (h : (-2147483648 ≤ a ∧ a ≤ 2147483647) ∧ -2147483648 ≤ b ∧ b ≤ 2147483647)
    (kk : W p l e R s m args below meth c H locs cells slots Q (F0 m (pc + 3) ls (.int (iI (zmax a b)) :: rest))) : W p l e R s m args below meth c H locs cells slots Q (F0 m pc ls (.int (iI b) :: .int (iI a) :: rest)) := va_mmax hx hb hml hown hlink hstat hini hcode hframes hlocals hc hs hdg (by
  have e : (if iI a < iI b then iI b else iI a) = iI (zmax a b) := by
    unfold zmax
    by_cases q : a < b
    · rw [if_pos ((iI_lt h.1 h.2).mpr q), if_pos q]
    · rw [if_neg (fun z => q ((iI_lt h.1 h.2).mp z)), if_neg q]
  rw [e]; exact kk)
theorem xm_min (hx : p.tables.exec = Jvm.exec) (hb : c.code = cc) (hml : c.maxLocals = ls.size) {own : String} {index : Nat} (hown : s.vm.findClass own = some m.cls) (hlink : (Cond.methodLink own index Lib.Math.min.name).before args s = true) (hstat : (Cond.static Lib.Math.min.name).before args s = true) (hini : (Cond.initialized "java/lang/Math").before args s = true) (hcode : (Cond.code Lib.Math.min.name Lib.Math.min.code 2 (some .int)).before args s = true)
    (hframes : 1 ≤ R.frames) (hlocals : (rest.map fun v => v.category).sum + 13 ≤ R.locals) (hc : cells ≤ R.cells) (hs : slots ≤ R.slots) (hdg : decode cc pc = .ok (.invokestatic index, 3)) (h : (-2147483648 ≤ a ∧ a ≤ 2147483647) ∧ -2147483648 ≤ b ∧ b ≤ 2147483647)
    (kk : W p l e R s m args below meth c H locs cells slots Q (F0 m (pc + 3) ls (.int (iI (zmin a b)) :: rest))) : W p l e R s m args below meth c H locs cells slots Q (F0 m pc ls (.int (iI b) :: .int (iI a) :: rest)) := va_mmin hx hb hml hown hlink hstat hini hcode hframes hlocals hc hs hdg (by
  have e : (if iI b < iI a then iI b else iI a) = iI (zmin a b) := by
    unfold zmin
    by_cases q : b < a
    · rw [if_pos ((iI_lt h.2 h.1).mpr q), if_pos q]
    · rw [if_neg (fun z => q ((iI_lt h.2 h.1).mp z)), if_neg q]
  rw [e]; exact kk)
theorem xm_abs_long (hx : p.tables.exec = Jvm.exec) (hb : c.code = cc) (hml : c.maxLocals = ls.size) {own : String} {index : Nat} (hown : s.vm.findClass own = some m.cls) (hlink : (Cond.methodLink own index Lib.MathLoose.abs_long.x).before args s = true) (hstat : (Cond.static Lib.MathLoose.abs_long.x).before args s = true) (hini : (Cond.initialized "java/lang/Math").before args s = true) (hcode : (Cond.code Lib.MathLoose.abs_long.x Lib.MathLoose.abs_long.code 2 (some .long)).before args s = true)
    (hframes : 1 ≤ R.frames) (hlocals : (rest.map fun v => v.category).sum + 13 ≤ R.locals) (hc : cells ≤ R.cells) (hs : slots ≤ R.slots) (hdg : decode cc pc = .ok (.invokestatic index, 3)) (h : -9223372036854775808 ≤ a ∧ a ≤ 9223372036854775807)
    (kk : W p l e R s m args below meth c H locs cells slots Q (F0 m (pc + 3) ls (.long (lI (zabs a)) :: rest))) : W p l e R s m args below meth c H locs cells slots Q (F0 m pc ls (.long (lI a) :: rest)) := va_mabs_long hx hb hml hown hlink hstat hini hcode hframes hlocals hc hs hdg (by
  have e : (if 0 < lI a then lI a else -lI a) = lI (zabs a) := by
    unfold zabs
    by_cases q : 0 < a
    · rw [if_pos (show (0 : Int64) < lI a from (lI_lt (a := 0) (by omega) h).mpr q), if_pos q]
    · rw [if_neg (show ¬ (0 : Int64) < lI a from fun z => q ((lI_lt (a := 0) (by omega) h).mp z)), if_neg q, lI_neg]
  rw [e]; exact kk)
theorem xm_max_long (hx : p.tables.exec = Jvm.exec) (hb : c.code = cc) (hml : c.maxLocals = ls.size) {own : String} {index : Nat} (hown : s.vm.findClass own = some m.cls) (hlink : (Cond.methodLink own index Lib.MathLoose.max_long.x).before args s = true) (hstat : (Cond.static Lib.MathLoose.max_long.x).before args s = true) (hini : (Cond.initialized "java/lang/Math").before args s = true) (hcode : (Cond.code Lib.MathLoose.max_long.x Lib.MathLoose.max_long.code 4 (some .long)).before args s = true)
    (hframes : 1 ≤ R.frames) (hlocals : (rest.map fun v => v.category).sum + 15 ≤ R.locals) (hc : cells ≤ R.cells) (hs : slots ≤ R.slots) (hdg : decode cc pc = .ok (.invokestatic index, 3)) (h : (-9223372036854775808 ≤ a ∧ a ≤ 9223372036854775807) ∧ -9223372036854775808 ≤ b ∧ b ≤ 9223372036854775807)
    (kk : W p l e R s m args below meth c H locs cells slots Q (F0 m (pc + 3) ls (.long (lI (zmax a b)) :: rest))) : W p l e R s m args below meth c H locs cells slots Q (F0 m pc ls (.long (lI b) :: .long (lI a) :: rest)) := va_mmax_long hx hb hml hown hlink hstat hini hcode hframes hlocals hc hs hdg (by
  have e : (if lI b < lI a then lI a else lI b) = lI (zmax a b) := by
    unfold zmax
    by_cases q : a < b
    · rw [if_neg (fun z => by have := (lI_lt h.2 h.1).mp z; omega), if_pos q]
    · rw [if_neg q]
      by_cases q2 : b < a
      · rw [if_pos ((lI_lt h.2 h.1).mpr q2)]
      · rw [if_neg (fun z => q2 ((lI_lt h.2 h.1).mp z)), show a = b from by omega]
  rw [e]; exact kk)
end XI2
/-! folds and sums over ints from 0 -/
def fz {α : Type} (f : Int → α → α) (a : α) : Nat → α
  | 0 => a
  | n + 1 => f (n : Int) (fz f a n)
def foldZ {α : Type} (f : Int → α → α) (n : Int) (a : α) : α := fz f a n.toNat
theorem foldZ_0 {α : Type} (f : Int → α → α) (a : α) : foldZ f 0 a = a := rfl
theorem foldZ_s {α : Type} (f : Int → α → α) {n : Int} (h : 0 ≤ n) (a : α) : foldZ f (n + 1) a = f n (foldZ f n a) := by
  unfold foldZ
  rw [show (n + 1).toNat = n.toNat + 1 from by omega]
  show f ((n.toNat : Nat) : Int) _ = _
  rw [Int.toNat_of_nonneg h]
theorem foldZ_ind {α : Type} (f : Int → α → α) (a : α) (P : Int → α → Prop) (h0 : P 0 a) (N : Int) (hs : ∀ (n : Int) (x : α), 0 ≤ n → n < N → P n x → P (n + 1) (f n x)) : ∀ n : Int, 0 ≤ n → n ≤ N → P n (foldZ f n a) := by
  intro n hn hN
  obtain ⟨k, rfl⟩ : ∃ k : Nat, n = k := ⟨n.toNat, by omega⟩
  induction k with
  | zero => exact h0
  | succ k ih =>
    rw [show ((k + 1 : Nat) : Int) = (k : Int) + 1 from rfl, foldZ_s f (by omega)]
    exact hs _ _ (by omega) (by omega) (ih (by omega) (by omega))
theorem foldZ_congr {α : Type} {f g : Int → α → α} (a : α) (N : Int) (h : ∀ (n : Int) (x : α), 0 ≤ n → n < N → f n x = g n x) : ∀ n : Int, 0 ≤ n → n ≤ N → foldZ f n a = foldZ g n a := by
  intro n hn hN
  obtain ⟨k, rfl⟩ : ∃ k : Nat, n = k := ⟨n.toNat, by omega⟩
  induction k with
  | zero => rfl
  | succ k ih =>
    rw [show ((k + 1 : Nat) : Int) = (k : Int) + 1 from rfl, foldZ_s f (by omega), foldZ_s g (by omega), ih (by omega) (by omega)]
    exact h _ _ (by omega) (by omega)
def sumZ (f : Int → Int) (n : Int) : Int := foldZ (fun j s => s + f j) n 0
theorem sumZ_0 (f : Int → Int) : sumZ f 0 = 0 := rfl
theorem sumZ_s (f : Int → Int) {n : Int} (h : 0 ≤ n) : sumZ f (n + 1) = sumZ f n + f n := foldZ_s _ h 0
theorem sumZ_congr {f g : Int → Int} {n : Int} (hn : 0 ≤ n) (h : ∀ j, 0 ≤ j → j < n → f j = g j) : sumZ f n = sumZ g n := foldZ_congr 0 n (fun j x h1 h2 => by rw [h j h1 h2]) n hn (Int.le_refl n)
theorem sumZ_in {f : Int → Int} {a b : Int} {n : Int} (hn : 0 ≤ n) (h : ∀ j, 0 ≤ j → j < n → a ≤ f j ∧ f j ≤ b) : a * n ≤ sumZ f n ∧ sumZ f n ≤ b * n := by
  have := foldZ_ind (fun j s => s + f j) 0 (fun k s => a * k ≤ s ∧ s ≤ b * k) (by simp) n (fun k x h1 h2 h3 => by
    have := h k h1 h2
    rw [Int.mul_add, Int.mul_add, Int.mul_one, Int.mul_one]
    omega) n hn (Int.le_refl n)
  exact this
noncomputable def cntZ (P : Int → Prop) (n : Int) : Int := sumZ (fun j => b2 (P j)) n
theorem cntZ_0 (P : Int → Prop) : cntZ P 0 = 0 := rfl
theorem cntZ_t {P : Int → Prop} {n : Int} (h : 0 ≤ n) (q : P n) : cntZ P (n + 1) = cntZ P n + 1 := by
  unfold cntZ; rw [sumZ_s _ h, b2_t q]
theorem cntZ_f {P : Int → Prop} {n : Int} (h : 0 ≤ n) (q : ¬ P n) : cntZ P (n + 1) = cntZ P n := by
  unfold cntZ; rw [sumZ_s _ h, b2_f q]; omega
theorem cntZ_in (P : Int → Prop) {n : Int} (hn : 0 ≤ n) : 0 ≤ cntZ P n ∧ cntZ P n ≤ n := by
  have := sumZ_in (f := fun j => b2 (P j)) (a := 0) (b := 1) hn (fun j _ _ => by rcases b2_01 (P j) with h | h <;> omega)
  unfold cntZ; omega
theorem cntZ_congr {P Q : Int → Prop} {n : Int} (hn : 0 ≤ n) (h : ∀ j, 0 ≤ j → j < n → (P j ↔ Q j)) : cntZ P n = cntZ Q n := sumZ_congr hn (fun j h1 h2 => b2_e (h j h1 h2))
/-- links to private members of a nest mate: no words of the tables that last, so they ride in a start -/
def xN (ns : List (String × Nat × MethodName × String)) (U : State) : Prop := ∀ q ∈ ns, va_Nw (.methodLinkNest q.1 q.2.1 q.2.2.1 q.2.2.2) U
def nsK : List (String × Nat × MethodName × String) := [(RX2, 24, yX6_isYear, "WallMarks")]
def nsI : List (String × Nat × MethodName × String) := [(RX2, 24, yX6_isYear, "WallMarks"), (RX6, 9, yX4_init, "WallMarks"), (RX6, 18, yX5_init, "WallMarks"), (RX6, 25, yX2_init, "WallMarks"), (RX6, 32, yX0_init, "WallMarks"), (RX6, 60, yX1_init, "WallMarks"), (RX6, 71, yX3_init, "WallMarks")]
def xMN (D : va_G) (cl : List vw_C) (ws : va_W) (tys : List (ClassId × FieldType)) (sz : Nat) (ns : List (String × Nat × MethodName × String)) (U : State) : Prop := xM D cl ws tys sz U ∧ xN ns U
theorem xpVMN {s : State} {H : Heap} {D : va_G} {cl : List vw_C} {wc : va_W} {tys : List (ClassId × FieldType)} {h0 : Nat} {As : List Value} {A : Nat → Prop} {ns : List (String × Nat × MethodName × String)} (hP : va_P D cl wc H) (hK : va_K D cl tys s) (hD : va_D A wc) (hN : xN ns s) {ci q0 : Nat} {q : vw_C} {fs : List Value} (hc : cl[ci]? = some q) (he : wc[q0]? = some (h0, .inr (ci, fs))) : PreV s H q.1 h0 (va_Pc (.ref h0 :: As) (xMN D cl wc tys H.size ns)) As :=
  ⟨fun a U g mk q => by
    obtain ⟨q0, q1, q2⟩ := q
    obtain ⟨q3, q4⟩ := (xpSM (s := s) (As := .ref h0 :: As) hP hK hD).1 a U g mk ⟨q0, q1⟩
    exact ⟨q3, q4, fun w hw => va_Nw.same (w := .methodLinkNest w.1 w.2.1 w.2.2.1 w.2.2.2) rfl (u := U) rfl (q2 w hw)⟩, va_recv hK hP hc he, fun U hU hW => ⟨((xpSM (As := .ref h0 :: As) hP hK hD).2 U hU hW).1, ((xpSM (As := .ref h0 :: As) hP hK hD).2 U hU hW).2, fun w hw => (hN w hw).warmM hW⟩⟩
