/-! cells made anew -/
def uq (g : Int → Option Nat) (k : Int) (v : Nat) : Int → Option Nat := fun j => if j = k then some v else g j
theorem xQ_upd (g : Int → Option Nat) {k : Int} (v : Nat) (h : 0 ≤ k ∧ k ≤ 2147483647) : va_up (xQ g) (iI k).toNatClampNeg (some v) = xQ (uq g k v) := by
  funext j
  unfold va_up xQ uq
  rw [iI_cl h]
  by_cases hj : j = k.toNat
  · rw [if_pos hj, if_pos (by omega)]
  · rw [if_neg hj, if_neg (by omega)]
def fsZ (i : Int) : Int := if i = 0 then 999 else if i = 2 then 59 else if i = 3 then 1 else if i = 4 then 500 else if i = 5 then 50 else 0
theorem xT_I {D : va_G} {cl : List vw_C} {cyI cyJ cyO cA : ClassId} {s : State} (hK : va_K D cl (xT cyI cyJ cyO) s) (h : va_K D cl (xT cyI cyJ cyO ++ [(cA, .int)]) s) : cA = cyI :=
  Option.some.inj ((va_nm_int (h.2 3 _ rfl).2).symm.trans (va_nm_int (hK.2 0 _ rfl).2))
theorem xT_J {D : va_G} {cl : List vw_C} {cyI cyJ cyO cA : ClassId} {s : State} (hK : va_K D cl (xT cyI cyJ cyO) s) (h : va_K D cl (xT cyI cyJ cyO ++ [(cA, .long)]) s) : cA = cyJ :=
  Option.some.inj ((va_nm_long (h.2 3 _ rfl).2).symm.trans (va_nm_long (hK.2 1 _ rfl).2))
theorem xT_O {D : va_G} {cl : List vw_C} {cyI cyJ cyO cA : ClassId} {s : State} (hK : va_K D cl (xT cyI cyJ cyO) s) (h : va_K D cl (xT cyI cyJ cyO ++ [(cA, .object "WallMarks$Sheet")]) s) : cA = cyO := by
  obtain ⟨_, _, _, _, _, h1⟩ := (h.2 3 _ rfl).2
  obtain ⟨_, _, _, _, _, h2⟩ := (hK.2 2 _ rfl).2
  exact Option.some.inj (h1.symm.trans h2)
section XN
variable {p : Program} {l : Launch} {e : Env} {R : Room} {s : State} {m : MethodId} {args : Array Value} {below : List Frame} {meth : Method} {c : Code} {H : Heap} {locs : List Loc} {cells slots : Nat} {Q : State → Prop}
variable {pc : Nat} {ls : Array Slot} {rest : List Value} {cc : ByteArray} {a : Int} {D : va_G} {cl : List vw_C} {cyI cyJ cyO : ClassId} {ws : va_W} {A : Nat → Prop} {H0 : Heap}
theorem xi_newI (N : Nat) (hx : p.tables.exec = Jvm.exec) (hb : c.code = cc) (harr : (Cond.arrayClass .int).before args s = true) (hK : va_K D cl (xT cyI cyJ cyO) s) (hP : va_P D cl ws H) (hD : va_D A ws) (hS : va_S A H0 H locs) (hA : ∀ q, H0.size ≤ q → A q) (ha : a = N) (hN : N ≤ 1000) (hcells : cells + 1 ≤ R.cells) (hslots : slots + N ≤ R.slots) (hdg : decode cc pc = .ok (.newarray .int, 2))
    (kk : ∀ (q : Nat) (H1 : Heap), va_P D cl (ws ++ [(q, .inl (cyI, N, .inl (xA (fun _ => 0))))]) H1 → va_D A (ws ++ [(q, .inl (cyI, N, .inl (xA (fun _ => 0))))]) → va_S A H0 H1 locs → W p l e R s m args below meth c H1 locs (cells + 1) (slots + N) Q (F0 m (pc + 2) ls (.ref q :: rest))) : W p l e R s m args below meth c H locs cells slots Q (F0 m pc ls (.int (iI a) :: rest)) := by
  subst ha
  refine va_newa (atype := .int) (ty := .int) (N' := N) (a0 := (N, .inl (xA (fun _ => 0)))) hx hb harr rfl hK hP hD hS hA (fun cA => rfl) (fun h => ?_) ?_ (show N * 4 ≤ 536870912 by omega) hcells hslots hdg (fun q cA H1 hK1 hP1 hD1 hS1 => ?_)
  · have := (iI_lt (a := (N : Int)) (b := 0) (by omega) (by omega)).mp h; omega
  · rw [iI_cl (by omega)]; omega
  · rw [xT_I hK hK1] at hP1 hD1; exact kk q H1 hP1 hD1 hS1
theorem xl_newJ (N : Nat) (hx : p.tables.exec = Jvm.exec) (hb : c.code = cc) (harr : (Cond.arrayClass .long).before args s = true) (hK : va_K D cl (xT cyI cyJ cyO) s) (hP : va_P D cl ws H) (hD : va_D A ws) (hS : va_S A H0 H locs) (hA : ∀ q, H0.size ≤ q → A q) (ha : a = N) (hN : N ≤ 1000) (hcells : cells + 1 ≤ R.cells) (hslots : slots + N ≤ R.slots) (hdg : decode cc pc = .ok (.newarray .long, 2))
    (kk : ∀ (q : Nat) (H1 : Heap), va_P D cl (ws ++ [(q, .inl (cyJ, N, .inr (.inl (xL (fun _ => 0)))))]) H1 → va_D A (ws ++ [(q, .inl (cyJ, N, .inr (.inl (xL (fun _ => 0)))))]) → va_S A H0 H1 locs → W p l e R s m args below meth c H1 locs (cells + 1) (slots + N) Q (F0 m (pc + 2) ls (.ref q :: rest))) : W p l e R s m args below meth c H locs cells slots Q (F0 m pc ls (.int (iI a) :: rest)) := by
  subst ha
  refine va_newa (atype := .long) (ty := .long) (N' := N) (a0 := (N, .inr (.inl (xL (fun _ => 0))))) hx hb harr rfl hK hP hD hS hA (fun cA => rfl) (fun h => ?_) ?_ (show N * 8 ≤ 536870912 by omega) hcells hslots hdg (fun q cA H1 hK1 hP1 hD1 hS1 => ?_)
  · have := (iI_lt (a := (N : Int)) (b := 0) (by omega) (by omega)).mp h; omega
  · rw [iI_cl (by omega)]; omega
  · rw [xT_J hK hK1] at hP1 hD1; exact kk q H1 hP1 hD1 hS1
theorem xq_newO (N : Nat) (hx : p.tables.exec = Jvm.exec) (hb : c.code = cc) {own : String} {index : Nat} (hown : s.vm.findClass own = some m.cls) (hclink : (Cond.classLink own index "WallMarks$Sheet").before args s = true) (hover : va_AO "WallMarks$Sheet" s) (hK : va_K D cl (xT cyI cyJ cyO) s) (hP : va_P D cl ws H) (hD : va_D A ws) (hS : va_S A H0 H locs) (hA : ∀ q, H0.size ≤ q → A q) (ha : a = N) (hN : N ≤ 1000) (hcells : cells + 1 ≤ R.cells) (hslots : slots + N ≤ R.slots) (hdg : decode cc pc = .ok (.anewarray index, 3))
    (kk : ∀ (q : Nat) (H1 : Heap), va_P D cl (ws ++ [(q, .inl (cyO, N, .inr (.inr (.inr (.inr (xQ (fun _ => none)))))))]) H1 → va_D A (ws ++ [(q, .inl (cyO, N, .inr (.inr (.inr (.inr (xQ (fun _ => none)))))))]) → va_S A H0 H1 locs → W p l e R s m args below meth c H1 locs (cells + 1) (slots + N) Q (F0 m (pc + 3) ls (.ref q :: rest))) : W p l e R s m args below meth c H locs cells slots Q (F0 m pc ls (.int (iI a) :: rest)) := by
  subst ha
  refine va_newq (C := "WallMarks$Sheet") (N' := N) hx hb hown hclink hover hK hP hD hS hA (fun h => ?_) ?_ (by omega) hcells hslots hdg (fun q cA H1 hK1 hP1 hD1 hS1 => ?_)
  · have := (iI_lt (a := (N : Int)) (b := 0) (by omega) (by omega)).mp h; omega
  · rw [iI_cl (by omega)]; omega
  · rw [xT_O hK hK1] at hP1 hD1; exact kk q H1 hP1 hD1 hS1
theorem xq_ast (hx : p.tables.exec = Jvm.exec) (hb : c.code = cc) {tys : List (ClassId × FieldType)} {aa : Nat} (hK : va_K D cl tys s) (hP : va_P D cl ws H) (hD : va_D A ws) (hS : va_S A H0 H locs) (q0 t0 qk ci : Nat) {cA : ClassId} {r : vw_C} {n v : Nat} {vs : List Value} {g : Int → Option Nat} (ha : ws[q0]? = some (aa, .inl (cA, n, .inr (.inr (.inr (.inr (xQ g))))))) (ht : tys[t0]? = some (cA, .object r.1)) (hv : ws[qk]? = some (v, .inr (ci, vs))) (hc : cl[ci]? = some r) (hn : n < 2147483648) (hin : 0 ≤ a ∧ a < n) (hdg : decode cc pc = .ok (.aastore, 1))
    (kk : ∀ (H1 : Heap) (locs1 : List Loc), va_P D cl (ws.set q0 (aa, .inl (cA, n, .inr (.inr (.inr (.inr (xQ (uq g a v)))))))) H1 → va_D A (ws.set q0 (aa, .inl (cA, n, .inr (.inr (.inr (.inr (xQ (uq g a v)))))))) → va_S A H0 H1 locs1 → W p l e R s m args below meth c H1 locs1 cells slots Q (F0 m (pc + 1) ls rest)) : W p l e R s m args below meth c H locs cells slots Q (F0 m pc ls (.ref v :: .int (iI a) :: .ref aa :: rest)) :=
  va_astq hx hb hK hP hD hS q0 t0 qk ci ha ht hv hc (xin hin hn) hdg (by rw [xQ_upd g v (by omega)]; exact kk)
def xF (A : Nat → Prop) (tF : Nat) (U : State) (H : Heap) : Prop := va_Z RX6 "FIRST_SETTINGS" "[I" (.ref tF) A U H ∧ ∃ cell : Cell, H[tF]? = some cell ∧ U.vm.findClass "[I" = some cell.cls ∧ (∀ k, cell.vm ≠ .statics k) ∧ cell.vm ≠ .unknown ∧ cell.slots.size = 6 ∧ (∀ j : Nat, j < 6 → cell.slots[j]? = some (.int (xA fsZ j))) ∧ ¬ A tF
theorem xi_clone (hx : p.tables.exec = Jvm.exec) (hb : c.code = cc) (hml : c.maxLocals = ls.size) {own : String} {index : Nat} (hown : s.vm.findClass own = some m.cls)
    (hlink : (Cond.methodLink own index ⟨"[I", "clone", "()Ljava/lang/Object;"⟩).before args s = true) (hsame : (Cond.sameMethod "[I" "java/lang/Object" "clone" "()Ljava/lang/Object;").before args s = true)
    (hnat : (Cond.native ⟨"java/lang/Object", "clone", "()Ljava/lang/Object;"⟩).before args s = true) (hinst : (Cond.instanceMethod ⟨"java/lang/Object", "clone", "()Ljava/lang/Object;"⟩).before args s = true)
    (hsel : (Cond.selects "[I" ⟨"[I", "clone", "()Ljava/lang/Object;"⟩ ⟨"java/lang/Object", "clone", "()Ljava/lang/Object;"⟩).before args s = true) (hcl : va_Nw (.castable "[I" "java/lang/Cloneable") s)
    (hK : va_K D cl (xT cyI cyJ cyO) s) (hP : va_P D cl ws H) (hD : va_D A ws) (hS : va_S A s.heap H locs) (hA : ∀ q, s.heap.size ≤ q → A q) {tF : Nat} (hF : xF A tF s s.heap)
    (hframes : 1 ≤ R.frames) (hlocals : (rest.map fun v => v.category).sum + 14 ≤ R.locals) (hcells : cells + 1 ≤ R.cells) (hslots : slots + 6 ≤ R.slots) (hdg : decode cc pc = .ok (.invokevirtual index, 3))
    (kk : ∀ (q : Nat) (H1 : Heap), va_P D cl (ws ++ [(q, .inl (cyI, 6, .inl (xA fsZ)))]) H1 → va_D A (ws ++ [(q, .inl (cyI, 6, .inl (xA fsZ)))]) → va_S A s.heap H1 locs →
      W p l e R s m args below meth c H1 locs (cells + 1) (slots + 6) Q (F0 m (pc + 3) ls (.ref q :: rest))) : W p l e R s m args below meth c H locs cells slots Q (F0 m pc ls (.ref tF :: rest)) := by
  obtain ⟨-, cell, h1, h2, h3, h4, h5, h6, h7⟩ := hF
  have hc0 : cell.cls = cyI := Option.some.inj (h2.symm.trans (va_nm_int (hK.2 0 _ rfl).2))
  have hs9 : cell.slots = Array.ofFn (n := 6) (fun j => Value.int (xA fsZ j.val)) := by
    apply Array.ext
    · rw [h5]; simp
    · intro i hi1 hi2
      have h8 := h6 i (by omega)
      rw [Array.getElem?_eq_getElem hi1] at h8
      rw [Option.some.inj h8]; simp
  have hce : ({ cls := cell.cls, slots := cell.slots } : Cell) = vp_cell cyI (6, .inl (xA fsZ)) := by
    rw [hc0, hs9]; rfl
  obtain ⟨c0, t0', f1, f2, f3⟩ := Cond.castable_spec (va_Nw.use (A := args) rfl hcl)
  cases h2.symm.trans f1
  intro T hT X
  have hlt : tF < s.heap.size := (Array.getElem?_eq_some_iff.mp h1).1
  have hcellT : T.heap[tF]? = some cell := by rw [hT, hS.2.1 tF hlt h7]; exact h1
  obtain ⟨-, kA, hkA, comp, hkind⟩ := State.isArrayOf_alike X.warmed.alike ((hK.2 0 _ rfl).1 0 (fun _ => .null))
  obtain ⟨-, kS, hkS, compS, hkindS⟩ := (hK.2 0 _ rfl).1 0 (fun _ => .null)
  obtain ⟨vm', X', st⟩ := X.cloneArray hx hown hlink hsame hnat hinst hsel (a := tF) (cell := cell) hcellT h3 h4 h2 f2 f3
    (fun i v hv => by
      rw [hc0]
      have hk' : T.vm.classes[cyI]? = some kA := hkA
      have hi : i < 6 := by rw [← h5]; exact (Array.getElem?_eq_some_iff.mp hv).1
      rw [h6 i hi] at hv
      cases hv
      simp [State.fitsSlot, State.slotType?, hk', hkind, fits])
    (g := F0 m pc ls (.ref tF :: rest)) rfl (by rw [hml]) rfl (by rw [hb]; exact hdg) hframes (by show 2 * 0 + _ + 14 ≤ _; omega) hcells (by rw [h5]; exact hslots) (hloader := by rw [hc0]; exact Vm.clonesLoader_of_array hkS hkindS)
  rw [hce, h5] at X'
  generalize hH1 : H.push (vp_cell cyI (6, .inl (xA fsZ))) = H1
  have z1 : H1.size = H.size + 1 := by rw [← hH1, Array.size_push]
  have e1 : H1[H.size]? = some (vp_cell cyI (6, .inl (xA fsZ))) := by rw [← hH1, Array.getElem?_push_size]
  have o1 : ∀ q : Nat, q < H.size → H1[q]? = H[q]? := fun q hq => by rw [← hH1, Array.getElem?_push, if_neg (Nat.ne_of_lt hq)]
  have hk : ∀ (k : Nat) (y : Nat × va_E), ws[k]? = some y → H1[y.1]? = H[y.1]? := fun k y hy => o1 y.1 ((hP k y hy).lt)
  obtain ⟨t, b1, b2⟩ := kk H.size H1 ((hP.kept hk).app (fun k y hy => by
      have hz : k < 1 := (List.getElem?_eq_some_iff.mp hy).1
      rw [show k = 0 by omega] at hy
      cases hy
      exact e1)) (hD.push hP rfl (hA _ hS.1)) ⟨Nat.le_trans hS.1 (by omega), fun y q1 q2 => (o1 y (Nat.lt_of_lt_of_le q1 hS.1)).trans (hS.2.1 y q1 q2), hS.2.2⟩
    ((T.setVm vm').pushCell (vp_cell cyI (6, .inl (xA fsZ)))) (by rw [← hH1, ← hT]; rfl) X'
  refine ⟨t, st t ?_, b2⟩
  rw [hce, hT]
  exact b1
end XN
/-- a start with one more thing that lasts -/
theorem xpAnd {s : State} {H : Heap} {As : List Value} {B1 B2 : State → Prop} (h : PreS s H (va_Pc As B1) As) (h1 : ∀ (U : State) g mk a, B2 U → B2 (U.calling g mk a)) (h2 : ∀ U : State, U.heap = H → s.WarmedH U.vm → B2 U) : PreS s H (va_Pc As (fun U => B1 U ∧ B2 U)) As :=
  ⟨fun a U g mk q => by obtain ⟨q0, q1, q2⟩ := q; obtain ⟨q3, q4⟩ := h.1 a U g mk ⟨q0, q1⟩; exact ⟨q3, q4, h1 U g mk a q2⟩, fun U hU hW => ⟨(h.2 U hU hW).1, (h.2 U hU hW).2, h2 U hU hW⟩⟩
theorem xpAndV {s : State} {H : Heap} {b : Nat} {C : String} {As : List Value} {B1 B2 : State → Prop} (h : PreV s H C b (va_Pc (.ref b :: As) B1) As) (h1 : ∀ (U : State) g mk a, B2 U → B2 (U.calling g mk a)) (h2 : ∀ U : State, U.heap = H → s.WarmedH U.vm → B2 U) : PreV s H C b (va_Pc (.ref b :: As) (fun U => B1 U ∧ B2 U)) As :=
  ⟨fun a U g mk q => by obtain ⟨q0, q1, q2⟩ := q; obtain ⟨q3, q4⟩ := h.1 a U g mk ⟨q0, q1⟩; exact ⟨q3, q4, h1 U g mk a q2⟩, h.2.1, fun U hU hW => ⟨(h.2.2 U hU hW).1, (h.2.2 U hU hW).2, h2 U hU hW⟩⟩
theorem xN_call {ns : List (String × Nat × MethodName × String)} {U : State} {g : Frame} {mk : List Frame} {a : Array Value} (h : xN ns U) : xN ns U := h
set_option maxHeartbeats 1000000 in
set_option maxRecDepth 100000 in
theorem c_X0_init (l : Launch) (D : va_G) (cyI cyJ cyO : ClassId) (qC : Nat) (sz : Nat) : Met l yX0_init wsX0_init ({ frames := 1, cells := 3, slots := 180, locals := 24 }) (va_Pc [.ref qC] (xM D vwCl [(qC, .inr (0, [.null, .null, .null, .int (iI (0)), .int (iI (0)), .int (iI (0)), .int (iI (0)), .int (iI (0)), .int (iI (0)), .int (iI (0)), .int (iI (0))]))] (xT cyI cyJ cyO) sz)) (va_Qv (fun (u : Nat × Nat × Nat) => True) (xB D vwCl (xT cyI cyJ cyO) (va_A [(qC, .inr (0, [.null, .null, .null, .int (iI (0)), .int (iI (0)), .int (iI (0)), .int (iI (0)), .int (iI (0)), .int (iI (0)), .int (iI (0)), .int (iI (0))]))] sz) (fun u : Nat × Nat × Nat => [(qC, .inr (0, [.ref (u.1), .ref (u.2.1), .ref (u.2.2), .int (iI (0)), .int (iI (0)), .int (iI (0)), .int (iI (0)), .int (iI (-1)), .int (iI (0)), .int (iI (-1)), .int (iI (0))])), ((u.1), .inl (cyI, 60, .inl (xA (fun _ => 0)))), ((u.2.1), .inl (cyI, 60, .inl (xA (fun _ => 0)))), ((u.2.2), .inl (cyI, 60, .inl (xA (fun _ => 0))))])) (va_A [(qC, .inr (0, [.null, .null, .null, .int (iI (0)), .int (iI (0)), .int (iI (0)), .int (iI (0)), .int (iI (0)), .int (iI (0)), .int (iI (0)), .int (iI (0))]))] sz)) 3 180 (va_A [(qC, .inr (0, [.null, .null, .null, .int (iI (0)), .int (iI (0)), .int (iI (0)), .int (iI (0)), .int (iI (0)), .int (iI (0)), .int (iI (0)), .int (iI (0))]))] sz) := by
  refine Met.ofW (cc := cX0_init) (maxL := 1) (ret := none) (by decide) rfl ?_
  intro p e s m args below meth c s₁ B hml hv
  obtain ⟨rfl, hsz, hP, hK, hD0⟩ := hv
  have hx := B.exec
  have hb := B.bytes
  have hr := B.returns
  have hts := atoms_spec (ws := wsX0_init) B.pre
  have hown : s.vm.findClass RX0 = some m.cls := findClass_of_methodNamed B.named
  have hlocks := B.notSynchronized
  have hin : meth.name = "<init>" := (name_of_methodNamed B.named B.method).1
  have hcX0 : ∀ w ∈ wsX00, w ∈ wsX0_init := fun _ h => List.mem_cons_of_mem _ (List.mem_append_right _ h)
  subst hsz
  have hD := hD0.self (sz := s.heap.size)
  generalize hAe : va_A [(qC, .inr (0, [.null, .null, .null, .int (iI (0)), .int (iI (0)), .int (iI (0)), .int (iI (0)), .int (iI (0)), .int (iI (0)), .int (iI (0)), .int (iI (0))]))] s.heap.size = A at hD ⊢
  have hA : ∀ q : Nat, s.heap.size ≤ q → A q := fun q h => by rw [← hAe]; exact Or.inr h
  have hS : va_S A s.heap s.heap [] := va_S.rf
  have hP : va_P D vwCl [(qC, .inr (0, [.null, .null, .null, .int (iI (0)), .int (iI (0)), .int (iI (0)), .int (iI (0)), .int (iI (0)), .int (iI (0)), .int (iI (0)), .int (iI (0))]))] s.heap := hP
  have hl := lv_entry ([.ref qC]) (n := 1) (Nat.le_of_ble_eq_true rfl)
  rw [lg_entry_eq]
  generalize (lg_sl ([.ref qC]) ++ List.replicate (1 - (lg_sl ([.ref qC])).length) Slot.unset).toArray = ls at hl ⊢
  have hl : lv_has ls 1 [(0, .ref qC)] := hl
  refine lv_aload_n hx hb dX0_init_0 rfl (lv_at hl 0 rfl) ?_
  refine W.objInit hx hb hown (hts (.methodLink RX0 3 objectInit) (List.mem_of_getElem? (i := 1) (by decide +kernel))) (hts (.instanceMethod objectInit) (List.mem_of_getElem? (i := 2) (by decide +kernel))) (hts (.code objectInit ⟨#[0xb1]⟩ 1 none) (List.mem_of_getElem? (i := 3) (by decide +kernel))) rfl (by rw [hml]; exact hl.1) rfl dX0_init_1 (Nat.le_of_ble_eq_true rfl) (Nat.le_of_ble_eq_true rfl) ?_
  refine W.eq (g2 := F0 m 4 ls []) rfl ?_
  refine lv_aload_n hx hb dX0_init_4 rfl (lv_at hl 0 rfl) ?_
  refine xi_bipush hx hb dX0_init_5 (by decide +kernel) ?_
  refine xi_newI 60 hx hb (hts (.arrayClass .int) (List.mem_of_getElem? (i := 4) (by decide +kernel))) hK hP hD hS hA (by decide) (by decide) (Nat.le_of_ble_eq_true rfl) (Nat.le_of_ble_eq_true rfl) dX0_init_7 (fun q_1 H hP hD hS => ?_)
  have hP : va_P D vwCl [(qC, .inr (0, [.null, .null, .null, .int (iI (0)), .int (iI (0)), .int (iI (0)), .int (iI (0)), .int (iI (0)), .int (iI (0)), .int (iI (0)), .int (iI (0))])), (q_1, .inl (cyI, 60, .inl (xA (fun _ => 0))))] H := hP
  have hD : va_D A [(qC, .inr (0, [.null, .null, .null, .int (iI (0)), .int (iI (0)), .int (iI (0)), .int (iI (0)), .int (iI (0)), .int (iI (0)), .int (iI (0)), .int (iI (0))])), (q_1, .inl (cyI, 60, .inl (xA (fun _ => 0))))] := hD
  refine W.widen (k := 1) (n := 60) (Nat.le_of_ble_eq_true rfl) (Nat.le_of_ble_eq_true rfl) ?_
  refine va_putF (D := D) (ci := 0) (v := .ref q_1) (ty := (.array .int)) (C := RX0) (T := TX0) (N := 11) hx hb hts hcX0 tyX0 tyX0_ok nmX0 hown hK hP hD hS 0 rfl rfl 0 (by decide) (hts (.fieldLink RX0 9 "WallMarks$Counted" "exactYears" "[I") (List.mem_of_getElem? (i := 5) (by decide +kernel))) (fun _ h9 => h9) rfl hin rfl (by decide +kernel) rfl rfl (Nat.le_of_ble_eq_true rfl) dX0_init_9 (fun H locs hP hD hS => ?_)
  have hP : va_P D vwCl [(qC, .inr (0, [.ref q_1, .null, .null, .int (iI (0)), .int (iI (0)), .int (iI (0)), .int (iI (0)), .int (iI (0)), .int (iI (0)), .int (iI (0)), .int (iI (0))])), (q_1, .inl (cyI, 60, .inl (xA (fun _ => 0))))] H := hP
  have hD : va_D A [(qC, .inr (0, [.ref q_1, .null, .null, .int (iI (0)), .int (iI (0)), .int (iI (0)), .int (iI (0)), .int (iI (0)), .int (iI (0)), .int (iI (0)), .int (iI (0))])), (q_1, .inl (cyI, 60, .inl (xA (fun _ => 0))))] := hD
  refine lv_aload_n hx hb dX0_init_12 rfl (lv_at hl 0 rfl) ?_
  refine xi_bipush hx hb dX0_init_13 (by decide +kernel) ?_
  refine xi_newI 60 hx hb (hts (.arrayClass .int) (List.mem_of_getElem? (i := 4) (by decide +kernel))) hK hP hD hS hA (by decide) (by decide) (Nat.le_of_ble_eq_true rfl) (Nat.le_of_ble_eq_true rfl) dX0_init_15 (fun q_2 H hP hD hS => ?_)
  have hP : va_P D vwCl [(qC, .inr (0, [.ref q_1, .null, .null, .int (iI (0)), .int (iI (0)), .int (iI (0)), .int (iI (0)), .int (iI (0)), .int (iI (0)), .int (iI (0)), .int (iI (0))])), (q_1, .inl (cyI, 60, .inl (xA (fun _ => 0)))), (q_2, .inl (cyI, 60, .inl (xA (fun _ => 0))))] H := hP
  have hD : va_D A [(qC, .inr (0, [.ref q_1, .null, .null, .int (iI (0)), .int (iI (0)), .int (iI (0)), .int (iI (0)), .int (iI (0)), .int (iI (0)), .int (iI (0)), .int (iI (0))])), (q_1, .inl (cyI, 60, .inl (xA (fun _ => 0)))), (q_2, .inl (cyI, 60, .inl (xA (fun _ => 0))))] := hD
  refine W.widen (k := 2) (n := 120) (Nat.le_of_ble_eq_true rfl) (Nat.le_of_ble_eq_true rfl) ?_
  refine va_putF (D := D) (ci := 0) (v := .ref q_2) (ty := (.array .int)) (C := RX0) (T := TX0) (N := 11) hx hb hts hcX0 tyX0 tyX0_ok nmX0 hown hK hP hD hS 0 rfl rfl 1 (by decide) (hts (.fieldLink RX0 15 "WallMarks$Counted" "exactLevels" "[I") (List.mem_of_getElem? (i := 6) (by decide +kernel))) (fun _ h9 => h9) rfl hin rfl (by decide +kernel) rfl rfl (Nat.le_of_ble_eq_true rfl) dX0_init_17 (fun H locs hP hD hS => ?_)
  have hP : va_P D vwCl [(qC, .inr (0, [.ref q_1, .ref q_2, .null, .int (iI (0)), .int (iI (0)), .int (iI (0)), .int (iI (0)), .int (iI (0)), .int (iI (0)), .int (iI (0)), .int (iI (0))])), (q_1, .inl (cyI, 60, .inl (xA (fun _ => 0)))), (q_2, .inl (cyI, 60, .inl (xA (fun _ => 0))))] H := hP
  have hD : va_D A [(qC, .inr (0, [.ref q_1, .ref q_2, .null, .int (iI (0)), .int (iI (0)), .int (iI (0)), .int (iI (0)), .int (iI (0)), .int (iI (0)), .int (iI (0)), .int (iI (0))])), (q_1, .inl (cyI, 60, .inl (xA (fun _ => 0)))), (q_2, .inl (cyI, 60, .inl (xA (fun _ => 0))))] := hD
  refine lv_aload_n hx hb dX0_init_20 rfl (lv_at hl 0 rfl) ?_
  refine xi_bipush hx hb dX0_init_21 (by decide +kernel) ?_
  refine xi_newI 60 hx hb (hts (.arrayClass .int) (List.mem_of_getElem? (i := 4) (by decide +kernel))) hK hP hD hS hA (by decide) (by decide) (Nat.le_of_ble_eq_true rfl) (Nat.le_of_ble_eq_true rfl) dX0_init_23 (fun q_3 H hP hD hS => ?_)
  have hP : va_P D vwCl [(qC, .inr (0, [.ref q_1, .ref q_2, .null, .int (iI (0)), .int (iI (0)), .int (iI (0)), .int (iI (0)), .int (iI (0)), .int (iI (0)), .int (iI (0)), .int (iI (0))])), (q_1, .inl (cyI, 60, .inl (xA (fun _ => 0)))), (q_2, .inl (cyI, 60, .inl (xA (fun _ => 0)))), (q_3, .inl (cyI, 60, .inl (xA (fun _ => 0))))] H := hP
  have hD : va_D A [(qC, .inr (0, [.ref q_1, .ref q_2, .null, .int (iI (0)), .int (iI (0)), .int (iI (0)), .int (iI (0)), .int (iI (0)), .int (iI (0)), .int (iI (0)), .int (iI (0))])), (q_1, .inl (cyI, 60, .inl (xA (fun _ => 0)))), (q_2, .inl (cyI, 60, .inl (xA (fun _ => 0)))), (q_3, .inl (cyI, 60, .inl (xA (fun _ => 0))))] := hD
  refine W.widen (k := 3) (n := 180) (Nat.le_of_ble_eq_true rfl) (Nat.le_of_ble_eq_true rfl) ?_
  refine va_putF (D := D) (ci := 0) (v := .ref q_3) (ty := (.array .int)) (C := RX0) (T := TX0) (N := 11) hx hb hts hcX0 tyX0 tyX0_ok nmX0 hown hK hP hD hS 0 rfl rfl 2 (by decide) (hts (.fieldLink RX0 18 "WallMarks$Counted" "belowLevels" "[I") (List.mem_of_getElem? (i := 7) (by decide +kernel))) (fun _ h9 => h9) rfl hin rfl (by decide +kernel) rfl rfl (Nat.le_of_ble_eq_true rfl) dX0_init_25 (fun H locs hP hD hS => ?_)
  have hP : va_P D vwCl [(qC, .inr (0, [.ref q_1, .ref q_2, .ref q_3, .int (iI (0)), .int (iI (0)), .int (iI (0)), .int (iI (0)), .int (iI (0)), .int (iI (0)), .int (iI (0)), .int (iI (0))])), (q_1, .inl (cyI, 60, .inl (xA (fun _ => 0)))), (q_2, .inl (cyI, 60, .inl (xA (fun _ => 0)))), (q_3, .inl (cyI, 60, .inl (xA (fun _ => 0))))] H := hP
  have hD : va_D A [(qC, .inr (0, [.ref q_1, .ref q_2, .ref q_3, .int (iI (0)), .int (iI (0)), .int (iI (0)), .int (iI (0)), .int (iI (0)), .int (iI (0)), .int (iI (0)), .int (iI (0))])), (q_1, .inl (cyI, 60, .inl (xA (fun _ => 0)))), (q_2, .inl (cyI, 60, .inl (xA (fun _ => 0)))), (q_3, .inl (cyI, 60, .inl (xA (fun _ => 0))))] := hD
  refine lv_aload_n hx hb dX0_init_28 rfl (lv_at hl 0 rfl) ?_
  refine xi_const hx hb dX0_init_29 ?_
  refine va_put (D := D) (ci := 0) (v := .int (iI (0))) (ty := .int) (C := RX0) (T := TX0) (N := 11) hx hb hts hcX0 tyX0 tyX0_ok nmX0 hown hK hP hD hS 0 rfl rfl 3 (by decide) (hts (.fieldLink RX0 21 "WallMarks$Counted" "exacts" "I") (List.mem_of_getElem? (i := 8) (by decide +kernel))) (fun _ h9 => h9) rfl (by decide +kernel) rfl rfl (Nat.le_of_ble_eq_true rfl) dX0_init_30 (fun H locs hP hD hS => ?_)
  have hP : va_P D vwCl [(qC, .inr (0, [.ref q_1, .ref q_2, .ref q_3, .int (iI (0)), .int (iI (0)), .int (iI (0)), .int (iI (0)), .int (iI (0)), .int (iI (0)), .int (iI (0)), .int (iI (0))])), (q_1, .inl (cyI, 60, .inl (xA (fun _ => 0)))), (q_2, .inl (cyI, 60, .inl (xA (fun _ => 0)))), (q_3, .inl (cyI, 60, .inl (xA (fun _ => 0))))] H := hP
  have hD : va_D A [(qC, .inr (0, [.ref q_1, .ref q_2, .ref q_3, .int (iI (0)), .int (iI (0)), .int (iI (0)), .int (iI (0)), .int (iI (0)), .int (iI (0)), .int (iI (0)), .int (iI (0))])), (q_1, .inl (cyI, 60, .inl (xA (fun _ => 0)))), (q_2, .inl (cyI, 60, .inl (xA (fun _ => 0)))), (q_3, .inl (cyI, 60, .inl (xA (fun _ => 0))))] := hD
  refine lv_aload_n hx hb dX0_init_33 rfl (lv_at hl 0 rfl) ?_
  refine xi_const hx hb dX0_init_34 ?_
  refine va_put (D := D) (ci := 0) (v := .int (iI (0))) (ty := .int) (C := RX0) (T := TX0) (N := 11) hx hb hts hcX0 tyX0 tyX0_ok nmX0 hown hK hP hD hS 0 rfl rfl 4 (by decide) (hts (.fieldLink RX0 25 "WallMarks$Counted" "belows" "I") (List.mem_of_getElem? (i := 9) (by decide +kernel))) (fun _ h9 => h9) rfl (by decide +kernel) rfl rfl (Nat.le_of_ble_eq_true rfl) dX0_init_35 (fun H locs hP hD hS => ?_)
  have hP : va_P D vwCl [(qC, .inr (0, [.ref q_1, .ref q_2, .ref q_3, .int (iI (0)), .int (iI (0)), .int (iI (0)), .int (iI (0)), .int (iI (0)), .int (iI (0)), .int (iI (0)), .int (iI (0))])), (q_1, .inl (cyI, 60, .inl (xA (fun _ => 0)))), (q_2, .inl (cyI, 60, .inl (xA (fun _ => 0)))), (q_3, .inl (cyI, 60, .inl (xA (fun _ => 0))))] H := hP
  have hD : va_D A [(qC, .inr (0, [.ref q_1, .ref q_2, .ref q_3, .int (iI (0)), .int (iI (0)), .int (iI (0)), .int (iI (0)), .int (iI (0)), .int (iI (0)), .int (iI (0)), .int (iI (0))])), (q_1, .inl (cyI, 60, .inl (xA (fun _ => 0)))), (q_2, .inl (cyI, 60, .inl (xA (fun _ => 0)))), (q_3, .inl (cyI, 60, .inl (xA (fun _ => 0))))] := hD
  refine lv_aload_n hx hb dX0_init_38 rfl (lv_at hl 0 rfl) ?_
  refine xi_const hx hb dX0_init_39 ?_
  refine va_put (D := D) (ci := 0) (v := .int (iI (0))) (ty := .int) (C := RX0) (T := TX0) (N := 11) hx hb hts hcX0 tyX0 tyX0_ok nmX0 hown hK hP hD hS 0 rfl rfl 5 (by decide) (hts (.fieldLink RX0 28 "WallMarks$Counted" "opens" "I") (List.mem_of_getElem? (i := 10) (by decide +kernel))) (fun _ h9 => h9) rfl (by decide +kernel) rfl rfl (Nat.le_of_ble_eq_true rfl) dX0_init_40 (fun H locs hP hD hS => ?_)
  have hP : va_P D vwCl [(qC, .inr (0, [.ref q_1, .ref q_2, .ref q_3, .int (iI (0)), .int (iI (0)), .int (iI (0)), .int (iI (0)), .int (iI (0)), .int (iI (0)), .int (iI (0)), .int (iI (0))])), (q_1, .inl (cyI, 60, .inl (xA (fun _ => 0)))), (q_2, .inl (cyI, 60, .inl (xA (fun _ => 0)))), (q_3, .inl (cyI, 60, .inl (xA (fun _ => 0))))] H := hP
  have hD : va_D A [(qC, .inr (0, [.ref q_1, .ref q_2, .ref q_3, .int (iI (0)), .int (iI (0)), .int (iI (0)), .int (iI (0)), .int (iI (0)), .int (iI (0)), .int (iI (0)), .int (iI (0))])), (q_1, .inl (cyI, 60, .inl (xA (fun _ => 0)))), (q_2, .inl (cyI, 60, .inl (xA (fun _ => 0)))), (q_3, .inl (cyI, 60, .inl (xA (fun _ => 0))))] := hD
  refine lv_aload_n hx hb dX0_init_43 rfl (lv_at hl 0 rfl) ?_
  refine xi_const hx hb dX0_init_44 ?_
  refine va_put (D := D) (ci := 0) (v := .int (iI (0))) (ty := .int) (C := RX0) (T := TX0) (N := 11) hx hb hts hcX0 tyX0 tyX0_ok nmX0 hown hK hP hD hS 0 rfl rfl 6 (by decide) (hts (.fieldLink RX0 31 "WallMarks$Counted" "exactSum" "I") (List.mem_of_getElem? (i := 11) (by decide +kernel))) (fun _ h9 => h9) rfl (by decide +kernel) rfl rfl (Nat.le_of_ble_eq_true rfl) dX0_init_45 (fun H locs hP hD hS => ?_)
  have hP : va_P D vwCl [(qC, .inr (0, [.ref q_1, .ref q_2, .ref q_3, .int (iI (0)), .int (iI (0)), .int (iI (0)), .int (iI (0)), .int (iI (0)), .int (iI (0)), .int (iI (0)), .int (iI (0))])), (q_1, .inl (cyI, 60, .inl (xA (fun _ => 0)))), (q_2, .inl (cyI, 60, .inl (xA (fun _ => 0)))), (q_3, .inl (cyI, 60, .inl (xA (fun _ => 0))))] H := hP
  have hD : va_D A [(qC, .inr (0, [.ref q_1, .ref q_2, .ref q_3, .int (iI (0)), .int (iI (0)), .int (iI (0)), .int (iI (0)), .int (iI (0)), .int (iI (0)), .int (iI (0)), .int (iI (0))])), (q_1, .inl (cyI, 60, .inl (xA (fun _ => 0)))), (q_2, .inl (cyI, 60, .inl (xA (fun _ => 0)))), (q_3, .inl (cyI, 60, .inl (xA (fun _ => 0))))] := hD
  refine lv_aload_n hx hb dX0_init_48 rfl (lv_at hl 0 rfl) ?_
  refine xi_const hx hb dX0_init_49 ?_
  refine va_put (D := D) (ci := 0) (v := .int (iI (-1))) (ty := .int) (C := RX0) (T := TX0) (N := 11) hx hb hts hcX0 tyX0 tyX0_ok nmX0 hown hK hP hD hS 0 rfl rfl 7 (by decide) (hts (.fieldLink RX0 34 "WallMarks$Counted" "greatestExact" "I") (List.mem_of_getElem? (i := 12) (by decide +kernel))) (fun _ h9 => h9) rfl (by decide +kernel) rfl rfl (Nat.le_of_ble_eq_true rfl) dX0_init_50 (fun H locs hP hD hS => ?_)
  have hP : va_P D vwCl [(qC, .inr (0, [.ref q_1, .ref q_2, .ref q_3, .int (iI (0)), .int (iI (0)), .int (iI (0)), .int (iI (0)), .int (iI (-1)), .int (iI (0)), .int (iI (0)), .int (iI (0))])), (q_1, .inl (cyI, 60, .inl (xA (fun _ => 0)))), (q_2, .inl (cyI, 60, .inl (xA (fun _ => 0)))), (q_3, .inl (cyI, 60, .inl (xA (fun _ => 0))))] H := hP
  have hD : va_D A [(qC, .inr (0, [.ref q_1, .ref q_2, .ref q_3, .int (iI (0)), .int (iI (0)), .int (iI (0)), .int (iI (0)), .int (iI (-1)), .int (iI (0)), .int (iI (0)), .int (iI (0))])), (q_1, .inl (cyI, 60, .inl (xA (fun _ => 0)))), (q_2, .inl (cyI, 60, .inl (xA (fun _ => 0)))), (q_3, .inl (cyI, 60, .inl (xA (fun _ => 0))))] := hD
  refine lv_aload_n hx hb dX0_init_53 rfl (lv_at hl 0 rfl) ?_
  refine xi_const hx hb dX0_init_54 ?_
  refine va_put (D := D) (ci := 0) (v := .int (iI (0))) (ty := .int) (C := RX0) (T := TX0) (N := 11) hx hb hts hcX0 tyX0 tyX0_ok nmX0 hown hK hP hD hS 0 rfl rfl 8 (by decide) (hts (.fieldLink RX0 37 "WallMarks$Counted" "records" "I") (List.mem_of_getElem? (i := 13) (by decide +kernel))) (fun _ h9 => h9) rfl (by decide +kernel) rfl rfl (Nat.le_of_ble_eq_true rfl) dX0_init_55 (fun H locs hP hD hS => ?_)
  have hP : va_P D vwCl [(qC, .inr (0, [.ref q_1, .ref q_2, .ref q_3, .int (iI (0)), .int (iI (0)), .int (iI (0)), .int (iI (0)), .int (iI (-1)), .int (iI (0)), .int (iI (0)), .int (iI (0))])), (q_1, .inl (cyI, 60, .inl (xA (fun _ => 0)))), (q_2, .inl (cyI, 60, .inl (xA (fun _ => 0)))), (q_3, .inl (cyI, 60, .inl (xA (fun _ => 0))))] H := hP
  have hD : va_D A [(qC, .inr (0, [.ref q_1, .ref q_2, .ref q_3, .int (iI (0)), .int (iI (0)), .int (iI (0)), .int (iI (0)), .int (iI (-1)), .int (iI (0)), .int (iI (0)), .int (iI (0))])), (q_1, .inl (cyI, 60, .inl (xA (fun _ => 0)))), (q_2, .inl (cyI, 60, .inl (xA (fun _ => 0)))), (q_3, .inl (cyI, 60, .inl (xA (fun _ => 0))))] := hD
  refine lv_aload_n hx hb dX0_init_58 rfl (lv_at hl 0 rfl) ?_
  refine xi_const hx hb dX0_init_59 ?_
  refine va_put (D := D) (ci := 0) (v := .int (iI (-1))) (ty := .int) (C := RX0) (T := TX0) (N := 11) hx hb hts hcX0 tyX0 tyX0_ok nmX0 hown hK hP hD hS 0 rfl rfl 9 (by decide) (hts (.fieldLink RX0 40 "WallMarks$Counted" "lastRecord" "I") (List.mem_of_getElem? (i := 14) (by decide +kernel))) (fun _ h9 => h9) rfl (by decide +kernel) rfl rfl (Nat.le_of_ble_eq_true rfl) dX0_init_60 (fun H locs hP hD hS => ?_)
  have hP : va_P D vwCl [(qC, .inr (0, [.ref q_1, .ref q_2, .ref q_3, .int (iI (0)), .int (iI (0)), .int (iI (0)), .int (iI (0)), .int (iI (-1)), .int (iI (0)), .int (iI (-1)), .int (iI (0))])), (q_1, .inl (cyI, 60, .inl (xA (fun _ => 0)))), (q_2, .inl (cyI, 60, .inl (xA (fun _ => 0)))), (q_3, .inl (cyI, 60, .inl (xA (fun _ => 0))))] H := hP
  have hD : va_D A [(qC, .inr (0, [.ref q_1, .ref q_2, .ref q_3, .int (iI (0)), .int (iI (0)), .int (iI (0)), .int (iI (0)), .int (iI (-1)), .int (iI (0)), .int (iI (-1)), .int (iI (0))])), (q_1, .inl (cyI, 60, .inl (xA (fun _ => 0)))), (q_2, .inl (cyI, 60, .inl (xA (fun _ => 0)))), (q_3, .inl (cyI, 60, .inl (xA (fun _ => 0))))] := hD
  refine lv_aload_n hx hb dX0_init_63 rfl (lv_at hl 0 rfl) ?_
  refine xi_const hx hb dX0_init_64 ?_
  refine va_put (D := D) (ci := 0) (v := .int (iI (0))) (ty := .int) (C := RX0) (T := TX0) (N := 11) hx hb hts hcX0 tyX0 tyX0_ok nmX0 hown hK hP hD hS 0 rfl rfl 10 (by decide) (hts (.fieldLink RX0 43 "WallMarks$Counted" "longestWait" "I") (List.mem_of_getElem? (i := 15) (by decide +kernel))) (fun _ h9 => h9) rfl (by decide +kernel) rfl rfl (Nat.le_of_ble_eq_true rfl) dX0_init_65 (fun H locs hP hD hS => ?_)
  have hP : va_P D vwCl [(qC, .inr (0, [.ref q_1, .ref q_2, .ref q_3, .int (iI (0)), .int (iI (0)), .int (iI (0)), .int (iI (0)), .int (iI (-1)), .int (iI (0)), .int (iI (-1)), .int (iI (0))])), (q_1, .inl (cyI, 60, .inl (xA (fun _ => 0)))), (q_2, .inl (cyI, 60, .inl (xA (fun _ => 0)))), (q_3, .inl (cyI, 60, .inl (xA (fun _ => 0))))] H := hP
  have hD : va_D A [(qC, .inr (0, [.ref q_1, .ref q_2, .ref q_3, .int (iI (0)), .int (iI (0)), .int (iI (0)), .int (iI (0)), .int (iI (-1)), .int (iI (0)), .int (iI (-1)), .int (iI (0))])), (q_1, .inl (cyI, 60, .inl (xA (fun _ => 0)))), (q_2, .inl (cyI, 60, .inl (xA (fun _ => 0)))), (q_3, .inl (cyI, 60, .inl (xA (fun _ => 0))))] := hD
  exact W.vret hx hb hr (fun t_ ht_ hW_ => ⟨⟨(q_1, q_2, q_3), rfl, trivial, by rw [ht_]; exact hP, va_K.moved hW_.alike hK, hD⟩, hS.F ht_⟩) hS.2.2 dX0_init_68
set_option maxHeartbeats 1000000 in
set_option maxRecDepth 100000 in
theorem c_X1_init (l : Launch) (D : va_G) (cyI cyJ cyO : ClassId) (qF : Nat) (sz : Nat) : Met l yX1_init wsX1_init ({ frames := 1, cells := 3, slots := 72, locals := 24 }) (va_Pc [.ref qF] (xM D vwCl [(qF, .inr (1, [.null, .null, .null, .int (iI (0)), .int (iI (0)), .int (iI (0))]))] (xT cyI cyJ cyO) sz)) (va_Qv (fun (u : Nat × Nat × Nat) => True) (xB D vwCl (xT cyI cyJ cyO) (va_A [(qF, .inr (1, [.null, .null, .null, .int (iI (0)), .int (iI (0)), .int (iI (0))]))] sz) (fun u : Nat × Nat × Nat => [(qF, .inr (1, [.ref (u.1), .ref (u.2.1), .ref (u.2.2), .int (iI (0)), .int (iI (0)), .int (iI (0))])), ((u.1), .inl (cyI, 60, .inl (xA (fun _ => 0)))), ((u.2.1), .inl (cyI, 6, .inl (xA (fun _ => 0)))), ((u.2.2), .inl (cyI, 6, .inl (xA (fun _ => 0))))])) (va_A [(qF, .inr (1, [.null, .null, .null, .int (iI (0)), .int (iI (0)), .int (iI (0))]))] sz)) 3 72 (va_A [(qF, .inr (1, [.null, .null, .null, .int (iI (0)), .int (iI (0)), .int (iI (0))]))] sz) := by
  refine Met.ofW (cc := cX1_init) (maxL := 1) (ret := none) (by decide) rfl ?_
  intro p e s m args below meth c s₁ B hml hv
  obtain ⟨rfl, hsz, hP, hK, hD0⟩ := hv
  have hx := B.exec
  have hb := B.bytes
  have hr := B.returns
  have hts := atoms_spec (ws := wsX1_init) B.pre
  have hown : s.vm.findClass RX1 = some m.cls := findClass_of_methodNamed B.named
  have hlocks := B.notSynchronized
  have hin : meth.name = "<init>" := (name_of_methodNamed B.named B.method).1
  have hcX1 : ∀ w ∈ wsX10, w ∈ wsX1_init := fun _ h => List.mem_cons_of_mem _ (List.mem_append_right _ h)
  subst hsz
  have hD := hD0.self (sz := s.heap.size)
  generalize hAe : va_A [(qF, .inr (1, [.null, .null, .null, .int (iI (0)), .int (iI (0)), .int (iI (0))]))] s.heap.size = A at hD ⊢
  have hA : ∀ q : Nat, s.heap.size ≤ q → A q := fun q h => by rw [← hAe]; exact Or.inr h
  have hS : va_S A s.heap s.heap [] := va_S.rf
  have hP : va_P D vwCl [(qF, .inr (1, [.null, .null, .null, .int (iI (0)), .int (iI (0)), .int (iI (0))]))] s.heap := hP
  have hl := lv_entry ([.ref qF]) (n := 1) (Nat.le_of_ble_eq_true rfl)
  rw [lg_entry_eq]
  generalize (lg_sl ([.ref qF]) ++ List.replicate (1 - (lg_sl ([.ref qF])).length) Slot.unset).toArray = ls at hl ⊢
  have hl : lv_has ls 1 [(0, .ref qF)] := hl
  refine lv_aload_n hx hb dX1_init_0 rfl (lv_at hl 0 rfl) ?_
  refine W.objInit hx hb hown (hts (.methodLink RX1 3 objectInit) (List.mem_of_getElem? (i := 1) (by decide +kernel))) (hts (.instanceMethod objectInit) (List.mem_of_getElem? (i := 2) (by decide +kernel))) (hts (.code objectInit ⟨#[0xb1]⟩ 1 none) (List.mem_of_getElem? (i := 3) (by decide +kernel))) rfl (by rw [hml]; exact hl.1) rfl dX1_init_1 (Nat.le_of_ble_eq_true rfl) (Nat.le_of_ble_eq_true rfl) ?_
  refine W.eq (g2 := F0 m 4 ls []) rfl ?_
  refine lv_aload_n hx hb dX1_init_4 rfl (lv_at hl 0 rfl) ?_
  refine xi_bipush hx hb dX1_init_5 (by decide +kernel) ?_
  refine xi_newI 60 hx hb (hts (.arrayClass .int) (List.mem_of_getElem? (i := 4) (by decide +kernel))) hK hP hD hS hA (by decide) (by decide) (Nat.le_of_ble_eq_true rfl) (Nat.le_of_ble_eq_true rfl) dX1_init_7 (fun q_1 H hP hD hS => ?_)
  have hP : va_P D vwCl [(qF, .inr (1, [.null, .null, .null, .int (iI (0)), .int (iI (0)), .int (iI (0))])), (q_1, .inl (cyI, 60, .inl (xA (fun _ => 0))))] H := hP
  have hD : va_D A [(qF, .inr (1, [.null, .null, .null, .int (iI (0)), .int (iI (0)), .int (iI (0))])), (q_1, .inl (cyI, 60, .inl (xA (fun _ => 0))))] := hD
  refine W.widen (k := 1) (n := 60) (Nat.le_of_ble_eq_true rfl) (Nat.le_of_ble_eq_true rfl) ?_
  refine va_putF (D := D) (ci := 1) (v := .ref q_1) (ty := (.array .int)) (C := RX1) (T := TX1) (N := 6) hx hb hts hcX1 tyX1 tyX1_ok nmX1 hown hK hP hD hS 0 rfl rfl 0 (by decide) (hts (.fieldLink RX1 9 "WallMarks$Flows" "bytes" "[I") (List.mem_of_getElem? (i := 5) (by decide +kernel))) (fun _ h9 => h9) rfl hin rfl (by decide +kernel) rfl rfl (Nat.le_of_ble_eq_true rfl) dX1_init_9 (fun H locs hP hD hS => ?_)
  have hP : va_P D vwCl [(qF, .inr (1, [.ref q_1, .null, .null, .int (iI (0)), .int (iI (0)), .int (iI (0))])), (q_1, .inl (cyI, 60, .inl (xA (fun _ => 0))))] H := hP
  have hD : va_D A [(qF, .inr (1, [.ref q_1, .null, .null, .int (iI (0)), .int (iI (0)), .int (iI (0))])), (q_1, .inl (cyI, 60, .inl (xA (fun _ => 0))))] := hD
  refine lv_aload_n hx hb dX1_init_12 rfl (lv_at hl 0 rfl) ?_
  refine xi_bipush hx hb dX1_init_13 (by decide +kernel) ?_
  refine xi_newI 6 hx hb (hts (.arrayClass .int) (List.mem_of_getElem? (i := 4) (by decide +kernel))) hK hP hD hS hA (by decide) (by decide) (Nat.le_of_ble_eq_true rfl) (Nat.le_of_ble_eq_true rfl) dX1_init_15 (fun q_2 H hP hD hS => ?_)
  have hP : va_P D vwCl [(qF, .inr (1, [.ref q_1, .null, .null, .int (iI (0)), .int (iI (0)), .int (iI (0))])), (q_1, .inl (cyI, 60, .inl (xA (fun _ => 0)))), (q_2, .inl (cyI, 6, .inl (xA (fun _ => 0))))] H := hP
  have hD : va_D A [(qF, .inr (1, [.ref q_1, .null, .null, .int (iI (0)), .int (iI (0)), .int (iI (0))])), (q_1, .inl (cyI, 60, .inl (xA (fun _ => 0)))), (q_2, .inl (cyI, 6, .inl (xA (fun _ => 0))))] := hD
  refine W.widen (k := 2) (n := 66) (Nat.le_of_ble_eq_true rfl) (Nat.le_of_ble_eq_true rfl) ?_
  refine va_putF (D := D) (ci := 1) (v := .ref q_2) (ty := (.array .int)) (C := RX1) (T := TX1) (N := 6) hx hb hts hcX1 tyX1 tyX1_ok nmX1 hown hK hP hD hS 0 rfl rfl 1 (by decide) (hts (.fieldLink RX1 15 "WallMarks$Flows" "levels" "[I") (List.mem_of_getElem? (i := 6) (by decide +kernel))) (fun _ h9 => h9) rfl hin rfl (by decide +kernel) rfl rfl (Nat.le_of_ble_eq_true rfl) dX1_init_17 (fun H locs hP hD hS => ?_)
  have hP : va_P D vwCl [(qF, .inr (1, [.ref q_1, .ref q_2, .null, .int (iI (0)), .int (iI (0)), .int (iI (0))])), (q_1, .inl (cyI, 60, .inl (xA (fun _ => 0)))), (q_2, .inl (cyI, 6, .inl (xA (fun _ => 0))))] H := hP
  have hD : va_D A [(qF, .inr (1, [.ref q_1, .ref q_2, .null, .int (iI (0)), .int (iI (0)), .int (iI (0))])), (q_1, .inl (cyI, 60, .inl (xA (fun _ => 0)))), (q_2, .inl (cyI, 6, .inl (xA (fun _ => 0))))] := hD
  refine lv_aload_n hx hb dX1_init_20 rfl (lv_at hl 0 rfl) ?_
  refine xi_bipush hx hb dX1_init_21 (by decide +kernel) ?_
  refine xi_newI 6 hx hb (hts (.arrayClass .int) (List.mem_of_getElem? (i := 4) (by decide +kernel))) hK hP hD hS hA (by decide) (by decide) (Nat.le_of_ble_eq_true rfl) (Nat.le_of_ble_eq_true rfl) dX1_init_23 (fun q_3 H hP hD hS => ?_)
  have hP : va_P D vwCl [(qF, .inr (1, [.ref q_1, .ref q_2, .null, .int (iI (0)), .int (iI (0)), .int (iI (0))])), (q_1, .inl (cyI, 60, .inl (xA (fun _ => 0)))), (q_2, .inl (cyI, 6, .inl (xA (fun _ => 0)))), (q_3, .inl (cyI, 6, .inl (xA (fun _ => 0))))] H := hP
  have hD : va_D A [(qF, .inr (1, [.ref q_1, .ref q_2, .null, .int (iI (0)), .int (iI (0)), .int (iI (0))])), (q_1, .inl (cyI, 60, .inl (xA (fun _ => 0)))), (q_2, .inl (cyI, 6, .inl (xA (fun _ => 0)))), (q_3, .inl (cyI, 6, .inl (xA (fun _ => 0))))] := hD
  refine W.widen (k := 3) (n := 72) (Nat.le_of_ble_eq_true rfl) (Nat.le_of_ble_eq_true rfl) ?_
  refine va_putF (D := D) (ci := 1) (v := .ref q_3) (ty := (.array .int)) (C := RX1) (T := TX1) (N := 6) hx hb hts hcX1 tyX1 tyX1_ok nmX1 hown hK hP hD hS 0 rfl rfl 2 (by decide) (hts (.fieldLink RX1 18 "WallMarks$Flows" "amounts" "[I") (List.mem_of_getElem? (i := 7) (by decide +kernel))) (fun _ h9 => h9) rfl hin rfl (by decide +kernel) rfl rfl (Nat.le_of_ble_eq_true rfl) dX1_init_25 (fun H locs hP hD hS => ?_)
  have hP : va_P D vwCl [(qF, .inr (1, [.ref q_1, .ref q_2, .ref q_3, .int (iI (0)), .int (iI (0)), .int (iI (0))])), (q_1, .inl (cyI, 60, .inl (xA (fun _ => 0)))), (q_2, .inl (cyI, 6, .inl (xA (fun _ => 0)))), (q_3, .inl (cyI, 6, .inl (xA (fun _ => 0))))] H := hP
  have hD : va_D A [(qF, .inr (1, [.ref q_1, .ref q_2, .ref q_3, .int (iI (0)), .int (iI (0)), .int (iI (0))])), (q_1, .inl (cyI, 60, .inl (xA (fun _ => 0)))), (q_2, .inl (cyI, 6, .inl (xA (fun _ => 0)))), (q_3, .inl (cyI, 6, .inl (xA (fun _ => 0))))] := hD
  refine lv_aload_n hx hb dX1_init_28 rfl (lv_at hl 0 rfl) ?_
  refine xi_const hx hb dX1_init_29 ?_
  refine va_put (D := D) (ci := 1) (v := .int (iI (0))) (ty := .int) (C := RX1) (T := TX1) (N := 6) hx hb hts hcX1 tyX1 tyX1_ok nmX1 hown hK hP hD hS 0 rfl rfl 3 (by decide) (hts (.fieldLink RX1 21 "WallMarks$Flows" "size" "I") (List.mem_of_getElem? (i := 8) (by decide +kernel))) (fun _ h9 => h9) rfl (by decide +kernel) rfl rfl (Nat.le_of_ble_eq_true rfl) dX1_init_30 (fun H locs hP hD hS => ?_)
  have hP : va_P D vwCl [(qF, .inr (1, [.ref q_1, .ref q_2, .ref q_3, .int (iI (0)), .int (iI (0)), .int (iI (0))])), (q_1, .inl (cyI, 60, .inl (xA (fun _ => 0)))), (q_2, .inl (cyI, 6, .inl (xA (fun _ => 0)))), (q_3, .inl (cyI, 6, .inl (xA (fun _ => 0))))] H := hP
  have hD : va_D A [(qF, .inr (1, [.ref q_1, .ref q_2, .ref q_3, .int (iI (0)), .int (iI (0)), .int (iI (0))])), (q_1, .inl (cyI, 60, .inl (xA (fun _ => 0)))), (q_2, .inl (cyI, 6, .inl (xA (fun _ => 0)))), (q_3, .inl (cyI, 6, .inl (xA (fun _ => 0))))] := hD
  refine lv_aload_n hx hb dX1_init_33 rfl (lv_at hl 0 rfl) ?_
  refine xi_const hx hb dX1_init_34 ?_
  refine va_put (D := D) (ci := 1) (v := .int (iI (0))) (ty := .int) (C := RX1) (T := TX1) (N := 6) hx hb hts hcX1 tyX1 tyX1_ok nmX1 hown hK hP hD hS 0 rfl rfl 4 (by decide) (hts (.fieldLink RX1 25 "WallMarks$Flows" "pairs" "I") (List.mem_of_getElem? (i := 9) (by decide +kernel))) (fun _ h9 => h9) rfl (by decide +kernel) rfl rfl (Nat.le_of_ble_eq_true rfl) dX1_init_35 (fun H locs hP hD hS => ?_)
  have hP : va_P D vwCl [(qF, .inr (1, [.ref q_1, .ref q_2, .ref q_3, .int (iI (0)), .int (iI (0)), .int (iI (0))])), (q_1, .inl (cyI, 60, .inl (xA (fun _ => 0)))), (q_2, .inl (cyI, 6, .inl (xA (fun _ => 0)))), (q_3, .inl (cyI, 6, .inl (xA (fun _ => 0))))] H := hP
  have hD : va_D A [(qF, .inr (1, [.ref q_1, .ref q_2, .ref q_3, .int (iI (0)), .int (iI (0)), .int (iI (0))])), (q_1, .inl (cyI, 60, .inl (xA (fun _ => 0)))), (q_2, .inl (cyI, 6, .inl (xA (fun _ => 0)))), (q_3, .inl (cyI, 6, .inl (xA (fun _ => 0))))] := hD
  refine lv_aload_n hx hb dX1_init_38 rfl (lv_at hl 0 rfl) ?_
  refine xi_const hx hb dX1_init_39 ?_
  refine va_put (D := D) (ci := 1) (v := .int (iI (0))) (ty := .int) (C := RX1) (T := TX1) (N := 6) hx hb hts hcX1 tyX1 tyX1_ok nmX1 hown hK hP hD hS 0 rfl rfl 5 (by decide) (hts (.fieldLink RX1 28 "WallMarks$Flows" "place" "I") (List.mem_of_getElem? (i := 10) (by decide +kernel))) (fun _ h9 => h9) rfl (by decide +kernel) rfl rfl (Nat.le_of_ble_eq_true rfl) dX1_init_40 (fun H locs hP hD hS => ?_)
  have hP : va_P D vwCl [(qF, .inr (1, [.ref q_1, .ref q_2, .ref q_3, .int (iI (0)), .int (iI (0)), .int (iI (0))])), (q_1, .inl (cyI, 60, .inl (xA (fun _ => 0)))), (q_2, .inl (cyI, 6, .inl (xA (fun _ => 0)))), (q_3, .inl (cyI, 6, .inl (xA (fun _ => 0))))] H := hP
  have hD : va_D A [(qF, .inr (1, [.ref q_1, .ref q_2, .ref q_3, .int (iI (0)), .int (iI (0)), .int (iI (0))])), (q_1, .inl (cyI, 60, .inl (xA (fun _ => 0)))), (q_2, .inl (cyI, 6, .inl (xA (fun _ => 0)))), (q_3, .inl (cyI, 6, .inl (xA (fun _ => 0))))] := hD
  exact W.vret hx hb hr (fun t_ ht_ hW_ => ⟨⟨(q_1, q_2, q_3), rfl, trivial, by rw [ht_]; exact hP, va_K.moved hW_.alike hK, hD⟩, hS.F ht_⟩) hS.2.2 dX1_init_43
set_option maxHeartbeats 1000000 in
set_option maxRecDepth 100000 in
theorem c_X2_init (l : Launch) (D : va_G) (cyI cyJ cyO : ClassId) (qK : Nat) (sz : Nat) : Met l yX2_init wsX2_init ({ frames := 1, cells := 2, slots := 120, locals := 24 }) (va_Pc [.ref qK] (xM D vwCl [(qK, .inr (2, [.null, .null]))] (xT cyI cyJ cyO) sz)) (va_Qv (fun (u : Nat × Nat) => True) (xB D vwCl (xT cyI cyJ cyO) (va_A [(qK, .inr (2, [.null, .null]))] sz) (fun u : Nat × Nat => [(qK, .inr (2, [.ref (u.1), .ref (u.2)])), ((u.1), .inl (cyI, 60, .inl (xA (fun _ => 0)))), ((u.2), .inl (cyI, 60, .inl (xA (fun _ => 0))))])) (va_A [(qK, .inr (2, [.null, .null]))] sz)) 2 120 (va_A [(qK, .inr (2, [.null, .null]))] sz) := by
  refine Met.ofW (cc := cX2_init) (maxL := 1) (ret := none) (by decide) rfl ?_
  intro p e s m args below meth c s₁ B hml hv
  obtain ⟨rfl, hsz, hP, hK, hD0⟩ := hv
  have hx := B.exec
  have hb := B.bytes
  have hr := B.returns
  have hts := atoms_spec (ws := wsX2_init) B.pre
  have hown : s.vm.findClass RX2 = some m.cls := findClass_of_methodNamed B.named
  have hlocks := B.notSynchronized
  have hin : meth.name = "<init>" := (name_of_methodNamed B.named B.method).1
  have hcX2 : ∀ w ∈ wsX20, w ∈ wsX2_init := fun _ h => List.mem_cons_of_mem _ (List.mem_append_right _ h)
  subst hsz
  have hD := hD0.self (sz := s.heap.size)
  generalize hAe : va_A [(qK, .inr (2, [.null, .null]))] s.heap.size = A at hD ⊢
  have hA : ∀ q : Nat, s.heap.size ≤ q → A q := fun q h => by rw [← hAe]; exact Or.inr h
  have hS : va_S A s.heap s.heap [] := va_S.rf
  have hP : va_P D vwCl [(qK, .inr (2, [.null, .null]))] s.heap := hP
  have hl := lv_entry ([.ref qK]) (n := 1) (Nat.le_of_ble_eq_true rfl)
  rw [lg_entry_eq]
  generalize (lg_sl ([.ref qK]) ++ List.replicate (1 - (lg_sl ([.ref qK])).length) Slot.unset).toArray = ls at hl ⊢
  have hl : lv_has ls 1 [(0, .ref qK)] := hl
  refine lv_aload_n hx hb dX2_init_0 rfl (lv_at hl 0 rfl) ?_
  refine W.objInit hx hb hown (hts (.methodLink RX2 3 objectInit) (List.mem_of_getElem? (i := 1) (by decide +kernel))) (hts (.instanceMethod objectInit) (List.mem_of_getElem? (i := 2) (by decide +kernel))) (hts (.code objectInit ⟨#[0xb1]⟩ 1 none) (List.mem_of_getElem? (i := 3) (by decide +kernel))) rfl (by rw [hml]; exact hl.1) rfl dX2_init_1 (Nat.le_of_ble_eq_true rfl) (Nat.le_of_ble_eq_true rfl) ?_
  refine W.eq (g2 := F0 m 4 ls []) rfl ?_
  refine lv_aload_n hx hb dX2_init_4 rfl (lv_at hl 0 rfl) ?_
  refine xi_bipush hx hb dX2_init_5 (by decide +kernel) ?_
  refine xi_newI 60 hx hb (hts (.arrayClass .int) (List.mem_of_getElem? (i := 4) (by decide +kernel))) hK hP hD hS hA (by decide) (by decide) (Nat.le_of_ble_eq_true rfl) (Nat.le_of_ble_eq_true rfl) dX2_init_7 (fun q_1 H hP hD hS => ?_)
  have hP : va_P D vwCl [(qK, .inr (2, [.null, .null])), (q_1, .inl (cyI, 60, .inl (xA (fun _ => 0))))] H := hP
  have hD : va_D A [(qK, .inr (2, [.null, .null])), (q_1, .inl (cyI, 60, .inl (xA (fun _ => 0))))] := hD
  refine W.widen (k := 1) (n := 60) (Nat.le_of_ble_eq_true rfl) (Nat.le_of_ble_eq_true rfl) ?_
  refine va_putF (D := D) (ci := 2) (v := .ref q_1) (ty := (.array .int)) (C := RX2) (T := TX2) (N := 2) hx hb hts hcX2 tyX2 tyX2_ok nmX2 hown hK hP hD hS 0 rfl rfl 0 (by decide) (hts (.fieldLink RX2 9 "WallMarks$Known" "kinds" "[I") (List.mem_of_getElem? (i := 5) (by decide +kernel))) (fun _ h9 => h9) rfl hin rfl (by decide +kernel) rfl rfl (Nat.le_of_ble_eq_true rfl) dX2_init_9 (fun H locs hP hD hS => ?_)
  have hP : va_P D vwCl [(qK, .inr (2, [.ref q_1, .null])), (q_1, .inl (cyI, 60, .inl (xA (fun _ => 0))))] H := hP
  have hD : va_D A [(qK, .inr (2, [.ref q_1, .null])), (q_1, .inl (cyI, 60, .inl (xA (fun _ => 0))))] := hD
  refine lv_aload_n hx hb dX2_init_12 rfl (lv_at hl 0 rfl) ?_
  refine xi_bipush hx hb dX2_init_13 (by decide +kernel) ?_
  refine xi_newI 60 hx hb (hts (.arrayClass .int) (List.mem_of_getElem? (i := 4) (by decide +kernel))) hK hP hD hS hA (by decide) (by decide) (Nat.le_of_ble_eq_true rfl) (Nat.le_of_ble_eq_true rfl) dX2_init_15 (fun q_2 H hP hD hS => ?_)
  have hP : va_P D vwCl [(qK, .inr (2, [.ref q_1, .null])), (q_1, .inl (cyI, 60, .inl (xA (fun _ => 0)))), (q_2, .inl (cyI, 60, .inl (xA (fun _ => 0))))] H := hP
  have hD : va_D A [(qK, .inr (2, [.ref q_1, .null])), (q_1, .inl (cyI, 60, .inl (xA (fun _ => 0)))), (q_2, .inl (cyI, 60, .inl (xA (fun _ => 0))))] := hD
  refine W.widen (k := 2) (n := 120) (Nat.le_of_ble_eq_true rfl) (Nat.le_of_ble_eq_true rfl) ?_
  refine va_putF (D := D) (ci := 2) (v := .ref q_2) (ty := (.array .int)) (C := RX2) (T := TX2) (N := 2) hx hb hts hcX2 tyX2 tyX2_ok nmX2 hown hK hP hD hS 0 rfl rfl 1 (by decide) (hts (.fieldLink RX2 15 "WallMarks$Known" "levels" "[I") (List.mem_of_getElem? (i := 6) (by decide +kernel))) (fun _ h9 => h9) rfl hin rfl (by decide +kernel) rfl rfl (Nat.le_of_ble_eq_true rfl) dX2_init_17 (fun H locs hP hD hS => ?_)
  have hP : va_P D vwCl [(qK, .inr (2, [.ref q_1, .ref q_2])), (q_1, .inl (cyI, 60, .inl (xA (fun _ => 0)))), (q_2, .inl (cyI, 60, .inl (xA (fun _ => 0))))] H := hP
  have hD : va_D A [(qK, .inr (2, [.ref q_1, .ref q_2])), (q_1, .inl (cyI, 60, .inl (xA (fun _ => 0)))), (q_2, .inl (cyI, 60, .inl (xA (fun _ => 0))))] := hD
  exact W.vret hx hb hr (fun t_ ht_ hW_ => ⟨⟨(q_1, q_2), rfl, trivial, by rw [ht_]; exact hP, va_K.moved hW_.alike hK, hD⟩, hS.F ht_⟩) hS.2.2 dX2_init_20
set_option maxHeartbeats 1000000 in
set_option maxRecDepth 100000 in
theorem c_X3_init (l : Launch) (D : va_G) (cyI cyJ cyO : ClassId) (qS : Nat) (sz : Nat) : Met l yX3_init wsX3_init ({ frames := 1, cells := 1, slots := 60, locals := 24 }) (va_Pc [.ref qS] (xM D vwCl [(qS, .inr (3, [.null, .int (iI (0)), .int (iI (0)), .int (iI (0))]))] (xT cyI cyJ cyO) sz)) (va_Qv (fun (u : Nat) => True) (xB D vwCl (xT cyI cyJ cyO) (va_A [(qS, .inr (3, [.null, .int (iI (0)), .int (iI (0)), .int (iI (0))]))] sz) (fun u : Nat => [(qS, .inr (3, [.ref u, .int (iI (1)), .int (iI (0)), .int (iI (0))])), (u, .inl (cyI, 60, .inl (xA (fun _ => 0))))])) (va_A [(qS, .inr (3, [.null, .int (iI (0)), .int (iI (0)), .int (iI (0))]))] sz)) 1 60 (va_A [(qS, .inr (3, [.null, .int (iI (0)), .int (iI (0)), .int (iI (0))]))] sz) := by
  refine Met.ofW (cc := cX3_init) (maxL := 1) (ret := none) (by decide) rfl ?_
  intro p e s m args below meth c s₁ B hml hv
  obtain ⟨rfl, hsz, hP, hK, hD0⟩ := hv
  have hx := B.exec
  have hb := B.bytes
  have hr := B.returns
  have hts := atoms_spec (ws := wsX3_init) B.pre
  have hown : s.vm.findClass RX3 = some m.cls := findClass_of_methodNamed B.named
  have hlocks := B.notSynchronized
  have hin : meth.name = "<init>" := (name_of_methodNamed B.named B.method).1
  have hcX3 : ∀ w ∈ wsX30, w ∈ wsX3_init := fun _ h => List.mem_cons_of_mem _ (List.mem_append_right _ h)
  subst hsz
  have hD := hD0.self (sz := s.heap.size)
  generalize hAe : va_A [(qS, .inr (3, [.null, .int (iI (0)), .int (iI (0)), .int (iI (0))]))] s.heap.size = A at hD ⊢
  have hA : ∀ q : Nat, s.heap.size ≤ q → A q := fun q h => by rw [← hAe]; exact Or.inr h
  have hS : va_S A s.heap s.heap [] := va_S.rf
  have hP : va_P D vwCl [(qS, .inr (3, [.null, .int (iI (0)), .int (iI (0)), .int (iI (0))]))] s.heap := hP
  have hl := lv_entry ([.ref qS]) (n := 1) (Nat.le_of_ble_eq_true rfl)
  rw [lg_entry_eq]
  generalize (lg_sl ([.ref qS]) ++ List.replicate (1 - (lg_sl ([.ref qS])).length) Slot.unset).toArray = ls at hl ⊢
  have hl : lv_has ls 1 [(0, .ref qS)] := hl
  refine lv_aload_n hx hb dX3_init_0 rfl (lv_at hl 0 rfl) ?_
  refine W.objInit hx hb hown (hts (.methodLink RX3 3 objectInit) (List.mem_of_getElem? (i := 1) (by decide +kernel))) (hts (.instanceMethod objectInit) (List.mem_of_getElem? (i := 2) (by decide +kernel))) (hts (.code objectInit ⟨#[0xb1]⟩ 1 none) (List.mem_of_getElem? (i := 3) (by decide +kernel))) rfl (by rw [hml]; exact hl.1) rfl dX3_init_1 (Nat.le_of_ble_eq_true rfl) (Nat.le_of_ble_eq_true rfl) ?_
  refine W.eq (g2 := F0 m 4 ls []) rfl ?_
  refine lv_aload_n hx hb dX3_init_4 rfl (lv_at hl 0 rfl) ?_
  refine xi_bipush hx hb dX3_init_5 (by decide +kernel) ?_
  refine xi_newI 60 hx hb (hts (.arrayClass .int) (List.mem_of_getElem? (i := 4) (by decide +kernel))) hK hP hD hS hA (by decide) (by decide) (Nat.le_of_ble_eq_true rfl) (Nat.le_of_ble_eq_true rfl) dX3_init_7 (fun q_1 H hP hD hS => ?_)
  have hP : va_P D vwCl [(qS, .inr (3, [.null, .int (iI (0)), .int (iI (0)), .int (iI (0))])), (q_1, .inl (cyI, 60, .inl (xA (fun _ => 0))))] H := hP
  have hD : va_D A [(qS, .inr (3, [.null, .int (iI (0)), .int (iI (0)), .int (iI (0))])), (q_1, .inl (cyI, 60, .inl (xA (fun _ => 0))))] := hD
  refine W.widen (k := 1) (n := 60) (Nat.le_of_ble_eq_true rfl) (Nat.le_of_ble_eq_true rfl) ?_
  refine va_putF (D := D) (ci := 3) (v := .ref q_1) (ty := (.array .int)) (C := RX3) (T := TX3) (N := 4) hx hb hts hcX3 tyX3 tyX3_ok nmX3 hown hK hP hD hS 0 rfl rfl 0 (by decide) (hts (.fieldLink RX3 9 "WallMarks$Sheet" "items" "[I") (List.mem_of_getElem? (i := 5) (by decide +kernel))) (fun _ h9 => h9) rfl hin rfl (by decide +kernel) rfl rfl (Nat.le_of_ble_eq_true rfl) dX3_init_9 (fun H locs hP hD hS => ?_)
  have hP : va_P D vwCl [(qS, .inr (3, [.ref q_1, .int (iI (0)), .int (iI (0)), .int (iI (0))])), (q_1, .inl (cyI, 60, .inl (xA (fun _ => 0))))] H := hP
  have hD : va_D A [(qS, .inr (3, [.ref q_1, .int (iI (0)), .int (iI (0)), .int (iI (0))])), (q_1, .inl (cyI, 60, .inl (xA (fun _ => 0))))] := hD
  refine lv_aload_n hx hb dX3_init_12 rfl (lv_at hl 0 rfl) ?_
  refine xi_const hx hb dX3_init_13 ?_
  refine va_put (D := D) (ci := 3) (v := .int (iI (1))) (ty := .boolean) (C := RX3) (T := TX3) (N := 4) hx hb hts hcX3 tyX3 tyX3_ok nmX3 hown hK hP hD hS 0 rfl rfl 1 (by decide) (hts (.fieldLink RX3 15 "WallMarks$Sheet" "lost" "Z") (List.mem_of_getElem? (i := 6) (by decide +kernel))) (fun _ h9 => h9) rfl (by decide +kernel) (by decide +kernel) (by decide +kernel) (Nat.le_of_ble_eq_true rfl) dX3_init_14 (fun H locs hP hD hS => ?_)
  have hP : va_P D vwCl [(qS, .inr (3, [.ref q_1, .int (iI (1)), .int (iI (0)), .int (iI (0))])), (q_1, .inl (cyI, 60, .inl (xA (fun _ => 0))))] H := hP
  have hD : va_D A [(qS, .inr (3, [.ref q_1, .int (iI (1)), .int (iI (0)), .int (iI (0))])), (q_1, .inl (cyI, 60, .inl (xA (fun _ => 0))))] := hD
  refine lv_aload_n hx hb dX3_init_17 rfl (lv_at hl 0 rfl) ?_
  refine xi_const hx hb dX3_init_18 ?_
  refine va_put (D := D) (ci := 3) (v := .int (iI (0))) (ty := .int) (C := RX3) (T := TX3) (N := 4) hx hb hts hcX3 tyX3 tyX3_ok nmX3 hown hK hP hD hS 0 rfl rfl 2 (by decide) (hts (.fieldLink RX3 19 "WallMarks$Sheet" "form" "I") (List.mem_of_getElem? (i := 7) (by decide +kernel))) (fun _ h9 => h9) rfl (by decide +kernel) rfl rfl (Nat.le_of_ble_eq_true rfl) dX3_init_19 (fun H locs hP hD hS => ?_)
  have hP : va_P D vwCl [(qS, .inr (3, [.ref q_1, .int (iI (1)), .int (iI (0)), .int (iI (0))])), (q_1, .inl (cyI, 60, .inl (xA (fun _ => 0))))] H := hP
  have hD : va_D A [(qS, .inr (3, [.ref q_1, .int (iI (1)), .int (iI (0)), .int (iI (0))])), (q_1, .inl (cyI, 60, .inl (xA (fun _ => 0))))] := hD
  refine lv_aload_n hx hb dX3_init_22 rfl (lv_at hl 0 rfl) ?_
  refine xi_const hx hb dX3_init_23 ?_
  refine va_put (D := D) (ci := 3) (v := .int (iI (0))) (ty := .int) (C := RX3) (T := TX3) (N := 4) hx hb hts hcX3 tyX3 tyX3_ok nmX3 hown hK hP hD hS 0 rfl rfl 3 (by decide) (hts (.fieldLink RX3 23 "WallMarks$Sheet" "size" "I") (List.mem_of_getElem? (i := 8) (by decide +kernel))) (fun _ h9 => h9) rfl (by decide +kernel) rfl rfl (Nat.le_of_ble_eq_true rfl) dX3_init_24 (fun H locs hP hD hS => ?_)
  have hP : va_P D vwCl [(qS, .inr (3, [.ref q_1, .int (iI (1)), .int (iI (0)), .int (iI (0))])), (q_1, .inl (cyI, 60, .inl (xA (fun _ => 0))))] H := hP
  have hD : va_D A [(qS, .inr (3, [.ref q_1, .int (iI (1)), .int (iI (0)), .int (iI (0))])), (q_1, .inl (cyI, 60, .inl (xA (fun _ => 0))))] := hD
  exact W.vret hx hb hr (fun t_ ht_ hW_ => ⟨⟨(q_1), rfl, trivial, by rw [ht_]; exact hP, va_K.moved hW_.alike hK, hD⟩, hS.F ht_⟩) hS.2.2 dX3_init_27
set_option maxHeartbeats 1000000 in
set_option maxRecDepth 100000 in
theorem c_X4_init (l : Launch) (D : va_G) (cyI cyJ cyO : ClassId) (qT : Nat) (sz : Nat) : Met l yX4_init wsX4_init ({ frames := 1, cells := 4, slots := 480, locals := 24 }) (va_Pc [.ref qT] (xM D vwCl [(qT, .inr (4, [.null, .null, .null, .null, .int (iI (0)), .int (iI (0))]))] (xT cyI cyJ cyO) sz)) (va_Qv (fun (u : Nat × Nat × Nat × Nat) => True) (xB D vwCl (xT cyI cyJ cyO) (va_A [(qT, .inr (4, [.null, .null, .null, .null, .int (iI (0)), .int (iI (0))]))] sz) (fun u : Nat × Nat × Nat × Nat => [(qT, .inr (4, [.ref (u.1), .ref (u.2.1), .ref (u.2.2.1), .ref (u.2.2.2), .int (iI (0)), .int (iI (0))])), ((u.1), .inl (cyI, 120, .inl (xA (fun _ => 0)))), ((u.2.1), .inl (cyI, 120, .inl (xA (fun _ => 0)))), ((u.2.2.1), .inl (cyI, 120, .inl (xA (fun _ => 0)))), ((u.2.2.2), .inl (cyI, 120, .inl (xA (fun _ => 0))))])) (va_A [(qT, .inr (4, [.null, .null, .null, .null, .int (iI (0)), .int (iI (0))]))] sz)) 4 480 (va_A [(qT, .inr (4, [.null, .null, .null, .null, .int (iI (0)), .int (iI (0))]))] sz) := by
  refine Met.ofW (cc := cX4_init) (maxL := 1) (ret := none) (by decide) rfl ?_
  intro p e s m args below meth c s₁ B hml hv
  obtain ⟨rfl, hsz, hP, hK, hD0⟩ := hv
  have hx := B.exec
  have hb := B.bytes
  have hr := B.returns
  have hts := atoms_spec (ws := wsX4_init) B.pre
  have hown : s.vm.findClass RX4 = some m.cls := findClass_of_methodNamed B.named
  have hlocks := B.notSynchronized
  have hin : meth.name = "<init>" := (name_of_methodNamed B.named B.method).1
  have hcX4 : ∀ w ∈ wsX40, w ∈ wsX4_init := fun _ h => List.mem_cons_of_mem _ (List.mem_append_right _ h)
  subst hsz
  have hD := hD0.self (sz := s.heap.size)
  generalize hAe : va_A [(qT, .inr (4, [.null, .null, .null, .null, .int (iI (0)), .int (iI (0))]))] s.heap.size = A at hD ⊢
  have hA : ∀ q : Nat, s.heap.size ≤ q → A q := fun q h => by rw [← hAe]; exact Or.inr h
  have hS : va_S A s.heap s.heap [] := va_S.rf
  have hP : va_P D vwCl [(qT, .inr (4, [.null, .null, .null, .null, .int (iI (0)), .int (iI (0))]))] s.heap := hP
  have hl := lv_entry ([.ref qT]) (n := 1) (Nat.le_of_ble_eq_true rfl)
  rw [lg_entry_eq]
  generalize (lg_sl ([.ref qT]) ++ List.replicate (1 - (lg_sl ([.ref qT])).length) Slot.unset).toArray = ls at hl ⊢
  have hl : lv_has ls 1 [(0, .ref qT)] := hl
  refine lv_aload_n hx hb dX4_init_0 rfl (lv_at hl 0 rfl) ?_
  refine W.objInit hx hb hown (hts (.methodLink RX4 3 objectInit) (List.mem_of_getElem? (i := 1) (by decide +kernel))) (hts (.instanceMethod objectInit) (List.mem_of_getElem? (i := 2) (by decide +kernel))) (hts (.code objectInit ⟨#[0xb1]⟩ 1 none) (List.mem_of_getElem? (i := 3) (by decide +kernel))) rfl (by rw [hml]; exact hl.1) rfl dX4_init_1 (Nat.le_of_ble_eq_true rfl) (Nat.le_of_ble_eq_true rfl) ?_
  refine W.eq (g2 := F0 m 4 ls []) rfl ?_
  refine lv_aload_n hx hb dX4_init_4 rfl (lv_at hl 0 rfl) ?_
  refine xi_bipush hx hb dX4_init_5 (by decide +kernel) ?_
  refine xi_newI 120 hx hb (hts (.arrayClass .int) (List.mem_of_getElem? (i := 4) (by decide +kernel))) hK hP hD hS hA (by decide) (by decide) (Nat.le_of_ble_eq_true rfl) (Nat.le_of_ble_eq_true rfl) dX4_init_7 (fun q_1 H hP hD hS => ?_)
  have hP : va_P D vwCl [(qT, .inr (4, [.null, .null, .null, .null, .int (iI (0)), .int (iI (0))])), (q_1, .inl (cyI, 120, .inl (xA (fun _ => 0))))] H := hP
  have hD : va_D A [(qT, .inr (4, [.null, .null, .null, .null, .int (iI (0)), .int (iI (0))])), (q_1, .inl (cyI, 120, .inl (xA (fun _ => 0))))] := hD
  refine W.widen (k := 1) (n := 120) (Nat.le_of_ble_eq_true rfl) (Nat.le_of_ble_eq_true rfl) ?_
  refine va_putF (D := D) (ci := 4) (v := .ref q_1) (ty := (.array .int)) (C := RX4) (T := TX4) (N := 6) hx hb hts hcX4 tyX4 tyX4_ok nmX4 hown hK hP hD hS 0 rfl rfl 0 (by decide) (hts (.fieldLink RX4 9 "WallMarks$Tellings" "years" "[I") (List.mem_of_getElem? (i := 5) (by decide +kernel))) (fun _ h9 => h9) rfl hin rfl (by decide +kernel) rfl rfl (Nat.le_of_ble_eq_true rfl) dX4_init_9 (fun H locs hP hD hS => ?_)
  have hP : va_P D vwCl [(qT, .inr (4, [.ref q_1, .null, .null, .null, .int (iI (0)), .int (iI (0))])), (q_1, .inl (cyI, 120, .inl (xA (fun _ => 0))))] H := hP
  have hD : va_D A [(qT, .inr (4, [.ref q_1, .null, .null, .null, .int (iI (0)), .int (iI (0))])), (q_1, .inl (cyI, 120, .inl (xA (fun _ => 0))))] := hD
  refine lv_aload_n hx hb dX4_init_12 rfl (lv_at hl 0 rfl) ?_
  refine xi_bipush hx hb dX4_init_13 (by decide +kernel) ?_
  refine xi_newI 120 hx hb (hts (.arrayClass .int) (List.mem_of_getElem? (i := 4) (by decide +kernel))) hK hP hD hS hA (by decide) (by decide) (Nat.le_of_ble_eq_true rfl) (Nat.le_of_ble_eq_true rfl) dX4_init_15 (fun q_2 H hP hD hS => ?_)
  have hP : va_P D vwCl [(qT, .inr (4, [.ref q_1, .null, .null, .null, .int (iI (0)), .int (iI (0))])), (q_1, .inl (cyI, 120, .inl (xA (fun _ => 0)))), (q_2, .inl (cyI, 120, .inl (xA (fun _ => 0))))] H := hP
  have hD : va_D A [(qT, .inr (4, [.ref q_1, .null, .null, .null, .int (iI (0)), .int (iI (0))])), (q_1, .inl (cyI, 120, .inl (xA (fun _ => 0)))), (q_2, .inl (cyI, 120, .inl (xA (fun _ => 0))))] := hD
  refine W.widen (k := 2) (n := 240) (Nat.le_of_ble_eq_true rfl) (Nat.le_of_ble_eq_true rfl) ?_
  refine va_putF (D := D) (ci := 4) (v := .ref q_2) (ty := (.array .int)) (C := RX4) (T := TX4) (N := 6) hx hb hts hcX4 tyX4 tyX4_ok nmX4 hown hK hP hD hS 0 rfl rfl 1 (by decide) (hts (.fieldLink RX4 15 "WallMarks$Tellings" "kinds" "[I") (List.mem_of_getElem? (i := 6) (by decide +kernel))) (fun _ h9 => h9) rfl hin rfl (by decide +kernel) rfl rfl (Nat.le_of_ble_eq_true rfl) dX4_init_17 (fun H locs hP hD hS => ?_)
  have hP : va_P D vwCl [(qT, .inr (4, [.ref q_1, .ref q_2, .null, .null, .int (iI (0)), .int (iI (0))])), (q_1, .inl (cyI, 120, .inl (xA (fun _ => 0)))), (q_2, .inl (cyI, 120, .inl (xA (fun _ => 0))))] H := hP
  have hD : va_D A [(qT, .inr (4, [.ref q_1, .ref q_2, .null, .null, .int (iI (0)), .int (iI (0))])), (q_1, .inl (cyI, 120, .inl (xA (fun _ => 0)))), (q_2, .inl (cyI, 120, .inl (xA (fun _ => 0))))] := hD
  refine lv_aload_n hx hb dX4_init_20 rfl (lv_at hl 0 rfl) ?_
  refine xi_bipush hx hb dX4_init_21 (by decide +kernel) ?_
  refine xi_newI 120 hx hb (hts (.arrayClass .int) (List.mem_of_getElem? (i := 4) (by decide +kernel))) hK hP hD hS hA (by decide) (by decide) (Nat.le_of_ble_eq_true rfl) (Nat.le_of_ble_eq_true rfl) dX4_init_23 (fun q_3 H hP hD hS => ?_)
  have hP : va_P D vwCl [(qT, .inr (4, [.ref q_1, .ref q_2, .null, .null, .int (iI (0)), .int (iI (0))])), (q_1, .inl (cyI, 120, .inl (xA (fun _ => 0)))), (q_2, .inl (cyI, 120, .inl (xA (fun _ => 0)))), (q_3, .inl (cyI, 120, .inl (xA (fun _ => 0))))] H := hP
  have hD : va_D A [(qT, .inr (4, [.ref q_1, .ref q_2, .null, .null, .int (iI (0)), .int (iI (0))])), (q_1, .inl (cyI, 120, .inl (xA (fun _ => 0)))), (q_2, .inl (cyI, 120, .inl (xA (fun _ => 0)))), (q_3, .inl (cyI, 120, .inl (xA (fun _ => 0))))] := hD
  refine W.widen (k := 3) (n := 360) (Nat.le_of_ble_eq_true rfl) (Nat.le_of_ble_eq_true rfl) ?_
  refine va_putF (D := D) (ci := 4) (v := .ref q_3) (ty := (.array .int)) (C := RX4) (T := TX4) (N := 6) hx hb hts hcX4 tyX4 tyX4_ok nmX4 hown hK hP hD hS 0 rfl rfl 2 (by decide) (hts (.fieldLink RX4 18 "WallMarks$Tellings" "levels" "[I") (List.mem_of_getElem? (i := 7) (by decide +kernel))) (fun _ h9 => h9) rfl hin rfl (by decide +kernel) rfl rfl (Nat.le_of_ble_eq_true rfl) dX4_init_25 (fun H locs hP hD hS => ?_)
  have hP : va_P D vwCl [(qT, .inr (4, [.ref q_1, .ref q_2, .ref q_3, .null, .int (iI (0)), .int (iI (0))])), (q_1, .inl (cyI, 120, .inl (xA (fun _ => 0)))), (q_2, .inl (cyI, 120, .inl (xA (fun _ => 0)))), (q_3, .inl (cyI, 120, .inl (xA (fun _ => 0))))] H := hP
  have hD : va_D A [(qT, .inr (4, [.ref q_1, .ref q_2, .ref q_3, .null, .int (iI (0)), .int (iI (0))])), (q_1, .inl (cyI, 120, .inl (xA (fun _ => 0)))), (q_2, .inl (cyI, 120, .inl (xA (fun _ => 0)))), (q_3, .inl (cyI, 120, .inl (xA (fun _ => 0))))] := hD
  refine lv_aload_n hx hb dX4_init_28 rfl (lv_at hl 0 rfl) ?_
  refine xi_bipush hx hb dX4_init_29 (by decide +kernel) ?_
  refine xi_newI 120 hx hb (hts (.arrayClass .int) (List.mem_of_getElem? (i := 4) (by decide +kernel))) hK hP hD hS hA (by decide) (by decide) (Nat.le_of_ble_eq_true rfl) (Nat.le_of_ble_eq_true rfl) dX4_init_31 (fun q_4 H hP hD hS => ?_)
  have hP : va_P D vwCl [(qT, .inr (4, [.ref q_1, .ref q_2, .ref q_3, .null, .int (iI (0)), .int (iI (0))])), (q_1, .inl (cyI, 120, .inl (xA (fun _ => 0)))), (q_2, .inl (cyI, 120, .inl (xA (fun _ => 0)))), (q_3, .inl (cyI, 120, .inl (xA (fun _ => 0)))), (q_4, .inl (cyI, 120, .inl (xA (fun _ => 0))))] H := hP
  have hD : va_D A [(qT, .inr (4, [.ref q_1, .ref q_2, .ref q_3, .null, .int (iI (0)), .int (iI (0))])), (q_1, .inl (cyI, 120, .inl (xA (fun _ => 0)))), (q_2, .inl (cyI, 120, .inl (xA (fun _ => 0)))), (q_3, .inl (cyI, 120, .inl (xA (fun _ => 0)))), (q_4, .inl (cyI, 120, .inl (xA (fun _ => 0))))] := hD
  refine W.widen (k := 4) (n := 480) (Nat.le_of_ble_eq_true rfl) (Nat.le_of_ble_eq_true rfl) ?_
  refine va_putF (D := D) (ci := 4) (v := .ref q_4) (ty := (.array .int)) (C := RX4) (T := TX4) (N := 6) hx hb hts hcX4 tyX4 tyX4_ok nmX4 hown hK hP hD hS 0 rfl rfl 3 (by decide) (hts (.fieldLink RX4 21 "WallMarks$Tellings" "times" "[I") (List.mem_of_getElem? (i := 8) (by decide +kernel))) (fun _ h9 => h9) rfl hin rfl (by decide +kernel) rfl rfl (Nat.le_of_ble_eq_true rfl) dX4_init_33 (fun H locs hP hD hS => ?_)
  have hP : va_P D vwCl [(qT, .inr (4, [.ref q_1, .ref q_2, .ref q_3, .ref q_4, .int (iI (0)), .int (iI (0))])), (q_1, .inl (cyI, 120, .inl (xA (fun _ => 0)))), (q_2, .inl (cyI, 120, .inl (xA (fun _ => 0)))), (q_3, .inl (cyI, 120, .inl (xA (fun _ => 0)))), (q_4, .inl (cyI, 120, .inl (xA (fun _ => 0))))] H := hP
  have hD : va_D A [(qT, .inr (4, [.ref q_1, .ref q_2, .ref q_3, .ref q_4, .int (iI (0)), .int (iI (0))])), (q_1, .inl (cyI, 120, .inl (xA (fun _ => 0)))), (q_2, .inl (cyI, 120, .inl (xA (fun _ => 0)))), (q_3, .inl (cyI, 120, .inl (xA (fun _ => 0)))), (q_4, .inl (cyI, 120, .inl (xA (fun _ => 0))))] := hD
  refine lv_aload_n hx hb dX4_init_36 rfl (lv_at hl 0 rfl) ?_
  refine xi_const hx hb dX4_init_37 ?_
  refine va_put (D := D) (ci := 4) (v := .int (iI (0))) (ty := .int) (C := RX4) (T := TX4) (N := 6) hx hb hts hcX4 tyX4 tyX4_ok nmX4 hown hK hP hD hS 0 rfl rfl 4 (by decide) (hts (.fieldLink RX4 24 "WallMarks$Tellings" "size" "I") (List.mem_of_getElem? (i := 9) (by decide +kernel))) (fun _ h9 => h9) rfl (by decide +kernel) rfl rfl (Nat.le_of_ble_eq_true rfl) dX4_init_38 (fun H locs hP hD hS => ?_)
  have hP : va_P D vwCl [(qT, .inr (4, [.ref q_1, .ref q_2, .ref q_3, .ref q_4, .int (iI (0)), .int (iI (0))])), (q_1, .inl (cyI, 120, .inl (xA (fun _ => 0)))), (q_2, .inl (cyI, 120, .inl (xA (fun _ => 0)))), (q_3, .inl (cyI, 120, .inl (xA (fun _ => 0)))), (q_4, .inl (cyI, 120, .inl (xA (fun _ => 0))))] H := hP
  have hD : va_D A [(qT, .inr (4, [.ref q_1, .ref q_2, .ref q_3, .ref q_4, .int (iI (0)), .int (iI (0))])), (q_1, .inl (cyI, 120, .inl (xA (fun _ => 0)))), (q_2, .inl (cyI, 120, .inl (xA (fun _ => 0)))), (q_3, .inl (cyI, 120, .inl (xA (fun _ => 0)))), (q_4, .inl (cyI, 120, .inl (xA (fun _ => 0))))] := hD
  refine lv_aload_n hx hb dX4_init_41 rfl (lv_at hl 0 rfl) ?_
  refine xi_const hx hb dX4_init_42 ?_
  refine va_put (D := D) (ci := 4) (v := .int (iI (0))) (ty := .int) (C := RX4) (T := TX4) (N := 6) hx hb hts hcX4 tyX4 tyX4_ok nmX4 hown hK hP hD hS 0 rfl rfl 5 (by decide) (hts (.fieldLink RX4 28 "WallMarks$Tellings" "lastTime" "I") (List.mem_of_getElem? (i := 10) (by decide +kernel))) (fun _ h9 => h9) rfl (by decide +kernel) rfl rfl (Nat.le_of_ble_eq_true rfl) dX4_init_43 (fun H locs hP hD hS => ?_)
  have hP : va_P D vwCl [(qT, .inr (4, [.ref q_1, .ref q_2, .ref q_3, .ref q_4, .int (iI (0)), .int (iI (0))])), (q_1, .inl (cyI, 120, .inl (xA (fun _ => 0)))), (q_2, .inl (cyI, 120, .inl (xA (fun _ => 0)))), (q_3, .inl (cyI, 120, .inl (xA (fun _ => 0)))), (q_4, .inl (cyI, 120, .inl (xA (fun _ => 0))))] H := hP
  have hD : va_D A [(qT, .inr (4, [.ref q_1, .ref q_2, .ref q_3, .ref q_4, .int (iI (0)), .int (iI (0))])), (q_1, .inl (cyI, 120, .inl (xA (fun _ => 0)))), (q_2, .inl (cyI, 120, .inl (xA (fun _ => 0)))), (q_3, .inl (cyI, 120, .inl (xA (fun _ => 0)))), (q_4, .inl (cyI, 120, .inl (xA (fun _ => 0))))] := hD
  exact W.vret hx hb hr (fun t_ ht_ hW_ => ⟨⟨(q_1, q_2, q_3, q_4), rfl, trivial, by rw [ht_]; exact hP, va_K.moved hW_.alike hK, hD⟩, hS.F ht_⟩) hS.2.2 dX4_init_46
set_option maxHeartbeats 1000000 in
set_option maxRecDepth 100000 in
theorem c_X5_init (l : Launch) (D : va_G) (cyI cyJ cyO : ClassId) (qA : Nat) (sz : Nat) : Met l yX5_init wsX5_init ({ frames := 1, cells := 3, slots := 18, locals := 24 }) (va_Pc [.ref qA] (xM D vwCl [(qA, .inr (5, [.null, .null, .null, .int (iI (0))]))] (xT cyI cyJ cyO) sz)) (va_Qv (fun (u : Nat × Nat × Nat) => True) (xB D vwCl (xT cyI cyJ cyO) (va_A [(qA, .inr (5, [.null, .null, .null, .int (iI (0))]))] sz) (fun u : Nat × Nat × Nat => [(qA, .inr (5, [.ref (u.1), .ref (u.2.1), .ref (u.2.2), .int (iI (0))])), ((u.1), .inl (cyI, 6, .inl (xA (fun _ => 0)))), ((u.2.1), .inl (cyI, 6, .inl (xA (fun _ => 0)))), ((u.2.2), .inl (cyI, 6, .inl (xA (fun _ => 0))))])) (va_A [(qA, .inr (5, [.null, .null, .null, .int (iI (0))]))] sz)) 3 18 (va_A [(qA, .inr (5, [.null, .null, .null, .int (iI (0))]))] sz) := by
  refine Met.ofW (cc := cX5_init) (maxL := 1) (ret := none) (by decide) rfl ?_
  intro p e s m args below meth c s₁ B hml hv
  obtain ⟨rfl, hsz, hP, hK, hD0⟩ := hv
  have hx := B.exec
  have hb := B.bytes
  have hr := B.returns
  have hts := atoms_spec (ws := wsX5_init) B.pre
  have hown : s.vm.findClass RX5 = some m.cls := findClass_of_methodNamed B.named
  have hlocks := B.notSynchronized
  have hin : meth.name = "<init>" := (name_of_methodNamed B.named B.method).1
  have hcX5 : ∀ w ∈ wsX50, w ∈ wsX5_init := fun _ h => List.mem_cons_of_mem _ (List.mem_append_right _ h)
  subst hsz
  have hD := hD0.self (sz := s.heap.size)
  generalize hAe : va_A [(qA, .inr (5, [.null, .null, .null, .int (iI (0))]))] s.heap.size = A at hD ⊢
  have hA : ∀ q : Nat, s.heap.size ≤ q → A q := fun q h => by rw [← hAe]; exact Or.inr h
  have hS : va_S A s.heap s.heap [] := va_S.rf
  have hP : va_P D vwCl [(qA, .inr (5, [.null, .null, .null, .int (iI (0))]))] s.heap := hP
  have hl := lv_entry ([.ref qA]) (n := 1) (Nat.le_of_ble_eq_true rfl)
  rw [lg_entry_eq]
  generalize (lg_sl ([.ref qA]) ++ List.replicate (1 - (lg_sl ([.ref qA])).length) Slot.unset).toArray = ls at hl ⊢
  have hl : lv_has ls 1 [(0, .ref qA)] := hl
  refine lv_aload_n hx hb dX5_init_0 rfl (lv_at hl 0 rfl) ?_
  refine W.objInit hx hb hown (hts (.methodLink RX5 3 objectInit) (List.mem_of_getElem? (i := 1) (by decide +kernel))) (hts (.instanceMethod objectInit) (List.mem_of_getElem? (i := 2) (by decide +kernel))) (hts (.code objectInit ⟨#[0xb1]⟩ 1 none) (List.mem_of_getElem? (i := 3) (by decide +kernel))) rfl (by rw [hml]; exact hl.1) rfl dX5_init_1 (Nat.le_of_ble_eq_true rfl) (Nat.le_of_ble_eq_true rfl) ?_
  refine W.eq (g2 := F0 m 4 ls []) rfl ?_
  refine lv_aload_n hx hb dX5_init_4 rfl (lv_at hl 0 rfl) ?_
  refine xi_bipush hx hb dX5_init_5 (by decide +kernel) ?_
  refine xi_newI 6 hx hb (hts (.arrayClass .int) (List.mem_of_getElem? (i := 4) (by decide +kernel))) hK hP hD hS hA (by decide) (by decide) (Nat.le_of_ble_eq_true rfl) (Nat.le_of_ble_eq_true rfl) dX5_init_7 (fun q_1 H hP hD hS => ?_)
  have hP : va_P D vwCl [(qA, .inr (5, [.null, .null, .null, .int (iI (0))])), (q_1, .inl (cyI, 6, .inl (xA (fun _ => 0))))] H := hP
  have hD : va_D A [(qA, .inr (5, [.null, .null, .null, .int (iI (0))])), (q_1, .inl (cyI, 6, .inl (xA (fun _ => 0))))] := hD
  refine W.widen (k := 1) (n := 6) (Nat.le_of_ble_eq_true rfl) (Nat.le_of_ble_eq_true rfl) ?_
  refine va_putF (D := D) (ci := 5) (v := .ref q_1) (ty := (.array .int)) (C := RX5) (T := TX5) (N := 4) hx hb hts hcX5 tyX5 tyX5_ok nmX5 hown hK hP hD hS 0 rfl rfl 0 (by decide) (hts (.fieldLink RX5 9 "WallMarks$Watches" "froms" "[I") (List.mem_of_getElem? (i := 5) (by decide +kernel))) (fun _ h9 => h9) rfl hin rfl (by decide +kernel) rfl rfl (Nat.le_of_ble_eq_true rfl) dX5_init_9 (fun H locs hP hD hS => ?_)
  have hP : va_P D vwCl [(qA, .inr (5, [.ref q_1, .null, .null, .int (iI (0))])), (q_1, .inl (cyI, 6, .inl (xA (fun _ => 0))))] H := hP
  have hD : va_D A [(qA, .inr (5, [.ref q_1, .null, .null, .int (iI (0))])), (q_1, .inl (cyI, 6, .inl (xA (fun _ => 0))))] := hD
  refine lv_aload_n hx hb dX5_init_12 rfl (lv_at hl 0 rfl) ?_
  refine xi_bipush hx hb dX5_init_13 (by decide +kernel) ?_
  refine xi_newI 6 hx hb (hts (.arrayClass .int) (List.mem_of_getElem? (i := 4) (by decide +kernel))) hK hP hD hS hA (by decide) (by decide) (Nat.le_of_ble_eq_true rfl) (Nat.le_of_ble_eq_true rfl) dX5_init_15 (fun q_2 H hP hD hS => ?_)
  have hP : va_P D vwCl [(qA, .inr (5, [.ref q_1, .null, .null, .int (iI (0))])), (q_1, .inl (cyI, 6, .inl (xA (fun _ => 0)))), (q_2, .inl (cyI, 6, .inl (xA (fun _ => 0))))] H := hP
  have hD : va_D A [(qA, .inr (5, [.ref q_1, .null, .null, .int (iI (0))])), (q_1, .inl (cyI, 6, .inl (xA (fun _ => 0)))), (q_2, .inl (cyI, 6, .inl (xA (fun _ => 0))))] := hD
  refine W.widen (k := 2) (n := 12) (Nat.le_of_ble_eq_true rfl) (Nat.le_of_ble_eq_true rfl) ?_
  refine va_putF (D := D) (ci := 5) (v := .ref q_2) (ty := (.array .int)) (C := RX5) (T := TX5) (N := 4) hx hb hts hcX5 tyX5 tyX5_ok nmX5 hown hK hP hD hS 0 rfl rfl 1 (by decide) (hts (.fieldLink RX5 15 "WallMarks$Watches" "tos" "[I") (List.mem_of_getElem? (i := 6) (by decide +kernel))) (fun _ h9 => h9) rfl hin rfl (by decide +kernel) rfl rfl (Nat.le_of_ble_eq_true rfl) dX5_init_17 (fun H locs hP hD hS => ?_)
  have hP : va_P D vwCl [(qA, .inr (5, [.ref q_1, .ref q_2, .null, .int (iI (0))])), (q_1, .inl (cyI, 6, .inl (xA (fun _ => 0)))), (q_2, .inl (cyI, 6, .inl (xA (fun _ => 0))))] H := hP
  have hD : va_D A [(qA, .inr (5, [.ref q_1, .ref q_2, .null, .int (iI (0))])), (q_1, .inl (cyI, 6, .inl (xA (fun _ => 0)))), (q_2, .inl (cyI, 6, .inl (xA (fun _ => 0))))] := hD
  refine lv_aload_n hx hb dX5_init_20 rfl (lv_at hl 0 rfl) ?_
  refine xi_bipush hx hb dX5_init_21 (by decide +kernel) ?_
  refine xi_newI 6 hx hb (hts (.arrayClass .int) (List.mem_of_getElem? (i := 4) (by decide +kernel))) hK hP hD hS hA (by decide) (by decide) (Nat.le_of_ble_eq_true rfl) (Nat.le_of_ble_eq_true rfl) dX5_init_23 (fun q_3 H hP hD hS => ?_)
  have hP : va_P D vwCl [(qA, .inr (5, [.ref q_1, .ref q_2, .null, .int (iI (0))])), (q_1, .inl (cyI, 6, .inl (xA (fun _ => 0)))), (q_2, .inl (cyI, 6, .inl (xA (fun _ => 0)))), (q_3, .inl (cyI, 6, .inl (xA (fun _ => 0))))] H := hP
  have hD : va_D A [(qA, .inr (5, [.ref q_1, .ref q_2, .null, .int (iI (0))])), (q_1, .inl (cyI, 6, .inl (xA (fun _ => 0)))), (q_2, .inl (cyI, 6, .inl (xA (fun _ => 0)))), (q_3, .inl (cyI, 6, .inl (xA (fun _ => 0))))] := hD
  refine W.widen (k := 3) (n := 18) (Nat.le_of_ble_eq_true rfl) (Nat.le_of_ble_eq_true rfl) ?_
  refine va_putF (D := D) (ci := 5) (v := .ref q_3) (ty := (.array .int)) (C := RX5) (T := TX5) (N := 4) hx hb hts hcX5 tyX5 tyX5_ok nmX5 hown hK hP hD hS 0 rfl rfl 2 (by decide) (hts (.fieldLink RX5 18 "WallMarks$Watches" "levels" "[I") (List.mem_of_getElem? (i := 7) (by decide +kernel))) (fun _ h9 => h9) rfl hin rfl (by decide +kernel) rfl rfl (Nat.le_of_ble_eq_true rfl) dX5_init_25 (fun H locs hP hD hS => ?_)
  have hP : va_P D vwCl [(qA, .inr (5, [.ref q_1, .ref q_2, .ref q_3, .int (iI (0))])), (q_1, .inl (cyI, 6, .inl (xA (fun _ => 0)))), (q_2, .inl (cyI, 6, .inl (xA (fun _ => 0)))), (q_3, .inl (cyI, 6, .inl (xA (fun _ => 0))))] H := hP
  have hD : va_D A [(qA, .inr (5, [.ref q_1, .ref q_2, .ref q_3, .int (iI (0))])), (q_1, .inl (cyI, 6, .inl (xA (fun _ => 0)))), (q_2, .inl (cyI, 6, .inl (xA (fun _ => 0)))), (q_3, .inl (cyI, 6, .inl (xA (fun _ => 0))))] := hD
  refine lv_aload_n hx hb dX5_init_28 rfl (lv_at hl 0 rfl) ?_
  refine xi_const hx hb dX5_init_29 ?_
  refine va_put (D := D) (ci := 5) (v := .int (iI (0))) (ty := .int) (C := RX5) (T := TX5) (N := 4) hx hb hts hcX5 tyX5 tyX5_ok nmX5 hown hK hP hD hS 0 rfl rfl 3 (by decide) (hts (.fieldLink RX5 21 "WallMarks$Watches" "size" "I") (List.mem_of_getElem? (i := 8) (by decide +kernel))) (fun _ h9 => h9) rfl (by decide +kernel) rfl rfl (Nat.le_of_ble_eq_true rfl) dX5_init_30 (fun H locs hP hD hS => ?_)
  have hP : va_P D vwCl [(qA, .inr (5, [.ref q_1, .ref q_2, .ref q_3, .int (iI (0))])), (q_1, .inl (cyI, 6, .inl (xA (fun _ => 0)))), (q_2, .inl (cyI, 6, .inl (xA (fun _ => 0)))), (q_3, .inl (cyI, 6, .inl (xA (fun _ => 0))))] H := hP
  have hD : va_D A [(qA, .inr (5, [.ref q_1, .ref q_2, .ref q_3, .int (iI (0))])), (q_1, .inl (cyI, 6, .inl (xA (fun _ => 0)))), (q_2, .inl (cyI, 6, .inl (xA (fun _ => 0)))), (q_3, .inl (cyI, 6, .inl (xA (fun _ => 0))))] := hD
  exact W.vret hx hb hr (fun t_ ht_ hW_ => ⟨⟨(q_1, q_2, q_3), rfl, trivial, by rw [ht_]; exact hP, va_K.moved hW_.alike hK, hD⟩, hS.F ht_⟩) hS.2.2 dX5_init_33
