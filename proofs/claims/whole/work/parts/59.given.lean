/-! the law's start: what the Statement gives -/
theorem xT_of {s : State} {args : Array Value} (h1 : (Cond.arrayClass .int).before args s = true) (h2 : (Cond.arrayClass .long).before args s = true) (h3 : (Cond.arrayOver (.object "WallMarks$Sheet")).before args s = true) : ∃ cyI cyJ cyO : ClassId, ∀ (k : Nat) (q : ClassId × FieldType), (xT cyI cyJ cyO)[k]? = some q → ArrOfT s q.1 q.2 ∧ va_RA s q.1 q.2 := by
  obtain ⟨cI, kI, pI, a1, a2, a3⟩ := Cond.arrayClass_spec h1
  obtain ⟨cJ, kJ, pJ, b1, b2, b3⟩ := Cond.arrayClass_spec h2
  obtain ⟨pO, cO, kO, d1, d2, d3, d4, d5⟩ := Cond.arrayOver_spec h3
  refine ⟨cI, cJ, cO, fun k q hq => ?_⟩
  match k, hq with
  | 0, hq => cases hq; exact ⟨fun n z => ⟨(fun k h => by cases h), kI, a2, pI, a3⟩, a1⟩
  | 1, hq => cases hq; exact ⟨fun n z => ⟨(fun k h => by cases h), kJ, b2, pJ, b3⟩, b1⟩
  | 2, hq => cases hq; exact ⟨fun n z => ⟨(fun k h => by cases h), kO, d3, pO, d4⟩, kO, pO, d3, d4, d1, d5⟩
  | k + 3, hq => simp [xT] at hq
theorem tab_of {s : State} {args : Array Value} {n : String} {A : Nat → Prop} {f : Int → Int} (hA : ∀ a : Nat, a < s.heap.size → ¬ A a) (hl : (Cond.laysStatic RX6 n "[I").before args s = true) (hi : (Cond.initialized RX6).before args s = true) (h1 : (Cond.arrayOf (.static RX6 n "[I") .int).before args s = true) (h2 : (Cond.eq (.length (.static RX6 n "[I")) (.int 6)).before args s = true)
    (e0 : (Cond.eq (.elem (.static RX6 n "[I") (.int 0)) (.int (iI (f 0)))).before args s = true) (e1 : (Cond.eq (.elem (.static RX6 n "[I") (.int 1)) (.int (iI (f 1)))).before args s = true) (e2 : (Cond.eq (.elem (.static RX6 n "[I") (.int 2)) (.int (iI (f 2)))).before args s = true) (e3 : (Cond.eq (.elem (.static RX6 n "[I") (.int 3)) (.int (iI (f 3)))).before args s = true) (e4 : (Cond.eq (.elem (.static RX6 n "[I") (.int 4)) (.int (iI (f 4)))).before args s = true) (e5 : (Cond.eq (.elem (.static RX6 n "[I") (.int 5)) (.int (iI (f 5)))).before args s = true) :
    ∃ t : Nat, (Term.static RX6 n "[I").eval args s none [] s = some (.ref t) ∧ va_Z RX6 n "[I" (.ref t) A s s.heap ∧ va_T .int t 6 (fun j => .int (xA f j)) A s s.heap := by
  obtain ⟨t, ht, hT⟩ := va_Tof (N := 6) (f := fun j => .int (xA f j)) (A := A) (by omega) h1 (va_eqt h2) (fun j hj => by
    rcases (show j = 0 ∨ j = 1 ∨ j = 2 ∨ j = 3 ∨ j = 4 ∨ j = 5 from by omega) with rfl | rfl | rfl | rfl | rfl | rfl
    · exact va_eqt e0
    · exact va_eqt e1
    · exact va_eqt e2
    · exact va_eqt e3
    · exact va_eqt e4
    · exact va_eqt e5) hA
  exact ⟨t, ht, va_Zref hl hi ht hA, hT⟩
theorem len_of {s : State} {args : Array Value} {tm : Term} {N : Nat} (hN : N < 2147483648) (h : (Term.length tm).eval args s none [] s = some (.int (Int32.ofNat N))) : ∃ a cell, tm.eval args s none [] s = some (.ref a) ∧ s.heap[a]? = some cell ∧ cell.slots.size = N := by
  simp only [Term.eval, Option.bind_eq_bind] at h
  cases ht : tm.eval args s none [] s with
  | none => simp [ht] at h
  | some x =>
    cases x <;> simp [ht] at h
    case ref a =>
      obtain ⟨cell, hcell, h⟩ := Option.bind_eq_some_iff.mp h
      have h1 := (State.arrayAt?_spec hcell).1
      refine ⟨a, cell, rfl, h1, ?_⟩
      by_cases q : cell.slots.size < 2147483648
      · simp only [q, if_true, Option.some.injEq, Value.int.injEq] at h
        have h3 : (cell.slots.size.toInt32).toInt = (Int32.ofNat N).toInt := by rw [h]
        have e1 : (Nat.toInt32 cell.slots.size).toInt = (cell.slots.size : Int) := Int32.toInt_ofNat_of_lt (by omega)
        have e2 : (Int32.ofNat N).toInt = (N : Int) := Int32.toInt_ofNat_of_lt (by omega)
        omega
      · simp [q] at h
theorem first_of {s : State} {args : Array Value} {A : Nat → Prop} {t : Nat} (ht : (Term.static RX6 "FIRST_SETTINGS" "[I").eval args s none [] s = some (.ref t)) (hZ : va_Z RX6 "FIRST_SETTINGS" "[I" (.ref t) A s s.heap) (hT : va_T .int t 6 (fun j => .int (xA fsZ j)) A s s.heap) (h2 : (Cond.eq (.length (.static RX6 "FIRST_SETTINGS" "[I")) (.int 6)).before args s = true) (h3 : (Cond.exactly (.static RX6 "FIRST_SETTINGS" "[I") "[I").before args s = true) : xF A t s s.heap := by
  obtain ⟨cell, g1, g2, g3, g4, g5, g6, g7⟩ := hT
  obtain ⟨a, c0, cell2, k, q1, q2, q3, q4, q5, q6, -⟩ := Cond.exactly_spec h3
  obtain ⟨a3, cell3, r1, r2, r3⟩ := len_of (N := 6) (by omega) (va_eqt h2)
  cases ht.symm.trans q1
  cases ht.symm.trans r1
  cases g1.symm.trans q3
  cases g1.symm.trans r2
  exact ⟨hZ, cell, g1, by rw [q6]; exact q2, (fun k h => by rw [h] at q5; cases q5), g3, r3, g6, g7⟩
theorem iI_nat (L : Nat) : Int32.ofNat L = iI (L : Int) := by
  unfold iI
  first | rfl | exact (Int32.ofInt_natCast L).symm | simp
