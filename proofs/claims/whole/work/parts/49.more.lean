theorem tm_i {R tm t : Int} (h : 0 ≤ tm ∧ tm ≤ 999) (h2 : 0 ≤ t ∧ t ≤ 999) : 0 ≤ (if R = 0 then tm else t) ∧ (if R = 0 then tm else t) ≤ 999 := by
  by_cases q : R = 0
  · rw [if_pos q]; exact h
  · rw [if_neg q]; exact h2
/-- words that hide their cases -/
def mfV (sl sf : Int) : Int := if sl = 1 then -1 else sf
def sB (x : Int) : Prop := x = 0 ∨ x = 1
def tmR (tt : Int → Int) (tn tm : Int) : Prop := (0 < tn ∧ tm = tt (tn - 1)) ∨ (tn = 0 ∧ tm = 0)
