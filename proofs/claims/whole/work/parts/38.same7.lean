/-! class = reference: the best dyke -/
def btG (g d : Int → Int) (h t : Int) : Prop := g h * d t < g t * d h ∨ (g h * d t = g t * d h ∧ h < t)
theorem bt_tr {g d : Int → Int} {a b c : Int} (ha : 0 < d a) (hb : 0 < d b) (hc : 0 < d c) (h1 : g a * d b ≤ g b * d a) (h2 : g b * d c ≤ g c * d b) : g a * d c ≤ g c * d a := by
  have e1 : g a * d b * d c ≤ g b * d a * d c := Int.mul_le_mul_of_nonneg_right h1 (by omega)
  have e2 : g b * d c * d a ≤ g c * d b * d a := Int.mul_le_mul_of_nonneg_right h2 (by omega)
  have e3 : g a * d c * d b ≤ g c * d a * d b := by
    rw [show g a * d c * d b = g a * d b * d c from by rw [Int.mul_assoc, Int.mul_comm (d c), ← Int.mul_assoc], show g c * d a * d b = g c * d b * d a from by rw [Int.mul_assoc, Int.mul_comm (d a), ← Int.mul_assoc]]
    rw [show g b * d a * d c = g b * d c * d a from by rw [Int.mul_assoc, Int.mul_comm (d a), ← Int.mul_assoc]] at e1
    omega
  exact Int.le_of_mul_le_mul_right e3 hb
/-- the order is strict and total: not better both ways round is the same level -/
theorem bt_to {g d : Int → Int} {h t : Int} (h1 : ¬ btG g d h t) (h2 : ¬ btG g d t h) : h = t := by
  unfold btG at h1 h2; omega
/-- weak: h is no worse than t -/
def btL (g d : Int → Int) (h t : Int) : Prop := ¬ btG g d t h
theorem btL_e {g d : Int → Int} {h t : Int} : btL g d h t ↔ (g h * d t < g t * d h ∨ (g h * d t = g t * d h ∧ h ≤ t)) := by
  unfold btL btG; omega
theorem btL_tr {g d : Int → Int} {a b c : Int} (ha : 0 < d a) (hb : 0 < d b) (hc : 0 < d c) (h1 : btL g d a b) (h2 : btL g d b c) : btL g d a c := by
  rw [btL_e] at h1 h2 ⊢
  have w := bt_tr (g := g) (d := d) ha hb hc (by omega) (by omega)
  rcases (show g a * d c < g c * d a ∨ g a * d c = g c * d a from by omega) with q | q
  · exact Or.inl q
  · refine Or.inr ⟨q, ?_⟩
    -- both are equal then
    have v1 := bt_tr (g := g) (d := d) hc ha hb (show g c * d a ≤ g a * d c from by omega) (by omega)
    have v2 := bt_tr (g := g) (d := d) hb hc ha (by omega) (show g c * d a ≤ g a * d c from by omega)
    omega
theorem be_n {g d st : Int → Int} {F : Int → Int → Int} (hd : ∀ x, 0 < d x) (hst : ∀ i, 0 ≤ st i ∧ st i ≤ 1000) (hF1 : ∀ i b, st i ≤ 999 → btG g d (st i) b → F i b = st i) (hF2 : ∀ i b, (¬ st i ≤ 999 ∨ ¬ btG g d (st i) b) → F i b = b) : ∀ n : Nat,
    (0 ≤ foldZ F n 0 ∧ foldZ F n 0 ≤ 999) ∧ btL g d (foldZ F n 0) 0 ∧ ∀ i : Int, 0 ≤ i → i < n → st i ≤ 999 → btL g d (foldZ F n 0) (st i)
  | 0 => ⟨⟨Int.le_refl 0, by show (0 : Int) ≤ 999; omega⟩, (by show btL g d 0 0; rw [btL_e]; omega), fun i a b => by exfalso; omega⟩
  | n + 1 => by
    have ih := be_n hd hst hF1 hF2 n
    rw [show ((n + 1 : Nat) : Int) = (n : Int) + 1 from rfl, foldZ_s _ (by omega)]
    generalize foldZ F n 0 = r at ih ⊢
    by_cases q : st n ≤ 999 ∧ btG g d (st n) r
    · rw [hF1 n r q.1 q.2]
      have w : btL g d (st n) r := by rw [btL_e]; unfold btG at q; omega
      refine ⟨⟨(hst n).1, q.1⟩, btL_tr (hd _) (hd _) (hd _) w ih.2.1, fun i a b c => ?_⟩
      rcases (show i = n ∨ i < n from by omega) with e | e
      · rw [e, btL_e]; omega
      · exact btL_tr (hd _) (hd _) (hd _) w (ih.2.2 i a e c)
    · rw [hF2 n r (by by_cases z : st n ≤ 999; exact Or.inr (fun y => q ⟨z, y⟩); exact Or.inl z)]
      refine ⟨ih.1, ih.2.1, fun i a b c => ?_⟩
      rcases (show i = n ∨ i < n from by omega) with e | e
      · rw [e] at c ⊢; exact fun z => q ⟨c, z⟩
      · exact ih.2.2 i a e c
