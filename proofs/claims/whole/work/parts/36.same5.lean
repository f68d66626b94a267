/-! class = reference: steps, sure -/
theorem stp_0 {kk kl e1 e2 : Int → Int} (e3 : Int → Int) {lo hi y : Int} (h : rowR (PX kk lo hi 0) e1 e2 kl 60) (hy : 0 ≤ y ∧ y < 60) (q : PX kk lo hi 0 y) : ∃ i, 0 ≤ i ∧ i < cntZ (PX kk lo hi 0) 60 + cntZ (PX kk lo hi 1) 60 ∧ stepf (cntZ (PX kk lo hi 0) 60) (cntZ (PX kk lo hi 1) 60) e2 e3 i = kl y + 1 := by
  have a := cntZ_in (PX kk lo hi 0) hy.1
  have b := cntZ_lt hy.1 hy.2 q
  have c := cntZ_in (PX kk lo hi 1) (show (0 : Int) ≤ 60 from by omega)
  refine ⟨cntZ (PX kk lo hi 0) y, a.1, by omega, ?_⟩
  unfold stepf
  rw [if_neg (by omega), if_pos b, (h y hy.1 hy.2 q).2]
theorem stp_1 {kk kl e3 : Int → Int} (e2 : Int → Int) {lo hi y : Int} (h : rowB (PX kk lo hi 1) e3 kl 60) (hy : 0 ≤ y ∧ y < 60) (q : PX kk lo hi 1 y) : ∃ i, 0 ≤ i ∧ i < cntZ (PX kk lo hi 0) 60 + cntZ (PX kk lo hi 1) 60 ∧ stepf (cntZ (PX kk lo hi 0) 60) (cntZ (PX kk lo hi 1) 60) e2 e3 i = kl y := by
  have a := cntZ_in (PX kk lo hi 1) hy.1
  have b := cntZ_lt hy.1 hy.2 q
  have c := cntZ_in (PX kk lo hi 0) (show (0 : Int) ≤ 60 from by omega)
  refine ⟨cntZ (PX kk lo hi 0) 60 + cntZ (PX kk lo hi 1) y, by omega, by omega, ?_⟩
  unfold stepf
  rw [if_neg (by omega), if_neg (by omega), show cntZ (PX kk lo hi 0) 60 + cntZ (PX kk lo hi 1) y - cntZ (PX kk lo hi 0) 60 = cntZ (PX kk lo hi 1) y from by omega]
  exact h y hy.1 hy.2 q
theorem stp_x {kk kl e1 e2 e3 : Int → Int} {lo hi x : Int} (h : rowR (PX kk lo hi 0) e1 e2 kl 60) (h3 : rowB (PX kk lo hi 1) e3 kl 60) (hx : ∀ i, 0 ≤ i → i < cntZ (PX kk lo hi 0) 60 + cntZ (PX kk lo hi 1) 60 → stepf (cntZ (PX kk lo hi 0) 60) (cntZ (PX kk lo hi 1) 60) e2 e3 i ≠ x) : ovY kk kl lo hi x = ovY kk kl lo hi (x - 1) ∧ unY kk kl lo hi x = unY kk kl lo hi (x - 1) := by
  have k0 : ∀ y, 0 ≤ y → y < 60 → (lo ≤ y ∧ y ≤ hi) → kk y = 0 → kl y + 1 ≠ x := fun y a b c d e => by
    obtain ⟨i, p, q, r⟩ := stp_0 e3 h ⟨a, b⟩ (show PX kk lo hi 0 y from ⟨c, d⟩)
    exact hx i p q (r.trans e)
  have k1 : ∀ y, 0 ≤ y → y < 60 → (lo ≤ y ∧ y ≤ hi) → kk y = 1 → kl y ≠ x := fun y a b c d e => by
    obtain ⟨i, p, q, r⟩ := stp_1 e2 h3 ⟨a, b⟩ (show PX kk lo hi 1 y from ⟨c, d⟩)
    exact hx i p q (r.trans e)
  unfold ovY unY
  refine ⟨cnt_e (by omega) (fun y a b => ?_), cnt_e (by omega) (fun y a b => ?_)⟩
  · have u := k0 y a b
    constructor
    · rintro ⟨c, d, e⟩; exact ⟨c, d, by omega⟩
    · rintro ⟨c, d, e⟩; have := u c d; exact ⟨c, d, by omega⟩
  · have u := k0 y a b
    have v := k1 y a b
    constructor
    · rintro ⟨c, d | d⟩
      · have := u c d.1; exact ⟨c, Or.inl ⟨d.1, by omega⟩⟩
      · have := v c d.1; exact ⟨c, Or.inr ⟨d.1, by omega⟩⟩
    · rintro ⟨c, d | d⟩
      · exact ⟨c, Or.inl ⟨d.1, by omega⟩⟩
      · exact ⟨c, Or.inr ⟨d.1, by omega⟩⟩
/-- the first level that holds -/
noncomputable def fiZ (C : Int → Prop) : Nat → Int → Int
  | 0, _ => -1
  | k + 1, i => @ite _ (C i) (Classical.propDecidable _) i (fiZ C k (i + 1))
theorem suY_fi (kk kl : Int → Int) (lo hi y : Int) : ∀ (k : Nat) (i : Int), suY kk kl lo hi y k i = fiZ (fun x => 100 * (coY lo hi - unY kk kl lo hi x) ≤ y * (coY lo hi + 1)) k i
  | 0, _ => rfl
  | k + 1, i => by
    unfold suY fiZ
    rw [suY_fi kk kl lo hi y k (i + 1)]
theorem fiZ_sp (C : Int → Prop) : ∀ (k : Nat) (i : Int), 0 ≤ i → (fiZ C k i = -1 ∧ ∀ j, i ≤ j → j < i + k → ¬ C j) ∨ ((i ≤ fiZ C k i ∧ fiZ C k i < i + k) ∧ C (fiZ C k i) ∧ ∀ j, i ≤ j → j < fiZ C k i → ¬ C j)
  | 0, i, _ => Or.inl ⟨rfl, fun j a b => by omega⟩
  | k + 1, i, hi => by
    by_cases q : C i
    · have e : fiZ C (k + 1) i = i := if_pos q
      rw [e]; exact Or.inr ⟨by push_cast; omega, q, fun j a b => by omega⟩
    · have e : fiZ C (k + 1) i = fiZ C k (i + 1) := if_neg q
      rw [e]
      have hj : ∀ j, i ≤ j → ¬ i + 1 ≤ j → ¬ C j := fun j a b => by rw [show j = i from by omega]; exact q
      rcases fiZ_sp C k (i + 1) (by omega) with h | h
      · exact Or.inl ⟨h.1, fun j a b => (Classical.em (i + 1 ≤ j)).elim (fun c => h.2 j c (by push_cast at b; omega)) (hj j a)⟩
      · exact Or.inr ⟨by push_cast; omega, h.2.1, fun j a b => (Classical.em (i + 1 ≤ j)).elim (fun c => h.2.2 j c b) (hj j a)⟩
