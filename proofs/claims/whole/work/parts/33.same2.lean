/-! class = reference: dykes that last, records -/
theorem laR_sp (a x : Int) : ∀ (k : Nat) (i : Int), (i ≤ laR a x k i ∧ laR a x k i ≤ i + k) ∧ (∀ j, i ≤ j → j < laR a x k i → stW (j + 1) a x) ∧ (laR a x k i < i + k → ¬ stW (laR a x k i + 1) a x)
  | 0, i => by
    refine ⟨⟨Int.le_refl i, by show i ≤ i + ((0 : Nat) : Int); omega⟩, fun j h1 h2 => ?_, fun h => ?_⟩
    · have h3 : j < i := h2; omega
    · have h3 : i < i + ((0 : Nat) : Int) := h; omega
  | k + 1, i => by
    have ih := laR_sp a x k (i + 1)
    by_cases q : stW (i + 1) a x
    · have e : laR a x (k + 1) i = laR a x k (i + 1) := if_pos q
      rw [e]
      refine ⟨by have := ih.1; push_cast; omega, fun j h1 h2 => ?_, fun h => ih.2.2 (by push_cast at h; omega)⟩
      rcases (show j = i ∨ i + 1 ≤ j from by omega) with h | h
      · rw [h]; exact q
      · exact ih.2.1 j h h2
    · have e : laR a x (k + 1) i = i := if_neg q
      rw [e]
      exact ⟨by push_cast; omega, fun j h1 h2 => by omega, fun _ => q⟩
theorem laR_m {a x : Int} (ha : 0 ≤ a ∧ a ≤ 16) {n : Int} (hn : 0 ≤ n) (h : ¬ stW (n + 1) a x) : ∀ d : Nat, ¬ stW (n + d + 1) a x
  | 0 => by rw [show n + ((0 : Nat) : Int) = n from by omega]; exact h
  | d + 1 => fun q => by
    obtain ⟨m, hm⟩ : ∃ m : Nat, n + (d : Int) + 1 = m := ⟨(n + d + 1).toNat, by omega⟩
    have h2 := laR_m ha hn h d
    rw [hm] at h2
    rw [show n + ((d + 1 : Nat) : Int) + 1 = (m : Int) + 1 from by push_cast; omega] at q
    exact h2 (laR_l ha m (by omega) q)
theorem lasts_y {a x : Int} (ha : 0 ≤ a ∧ a ≤ 16) : lastF a x = laR a x (15 - 0 : Int).toNat 0 := by
  have e : (15 - 0 : Int).toNat = 15 := rfl
  rw [e]
  obtain ⟨h1, h2, h3⟩ := laR_sp a x 15 0
  generalize laR a x 15 0 = L at h1 h2 h3 ⊢
  have key : ∀ n : Nat, n ≤ 15 → foldZ (lastS a x) n 0 = if (n : Int) < L then (n : Int) else L := by
    intro n
    induction n with
    | zero => intro _; show (0 : Int) = _; split <;> omega
    | succ n ih =>
      intro hn
      rw [show ((n + 1 : Nat) : Int) = (n : Int) + 1 from rfl, foldZ_s _ (by omega), ih (by omega)]
      unfold lastS
      by_cases q : (n : Int) < L
      · rw [if_pos (h2 n (by omega) q)]; split <;> omega
      · have h4 := h3 (by omega)
        have h5 := laR_m ha (by omega) h4 ((n : Int) - L).toNat
        rw [show L + (((n : Int) - L).toNat : Int) + 1 = (n : Int) + 1 from by omega] at h5
        rw [if_neg h5, if_neg q, if_neg (by omega)]
  have := key 15 (by omega)
  unfold lastF
  rw [show ((15 : Nat) : Int) = 15 from rfl] at this
  rw [this]; split <;> omega
def rfG (y v : Int) (r : Int × Int × Int × Int) : Int × Int × Int × Int := if r.1 < v then (v, r.2.1 + 1, y, if 0 < r.2.1 ∧ r.2.2.2 < y - r.2.2.1 then y - r.2.2.1 else r.2.2.2) else r
theorem reF_r {kk kl f1 f2 : Int → Int} {lo hi : Int} (h : rowR (PX kk lo hi 0) f1 f2 kl 60) : reF f1 f2 (cntZ (PX kk lo hi 0) 60) = foldZ (pst (PX kk lo hi 0) rfG kl) 60 (-1, 0, -1, 0) :=
  row_fold rfG (-1, 0, -1, 0) 60 h
def rfI (y : Int) (r : Int × Int × Int × Int) : Prop := (0 ≤ r.2.1) ∧ (r.2.1 = 0 → r.2.2.1 = -1 ∧ r.2.2.2 = 0) ∧ (0 < r.2.1 → 0 ≤ r.2.2.1 ∧ r.2.2.1 < y)
theorem rec_st {y v : Int} {r : Int × Int × Int × Int} (hy : 0 ≤ y) (h : rfI y r) : rfG y v r = recS y v r ∧ rfI (y + 1) (recS y v r) := by
  obtain ⟨a, b, c, d⟩ := r
  unfold rfI at h ⊢
  unfold rfG recS
  dsimp only at h ⊢
  have hz : zmax d (y - c) = if d < y - c then y - c else d := rfl
  by_cases q : a < v
  · rw [if_pos q, if_pos q]
    dsimp only
    by_cases qb : b = 0
    · have h5 := h.2.1 qb
      rw [if_neg (by omega), if_pos h5.1]
      exact ⟨by rw [h5.2], by omega⟩
    · have h5 := h.2.2 (by omega)
      rw [if_neg (show ¬ c = -1 from by omega), hz]
      refine ⟨?_, by omega⟩
      by_cases qd : d < y - c
      · rw [if_pos ⟨by omega, qd⟩, if_pos qd]
      · rw [if_neg (fun z => qd z.2), if_neg qd]
  · rw [if_neg q, if_neg q]; exact ⟨rfl, by dsimp only; omega⟩
theorem rec_n (kk kl : Int → Int) (lo hi : Int) : ∀ n : Nat, foldZ (pst (PX kk lo hi 0) rfG kl) n (-1, 0, -1, 0) = recF kk kl lo hi n ∧ rfI n (recF kk kl lo hi n)
  | 0 => ⟨rfl, by show rfI 0 (-1, 0, -1, 0); unfold rfI; dsimp only; omega⟩
  | n + 1 => by
    have ih := rec_n kk kl lo hi n
    rw [show ((n + 1 : Nat) : Int) = (n : Int) + 1 from rfl, foldZ_s _ (by omega), ih.1]
    by_cases q : (lo ≤ (n : Int) ∧ (n : Int) ≤ hi) ∧ kk n = 0
    · have q2 : PX kk lo hi 0 n := q
      have h := rec_st (y := n) (v := kl n) (by omega) ih.2
      rw [recF_t (by omega) q, pst_t q2]
      exact h
    · have q2 : ¬ PX kk lo hi 0 n := q
      rw [recF_f (by omega) q, pst_f q2]
      refine ⟨rfl, ?_⟩
      have := ih.2
      unfold rfI at this ⊢; omega
theorem rec_y {kk kl f1 f2 : Int → Int} {lo hi : Int} (h : rowR (PX kk lo hi 0) f1 f2 kl 60) : reF f1 f2 (cntZ (PX kk lo hi 0) 60) = recF kk kl lo hi 60 :=
  (reF_r h).trans (rec_n kk kl lo hi 60).1
theorem gr_n (f1 f2 : Int → Int) : ∀ n : Nat, grF f2 n = (reF f1 f2 n).1
  | 0 => rfl
  | n + 1 => by
    have ih := gr_n f1 f2 n
    unfold grF reF at ih ⊢
    rw [show ((n + 1 : Nat) : Int) = (n : Int) + 1 from rfl, foldZ_s _ (by omega), foldZ_s _ (by omega), ih]
    split <;> rfl
theorem gr_y {kk kl f1 f2 : Int → Int} {lo hi : Int} (h : rowR (PX kk lo hi 0) f1 f2 kl 60) : grF f2 (cntZ (PX kk lo hi 0) 60) = (recF kk kl lo hi 60).1 := by
  have hc := cntZ_in (PX kk lo hi 0) (show (0 : Int) ≤ 60 from by omega)
  rw [← rec_y h]
  obtain ⟨k, hk⟩ : ∃ k : Nat, cntZ (PX kk lo hi 0) 60 = k := ⟨(cntZ (PX kk lo hi 0) 60).toNat, by omega⟩
  rw [hk]; exact gr_n f1 f2 k
