/-! rows and years -/
theorem cnt_sur {P : Int → Prop} : ∀ (n : Nat) (j : Int), 0 ≤ j → j < cntZ P n → ∃ y : Int, 0 ≤ y ∧ y < n ∧ P y ∧ cntZ P y = j
  | 0, j, h1, h2 => by rw [show ((0 : Nat) : Int) = 0 from rfl, cntZ_0] at h2; omega
  | n + 1, j, h1, h2 => by
    rw [show ((n + 1 : Nat) : Int) = (n : Int) + 1 from rfl] at h2
    rcases Classical.em (P n) with q | q
    · rw [cntZ_t (by omega) q] at h2
      rcases (show j = cntZ P n ∨ j < cntZ P n from by omega) with h | h
      · exact ⟨n, by omega, by omega, q, h.symm⟩
      · obtain ⟨y, a, b, c, d⟩ := cnt_sur n j h1 h
        exact ⟨y, a, by omega, c, d⟩
    · rw [cntZ_f (by omega) q] at h2
      obtain ⟨y, a, b, c, d⟩ := cnt_sur n j h1 h2
      exact ⟨y, a, by omega, c, d⟩
theorem row_uni {P : Int → Prop} {e1 e2 f1 f2 kl : Int → Int} {n : Int} (hn : 0 ≤ n) (h : rowR P e1 e2 kl n) (h2 : rowR P f1 f2 kl n) : ∀ j, 0 ≤ j → j < cntZ P n → e1 j = f1 j ∧ e2 j = f2 j := by
  intro j h3 h4
  obtain ⟨k, rfl⟩ : ∃ k : Nat, n = k := ⟨n.toNat, by omega⟩
  obtain ⟨y, a, b, c, d⟩ := cnt_sur k j h3 h4
  have u := h y a b c
  have v := h2 y a b c
  rw [d] at u v
  exact ⟨by rw [u.1, v.1], by rw [u.2, v.2]⟩
noncomputable def pst {α : Type} (P : Int → Prop) (G : Int → Int → α → α) (kl : Int → Int) (y : Int) (a : α) : α := @ite _ (P y) (Classical.propDecidable _) (G y (kl y) a) a
theorem pst_t {α : Type} {P : Int → Prop} {G : Int → Int → α → α} {kl : Int → Int} {y : Int} {a : α} (q : P y) : pst P G kl y a = G y (kl y) a := if_pos q
theorem pst_f {α : Type} {P : Int → Prop} {G : Int → Int → α → α} {kl : Int → Int} {y : Int} {a : α} (q : ¬ P y) : pst P G kl y a = a := if_neg q
theorem row_fold {α : Type} {P : Int → Prop} {e1 e2 kl : Int → Int} (G : Int → Int → α → α) (a : α) : ∀ n : Nat, rowR P e1 e2 kl n → foldZ (fun j a => G (e1 j) (e2 j) a) (cntZ P n) a = foldZ (pst P G kl) n a
  | 0, _ => rfl
  | n + 1, h => by
    have h0 : rowR P e1 e2 kl n := fun y h1 h2 h3 => h y h1 (by push_cast; omega) h3
    rw [show ((n + 1 : Nat) : Int) = (n : Int) + 1 from rfl]
    have ih := row_fold G a n h0
    have hc := cntZ_in P (show (0 : Int) ≤ n from by omega)
    rcases Classical.em (P n) with q | q
    · have u := h n (by omega) (by push_cast; omega) q
      rw [cntZ_t (by omega) q, foldZ_s _ hc.1, foldZ_s _ (by omega), ih, u.1, u.2]
      rw [pst_t q]
    · rw [cntZ_f (by omega) q, foldZ_s (pst P G kl) (by omega), ih]
      rw [pst_f q]
theorem rowb_fold {α : Type} {P : Int → Prop} {e3 kl : Int → Int} (G : Int → α → α) (a : α) : ∀ n : Nat, rowB P e3 kl n → foldZ (fun j a => G (e3 j) a) (cntZ P n) a = foldZ (pst P (fun _ v a => G v a) kl) n a
  | 0, _ => rfl
  | n + 1, h => by
    have h0 : rowB P e3 kl n := fun y h1 h2 h3 => h y h1 (by push_cast; omega) h3
    rw [show ((n + 1 : Nat) : Int) = (n : Int) + 1 from rfl]
    have ih := rowb_fold G a n h0
    have hc := cntZ_in P (show (0 : Int) ≤ n from by omega)
    rcases Classical.em (P n) with q | q
    · have u := h n (by omega) (by push_cast; omega) q
      rw [cntZ_t (by omega) q, foldZ_s _ hc.1, foldZ_s _ (by omega), ih, u]
      rw [pst_t q]
    · rw [cntZ_f (by omega) q, foldZ_s (pst P (fun _ v a => G v a) kl) (by omega), ih]
      rw [pst_f q]
theorem pst_cnt (P : Int → Prop) (R : Int → Int → Prop) (kl : Int → Int) : ∀ n : Nat, foldZ (pst P (fun y v s => s + b2 (R y v)) kl) n 0 = cntZ (fun y => P y ∧ R y (kl y)) n
  | 0 => rfl
  | n + 1 => by
    rw [show ((n + 1 : Nat) : Int) = (n : Int) + 1 from rfl, foldZ_s _ (by omega), pst_cnt P R kl n]
    by_cases q : P n
    · rw [pst_t q]
      by_cases r : R n (kl n)
      · rw [b2_t r, cntZ_t (by omega) ⟨q, r⟩]
      · rw [b2_f r, cntZ_f (by omega) (fun z => r z.2)]; omega
    · rw [pst_f q, cntZ_f (by omega) (fun z => q z.1)]
theorem row_cnt {P : Int → Prop} {e1 e2 kl : Int → Int} (R : Int → Int → Prop) (n : Nat) (h : rowR P e1 e2 kl n) : cntZ (fun j => R (e1 j) (e2 j)) (cntZ P n) = cntZ (fun y => P y ∧ R y (kl y)) n :=
  (row_fold (fun y v s => s + b2 (R y v)) 0 n h).trans (pst_cnt P R kl n)
theorem rowb_cnt {P : Int → Prop} {e3 kl : Int → Int} (R : Int → Prop) (n : Nat) (h : rowB P e3 kl n) : cntZ (fun j => R (e3 j)) (cntZ P n) = cntZ (fun y => P y ∧ R (kl y)) n :=
  (rowb_fold (fun v s => s + b2 (R v)) 0 n h).trans (pst_cnt P (fun _ v => R v) kl n)
theorem cnt_e {P Q : Int → Prop} {n : Int} (hn : 0 ≤ n) (h : ∀ j, 0 ≤ j → j < n → (P j ↔ Q j)) : cntZ P n = cntZ Q n := sumZ_congr hn (fun j h1 h2 => b2_e (h j h1 h2))
theorem ov_y {kk kl e1 e2 : Int → Int} {lo hi x : Int} (h : rowR (PX kk lo hi 0) e1 e2 kl 60) : ovZ e2 (cntZ (PX kk lo hi 0) 60) x = ovY kk kl lo hi x := by
  have := row_cnt (fun _ v => x ≤ v) 60 h
  unfold ovZ ovY
  refine this.trans (cnt_e (by omega) (fun j _ _ => ?_))
  unfold PX
  exact ⟨fun z => ⟨z.1.1, z.1.2, z.2⟩, fun z => ⟨⟨z.1, z.2.1⟩, z.2.2⟩⟩
theorem bu_y {kk kl e3 : Int → Int} {lo hi x : Int} (h : rowB (PX kk lo hi 1) e3 kl 60) : buZ e3 (cntZ (PX kk lo hi 1) 60) x = cntZ (fun y => (lo ≤ y ∧ y ≤ hi) ∧ kk y = 1 ∧ kl y ≤ x) 60 := by
  have := rowb_cnt (fun v => v ≤ x) 60 h
  unfold buZ
  refine this.trans (cnt_e (by omega) (fun j _ _ => ?_))
  unfold PX
  exact ⟨fun z => ⟨z.1.1, z.1.2, z.2⟩, fun z => ⟨⟨z.1, z.2.1⟩, z.2.2⟩⟩
theorem un_n {kk kl : Int → Int} {lo hi x : Int} : ∀ n : Nat, cntZ (fun y => (lo ≤ y ∧ y ≤ hi) ∧ ((kk y = 0 ∧ kl y < x) ∨ (kk y = 1 ∧ kl y ≤ x))) n = cntZ (PX kk lo hi 0) n - cntZ (fun y => (lo ≤ y ∧ y ≤ hi) ∧ kk y = 0 ∧ x ≤ kl y) n + cntZ (fun y => (lo ≤ y ∧ y ≤ hi) ∧ kk y = 1 ∧ kl y ≤ x) n
  | 0 => rfl
  | n + 1 => by
    have ih := un_n (kk := kk) (kl := kl) (lo := lo) (hi := hi) (x := x) n
    rw [show ((n + 1 : Nat) : Int) = (n : Int) + 1 from rfl]
    unfold cntZ at ih ⊢
    rw [sumZ_s _ (by omega), sumZ_s _ (by omega), sumZ_s _ (by omega), sumZ_s _ (by omega), ih]
    dsimp only
    unfold PX
    by_cases c1 : lo ≤ (n : Int) ∧ (n : Int) ≤ hi
    · by_cases c2 : kk n = 0
      · by_cases c3 : kl n < x
        · rw [b2_t (by omega), b2_t (by omega), b2_f (by omega), b2_f (by omega)]; omega
        · rw [b2_f (by omega), b2_t (by omega), b2_t (by omega), b2_f (by omega)]; omega
      · by_cases c4 : kk n = 1 ∧ kl n ≤ x
        · rw [b2_t (by omega), b2_f (by omega), b2_f (by omega), b2_t (by omega)]; omega
        · rw [b2_f (by omega), b2_f (by omega), b2_f (by omega), b2_f (by omega)]; omega
    · rw [b2_f (by omega), b2_f (by omega), b2_f (by omega), b2_f (by omega)]; omega
theorem co_n {kk : Int → Int} {lo hi : Int} (h : ∀ j, 0 ≤ kk j ∧ kk j ≤ 2) : ∀ n : Nat, cntZ (fun y => lo ≤ y ∧ y ≤ hi) n = cntZ (PX kk lo hi 0) n + cntZ (PX kk lo hi 1) n + cntZ (PX kk lo hi 2) n
  | 0 => rfl
  | n + 1 => by
    have ih := co_n (lo := lo) (hi := hi) h n
    have hk := h n
    rw [show ((n + 1 : Nat) : Int) = (n : Int) + 1 from rfl]
    unfold cntZ at ih ⊢
    rw [sumZ_s _ (by omega), sumZ_s _ (by omega), sumZ_s _ (by omega), sumZ_s _ (by omega), ih]
    dsimp only
    unfold PX
    by_cases c1 : lo ≤ (n : Int) ∧ (n : Int) ≤ hi
    · rcases (show kk n = 0 ∨ kk n = 1 ∨ kk n = 2 from by omega) with c | c | c
      · rw [b2_t (by omega), b2_t (by omega), b2_f (by omega), b2_f (by omega)]; omega
      · rw [b2_t (by omega), b2_f (by omega), b2_t (by omega), b2_f (by omega)]; omega
      · rw [b2_t (by omega), b2_f (by omega), b2_f (by omega), b2_t (by omega)]; omega
    · rw [b2_f (by omega), b2_f (by omega), b2_f (by omega), b2_f (by omega)]; omega
theorem un_y {kk kl e1 e2 e3 : Int → Int} {lo hi x : Int} (h : rowR (PX kk lo hi 0) e1 e2 kl 60) (h3 : rowB (PX kk lo hi 1) e3 kl 60) : cntZ (PX kk lo hi 0) 60 - ovZ e2 (cntZ (PX kk lo hi 0) 60) x + buZ e3 (cntZ (PX kk lo hi 1) 60) x = unY kk kl lo hi x := by
  rw [ov_y h, bu_y h3]
  exact (un_n 60).symm
theorem co_y {kk : Int → Int} {lo hi : Int} (h : ∀ j, 0 ≤ kk j ∧ kk j ≤ 2) : cntZ (PX kk lo hi 0) 60 + cntZ (PX kk lo hi 1) 60 + cntZ (PX kk lo hi 2) 60 = coY lo hi := (co_n h 60).symm
