/-! class = reference: sure -/
theorem su_n {el bl : Int → Int} {ex be op p : Int} (h1 : ∀ j, 0 ≤ el j ∧ el j ≤ 999) (h2 : ∀ j, 0 ≤ bl j ∧ bl j ≤ 999) : ∀ n : Nat,
    (foldZ (suS el bl ex be op p) n (suB el bl ex be op p) = -1 ∧ ¬ suP el bl ex be op 0 p ∧ ∀ i : Int, 0 ≤ i → i < n → stepf ex be el bl i ≤ 999 → ¬ suP el bl ex be op (stepf ex be el bl i) p) ∨
    ((0 ≤ foldZ (suS el bl ex be op p) n (suB el bl ex be op p) ∧ foldZ (suS el bl ex be op p) n (suB el bl ex be op p) ≤ 999) ∧ suP el bl ex be op (foldZ (suS el bl ex be op p) n (suB el bl ex be op p)) p ∧ (suP el bl ex be op 0 p → foldZ (suS el bl ex be op p) n (suB el bl ex be op p) = 0) ∧ ∀ i : Int, 0 ≤ i → i < n → stepf ex be el bl i ≤ 999 → suP el bl ex be op (stepf ex be el bl i) p → foldZ (suS el bl ex be op p) n (suB el bl ex be op p) ≤ stepf ex be el bl i)
  | 0 => by
    show (suB el bl ex be op p = -1 ∧ _) ∨ ((0 ≤ suB el bl ex be op p ∧ suB el bl ex be op p ≤ 999) ∧ suP el bl ex be op (suB el bl ex be op p) p ∧ (_ → suB el bl ex be op p = 0) ∧ _)
    by_cases q : suP el bl ex be op 0 p
    · rw [suB_t q]; exact Or.inr ⟨by omega, q, fun _ => rfl, fun i a b => by exfalso; omega⟩
    · rw [suB_f q]; exact Or.inl ⟨rfl, q, fun i a b => by exfalso; omega⟩
  | n + 1 => by
    have ih := su_n (ex := ex) (be := be) (op := op) (p := p) h1 h2 n
    rw [show ((n + 1 : Nat) : Int) = (n : Int) + 1 from rfl, foldZ_s _ (by omega)]
    generalize foldZ (suS el bl ex be op p) n (suB el bl ex be op p) = r at ih ⊢
    have hs := stepf_in (ex := ex) (be := be) (i := n) h1 h2
    by_cases q : stepf ex be el bl n ≤ 999 ∧ (r = -1 ∨ stepf ex be el bl n < r) ∧ suP el bl ex be op (stepf ex be el bl n) p
    · rw [suS_t q.1 q.2.1 q.2.2]
      refine Or.inr ⟨by omega, q.2.2, fun z => ?_, fun i a b c d => ?_⟩
      · rcases ih with ih | ih
        · exact absurd z ih.2.1
        · have := ih.2.2.1 z; omega
      · rcases (show i = n ∨ i < n from by omega) with e | e
        · rw [e]; exact Int.le_refl _
        · rcases ih with ih | ih
          · exact absurd d (ih.2.2 i a e c)
          · have := ih.2.2.2 i a e c d; omega
    · have e9 : suS el bl ex be op p n r = r := if_neg q
      rw [e9]
      rcases ih with ih | ih
      · refine Or.inl ⟨ih.1, ih.2.1, fun i a b c d => ?_⟩
        rcases (show i = n ∨ i < n from by omega) with e | e
        · rw [e] at c d; exact q ⟨c, Or.inl ih.1, d⟩
        · exact ih.2.2 i a e c d
      · refine Or.inr ⟨ih.1, ih.2.1, ih.2.2.1, fun i a b c d => ?_⟩
        rcases (show i = n ∨ i < n from by omega) with e | e
        · rw [e] at c d ⊢
          rcases Int.lt_or_le (stepf ex be el bl n) r with g | g
          · exact absurd ⟨c, Or.inr g, d⟩ q
          · exact g
        · exact ih.2.2.2 i a e c d
theorem suP_y {kk kl e1 e2 e3 : Int → Int} {lo hi : Int} (x p : Int) (hk : ∀ j, 0 ≤ kk j ∧ kk j ≤ 2) (h : rowR (PX kk lo hi 0) e1 e2 kl 60) (h3 : rowB (PX kk lo hi 1) e3 kl 60) : suP e2 e3 (cntZ (PX kk lo hi 0) 60) (cntZ (PX kk lo hi 1) 60) (cntZ (PX kk lo hi 2) 60) x p ↔ 100 * (coY lo hi - unY kk kl lo hi x) ≤ p * (coY lo hi + 1) := by
  unfold suP
  rw [ov_y h, dk_y x hk h h3, co_y hk, show ovY kk kl lo hi x + (coY lo hi - ovY kk kl lo hi x - unY kk kl lo hi x) = coY lo hi - unY kk kl lo hi x from by omega]
theorem sure_y {kk kl e1 e2 e3 : Int → Int} {lo hi : Int} (p : Int) (hk : ∀ j, 0 ≤ kk j ∧ kk j ≤ 2) (hl2 : ∀ j, 0 ≤ e2 j ∧ e2 j ≤ 999) (hl3 : ∀ j, 0 ≤ e3 j ∧ e3 j ≤ 999) (h : rowR (PX kk lo hi 0) e1 e2 kl 60) (h3 : rowB (PX kk lo hi 1) e3 kl 60) :
    foldZ (suS e2 e3 (cntZ (PX kk lo hi 0) 60) (cntZ (PX kk lo hi 1) 60) (cntZ (PX kk lo hi 2) 60) p) (cntZ (PX kk lo hi 0) 60 + cntZ (PX kk lo hi 1) 60) (suB e2 e3 (cntZ (PX kk lo hi 0) 60) (cntZ (PX kk lo hi 1) 60) (cntZ (PX kk lo hi 2) 60) p) = suY kk kl lo hi p (1000 - 0 : Int).toNat 0 := by
  have hc0 := cntZ_in (PX kk lo hi 0) (show (0 : Int) ≤ 60 from by omega)
  have hc1 := cntZ_in (PX kk lo hi 1) (show (0 : Int) ≤ 60 from by omega)
  have hC := fun x => suP_y x p hk h h3
  have hX := fun x => stp_x (x := x) h h3
  have hn := su_n (ex := cntZ (PX kk lo hi 0) 60) (be := cntZ (PX kk lo hi 1) 60) (op := cntZ (PX kk lo hi 2) 60) (p := p) hl2 hl3 (cntZ (PX kk lo hi 0) 60 + cntZ (PX kk lo hi 1) 60).toNat
  rw [show (((cntZ (PX kk lo hi 0) 60 + cntZ (PX kk lo hi 1) 60).toNat : Nat) : Int) = cntZ (PX kk lo hi 0) 60 + cntZ (PX kk lo hi 1) 60 from by omega] at hn
  rw [suY_fi]
  have hf := fiZ_sp (fun x => 100 * (coY lo hi - unY kk kl lo hi x) ≤ p * (coY lo hi + 1)) (1000 - 0 : Int).toNat 0 (by omega)
  rw [show (0 : Int) + ((1000 - 0 : Int).toNat : Int) = 1000 from rfl] at hf
  generalize fiZ (fun x => 100 * (coY lo hi - unY kk kl lo hi x) ≤ p * (coY lo hi + 1)) (1000 - 0 : Int).toNat 0 = t at hf ⊢
  generalize foldZ (suS e2 e3 (cntZ (PX kk lo hi 0) 60) (cntZ (PX kk lo hi 1) 60) (cntZ (PX kk lo hi 2) 60) p) (cntZ (PX kk lo hi 0) 60 + cntZ (PX kk lo hi 1) 60) (suB e2 e3 (cntZ (PX kk lo hi 0) 60) (cntZ (PX kk lo hi 1) 60) (cntZ (PX kk lo hi 2) 60) p) = r at hn ⊢
  -- the first level is a candidate
  have cand : 0 ≤ t → t < 1000 → 100 * (coY lo hi - unY kk kl lo hi t) ≤ p * (coY lo hi + 1) → (∀ j, 0 ≤ j → j < t → ¬ 100 * (coY lo hi - unY kk kl lo hi j) ≤ p * (coY lo hi + 1)) → t = 0 ∨ ∃ i, 0 ≤ i ∧ i < cntZ (PX kk lo hi 0) 60 + cntZ (PX kk lo hi 1) 60 ∧ stepf (cntZ (PX kk lo hi 0) 60) (cntZ (PX kk lo hi 1) 60) e2 e3 i = t := by
    intro a b c d
    rcases (show t = 0 ∨ 0 < t from by omega) with g | g
    · exact Or.inl g
    · refine Or.inr (Classical.byContradiction fun z => ?_)
      have u := (hX t (fun i p q r => z ⟨i, p, q, r⟩)).2
      have v := d (t - 1) (by omega) (by omega)
      rw [← u] at v; exact v c
  rcases hf with hf | hf
  · rcases hn with hn | hn
    · omega
    · exact absurd ((hC r).mp hn.2.1) (hf.2 r (by omega) (by omega))
  · rcases hn with hn | hn
    · rcases cand (by omega) (by omega) hf.2.1 hf.2.2 with c | ⟨i, a, b, c⟩
      · have := hf.2.1; rw [c] at this; exact absurd ((hC 0).mpr this) hn.2.1
      · exact absurd ((hC t).mpr hf.2.1) (by rw [← c]; exact hn.2.2 i a b (by omega))
    · have g1 : t ≤ r := by
        rcases Int.lt_or_le r t with g | g
        · exact absurd ((hC r).mp hn.2.1) (hf.2.2 r (by omega) g)
        · exact g
      rcases cand (by omega) (by omega) hf.2.1 hf.2.2 with c | ⟨i, a, b, c⟩
      · have h9 := hf.2.1; rw [c] at h9
        have := hn.2.2.1 ((hC 0).mpr h9); omega
      · have := hn.2.2.2 i a b (by omega) (by rw [c]; exact (hC t).mpr hf.2.1); omega
