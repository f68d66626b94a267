theorem bn_n {kk kl : Int → Int} {lo hi : Int} {se : Int → Int} (hd : ∀ x, 0 < dnY kk kl lo hi x) : ∀ n : Nat,
    (0 ≤ bnF kk kl lo hi se n ∧ bnF kk kl lo hi se n ≤ n) ∧ (∀ x : Int, 0 ≤ x → x ≤ n → btL (csY kk kl lo hi se) (dnY kk kl lo hi) (bnF kk kl lo hi se n) x)
  | 0 => ⟨⟨Int.le_refl 0, Int.le_refl 0⟩, fun x a b => by
      have e : x = 0 := by omega
      subst e; show btL _ _ 0 0; rw [btL_e]; omega⟩
  | n + 1 => by
    have ih := bn_n (se := se) hd n
    unfold bnF at ih ⊢
    rw [show ((n + 1 : Nat) : Int) = (n : Int) + 1 from rfl, foldZ_s _ (by omega)]
    generalize foldZ (fun j b => bnS kk kl lo hi se (j + 1) b) n 0 = r at ih ⊢
    unfold bnS
    by_cases q : csY kk kl lo hi se ((n : Int) + 1) * dnY kk kl lo hi r < csY kk kl lo hi se r * dnY kk kl lo hi ((n : Int) + 1)
    · rw [if_pos q]
      refine ⟨by omega, fun x a b => ?_⟩
      rcases (show x = (n : Int) + 1 ∨ x ≤ n from by omega) with e | e
      · rw [e, btL_e]; omega
      · exact btL_tr (hd _) (hd _) (hd _) (by rw [btL_e]; omega) (ih.2 x a e)
    · rw [if_neg q]
      refine ⟨by omega, fun x a b => ?_⟩
      rcases (show x = (n : Int) + 1 ∨ x ≤ n from by omega) with e | e
      · rw [e, btL_e]; omega
      · exact ih.2 x a e
theorem best_y {kk kl e1 e2 e3 : Int → Int} {lo hi : Int} (se : Int → Int) (hs : 0 ≤ se 3) (hl2 : ∀ j, 0 ≤ e2 j ∧ e2 j ≤ 999) (hl3 : ∀ j, 0 ≤ e3 j ∧ e3 j ≤ 999) (h : rowR (PX kk lo hi 0) e1 e2 kl 60) (h3 : rowB (PX kk lo hi 1) e3 kl 60) :
    foldZ (bestS se e2 e3 (cntZ (PX kk lo hi 0) 60) (cntZ (PX kk lo hi 1) 60)) (cntZ (PX kk lo hi 0) 60 + cntZ (PX kk lo hi 1) 60) 0 = bnF kk kl lo hi se 999 := by
  have hc0 := cntZ_in (PX kk lo hi 0) (show (0 : Int) ≤ 60 from by omega)
  have hc1 := cntZ_in (PX kk lo hi 1) (show (0 : Int) ≤ 60 from by omega)
  have hd : ∀ x, 0 < dnY kk kl lo hi x := fun x => by
    have a := ovY_in kk kl lo hi x
    have b := unY_in kk kl lo hi x
    unfold dnY; omega
  have hB : ∀ x y, btP se e2 e3 (cntZ (PX kk lo hi 0) 60) (cntZ (PX kk lo hi 1) 60) x y ↔ btG (csY kk kl lo hi se) (dnY kk kl lo hi) x y := fun x y => by
    unfold btP btG
    rw [dyke_y se x h h3, dyke_y se y h h3, rb_y x h h3, rb_y y h h3]; exact Iff.rfl
  have hn := be_n (g := csY kk kl lo hi se) (d := dnY kk kl lo hi) (st := stepf (cntZ (PX kk lo hi 0) 60) (cntZ (PX kk lo hi 1) 60) e2 e3) (F := bestS se e2 e3 (cntZ (PX kk lo hi 0) 60) (cntZ (PX kk lo hi 1) 60)) hd (fun i => stepf_in hl2 hl3) (fun i b q1 q2 => bestS_t q1 ((hB _ _).mpr q2)) (fun i b q => bestS_f (q.elim Or.inl (fun z => Or.inr (fun y => z ((hB _ _).mp y))))) (cntZ (PX kk lo hi 0) 60 + cntZ (PX kk lo hi 1) 60).toNat
  rw [show (((cntZ (PX kk lo hi 0) 60 + cntZ (PX kk lo hi 1) 60).toNat : Nat) : Int) = cntZ (PX kk lo hi 0) 60 + cntZ (PX kk lo hi 1) 60 from by omega] at hn
  have hf := bn_n (se := se) hd 999
  rw [show ((999 : Nat) : Int) = 999 from rfl] at hf
  have hX := fun x => stp_x (x := x) h h3
  generalize foldZ (bestS se e2 e3 (cntZ (PX kk lo hi 0) 60) (cntZ (PX kk lo hi 1) 60)) (cntZ (PX kk lo hi 0) 60 + cntZ (PX kk lo hi 1) 60) 0 = r at hn ⊢
  generalize bnF kk kl lo hi se 999 = t at hf ⊢
  refine bt_to (g := csY kk kl lo hi se) (d := dnY kk kl lo hi) (hf.2 r hn.1.1 hn.1.2) ?_
  rcases (show t = 0 ∨ 0 < t from by omega) with c | c
  · rw [c]; exact hn.2.1
  · by_cases z : ∃ i, 0 ≤ i ∧ i < cntZ (PX kk lo hi 0) 60 + cntZ (PX kk lo hi 1) 60 ∧ stepf (cntZ (PX kk lo hi 0) 60) (cntZ (PX kk lo hi 1) 60) e2 e3 i = t
    · obtain ⟨i, p, q, w⟩ := z
      have := hn.2.2 i p q (by omega)
      rw [w] at this; exact this
    · exfalso
      have u := hX t (fun i p q w => z ⟨i, p, q, w⟩)
      have v := hf.2 (t - 1) (by omega) (by omega)
      rw [btL_e] at v
      have ed : dnY kk kl lo hi t = dnY kk kl lo hi (t - 1) := by unfold dnY; rw [u.1, u.2]
      have hp := hd (t - 1)
      have eg : csY kk kl lo hi se t = csY kk kl lo hi se (t - 1) + se 3 * dnY kk kl lo hi (t - 1) := by
        unfold csY
        rw [ed, u.1, Int.mul_sub, Int.sub_mul, Int.mul_one]; omega
      have hm := Int.mul_nonneg hs (show 0 ≤ dnY kk kl lo hi (t - 1) from by omega)
      have hm2 := Int.mul_nonneg hm (show 0 ≤ dnY kk kl lo hi (t - 1) from by omega)
      rw [ed, eg, Int.add_mul] at v
      omega
