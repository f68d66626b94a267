theorem bn_n {kk kl : Int → Int} {lo hi : Int} {se : Int → Int} (hd : ∀ x, 0 < dnY kk kl lo hi x) : ∀ n : Nat,
    (0 ≤ bnF kk kl lo hi se n ∧ bnF kk kl lo hi se n ≤ n) ∧ (∀ x : Int, 0 ≤ x → x ≤ n → btL (csY kk kl lo hi se) (dnY kk kl lo hi) (bnF kk kl lo hi se n) x)
  | 0 => ⟨⟨Int.le_refl 0, Int.le_refl 0⟩, fun x a b => by
      have e : x = 0 := by omega
      subst e; show btL _ _ 0 0; rw [btL_e]; omega⟩
  | n + 1 => by
    have ih := bn_n (se := se) hd n
    unfold bnF at ih ⊢
    rw [show ((n + 1 : Nat) : Int) = (n : Int) + 1 from rfl, foldZ_s _ (by omega)]
    generalize foldZ (fun j b => bnS kk kl lo hi se (j + 1) b) n 0 = r at ih ⊢
    unfold bnS
    by_cases q : csY kk kl lo hi se ((n : Int) + 1) * dnY kk kl lo hi r < csY kk kl lo hi se r * dnY kk kl lo hi ((n : Int) + 1)
    · rw [if_pos q]
      refine ⟨by omega, fun x a b => ?_⟩
      rcases (show x = (n : Int) + 1 ∨ x ≤ n from by omega) with e | e
      · rw [e, btL_e]; omega
      · exact btL_tr (hd _) (hd _) (hd _) (by rw [btL_e]; omega) (ih.2 x a e)
    · rw [if_neg q]
      refine ⟨by omega, fun x a b => ?_⟩
      rcases (show x = (n : Int) + 1 ∨ x ≤ n from by omega) with e | e
      · rw [e, btL_e]; omega
      · exact ih.2 x a e
