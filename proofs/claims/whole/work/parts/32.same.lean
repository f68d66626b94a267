/-! class = reference: levels -/
theorem rb_y {kk kl e1 e2 e3 : Int → Int} {lo hi : Int} (x : Int) (h : rowR (PX kk lo hi 0) e1 e2 kl 60) (h3 : rowB (PX kk lo hi 1) e3 kl 60) : rbZ e3 (cntZ (PX kk lo hi 0) 60) (cntZ (PX kk lo hi 1) 60) x = ovY kk kl lo hi x + unY kk kl lo hi x + 1 := by
  have a := ov_y (x := x) h
  have b := un_y (x := x) h h3
  unfold rbZ; omega
theorem dk_y {kk kl e1 e2 e3 : Int → Int} {lo hi : Int} (x : Int) (hk : ∀ j, 0 ≤ kk j ∧ kk j ≤ 2) (h : rowR (PX kk lo hi 0) e1 e2 kl 60) (h3 : rowB (PX kk lo hi 1) e3 kl 60) : dkZ e3 (cntZ (PX kk lo hi 1) 60) (cntZ (PX kk lo hi 2) 60) x = coY lo hi - ovY kk kl lo hi x - unY kk kl lo hi x := by
  have a := ov_y (x := x) h
  have b := un_y (x := x) h h3
  have c := co_y (lo := lo) (hi := hi) hk
  unfold dkZ; omega
theorem over_y {kk kl e1 e2 e3 : Int → Int} {lo hi : Int} (x w : Int) (hk : ∀ j, 0 ≤ kk j ∧ kk j ≤ 2) (h : rowR (PX kk lo hi 0) e1 e2 kl 60) (h3 : rowB (PX kk lo hi 1) e3 kl 60) :
    (if w = 0 then ovZ e2 (cntZ (PX kk lo hi 0) 60) x else if w = 1 then cntZ (PX kk lo hi 0) 60 - ovZ e2 (cntZ (PX kk lo hi 0) 60) x + buZ e3 (cntZ (PX kk lo hi 1) 60) x else dkZ e3 (cntZ (PX kk lo hi 1) 60) (cntZ (PX kk lo hi 2) 60) x) = ouY kk kl lo hi x w := by
  rw [un_y h h3, ov_y h, dk_y x hk h h3]; rfl
theorem rare_y {kk kl e1 e2 e3 : Int → Int} {lo hi : Int} (x k w : Int) (hk : ∀ j, 0 ≤ kk j ∧ kk j ≤ 2) (h : rowR (PX kk lo hi 0) e1 e2 kl 60) (h3 : rowB (PX kk lo hi 1) e3 kl 60) :
    (if k = 0 then frac (ovZ e2 (cntZ (PX kk lo hi 0) 60) x) (rbZ e3 (cntZ (PX kk lo hi 0) 60) (cntZ (PX kk lo hi 1) 60) x) w else if k = 1 then frac (ovZ e2 (cntZ (PX kk lo hi 0) 60) x) (cntZ (PX kk lo hi 0) 60 + cntZ (PX kk lo hi 1) 60 + cntZ (PX kk lo hi 2) 60 + 1) w else if k = 2 then frac (ovZ e2 (cntZ (PX kk lo hi 0) 60) x + dkZ e3 (cntZ (PX kk lo hi 1) 60) (cntZ (PX kk lo hi 2) 60) x) (cntZ (PX kk lo hi 0) 60 + cntZ (PX kk lo hi 1) 60 + cntZ (PX kk lo hi 2) 60 + 1) w else if ovZ e2 (cntZ (PX kk lo hi 0) 60) x = 0 then -9223372036854775805 else frac (rbZ e3 (cntZ (PX kk lo hi 0) 60) (cntZ (PX kk lo hi 1) 60) x) (ovZ e2 (cntZ (PX kk lo hi 0) 60) x) w) = raY kk kl lo hi x k w := by
  rw [ov_y h, rb_y x h h3, dk_y x hk h h3, co_y hk]
  unfold raY
  rw [show ovY kk kl lo hi x + (coY lo hi - ovY kk kl lo hi x - unY kk kl lo hi x) = ovY kk kl lo hi x + (coY lo hi + 1) - (ovY kk kl lo hi x + unY kk kl lo hi x + 1) from by omega]
theorem soRare_y {kk kl e1 e2 e3 f1 f2 : Int → Int} {lo hi : Int} (y : Int) (h : rowR (PX kk lo hi 0) e1 e2 kl 60) (h3 : rowB (PX kk lo hi 1) e3 kl 60) (h2 : rowR (PX kk lo hi 0) f1 f2 kl 60) :
    foldZ (soS e2 e3 (cntZ (PX kk lo hi 0) 60) (cntZ (PX kk lo hi 1) 60) y) (cntZ (PX kk lo hi 0) 60) (-1) = foldZ (srY kk kl lo hi y f2) (cntZ (PX kk lo hi 0) 60) (-1) := by
  have hc := cntZ_in (PX kk lo hi 0) (show (0 : Int) ≤ 60 from by omega)
  refine foldZ_congr (-1) _ (fun j g a b => ?_) _ hc.1 (Int.le_refl _)
  have u := (row_uni (by omega) h h2 j a b).2
  unfold soS srY
  rw [rb_y _ h h3, ov_y h, u]
  by_cases c : y * (ovY kk kl lo hi (f2 j) + unY kk kl lo hi (f2 j) + 1) ≤ 100 * ovY kk kl lo hi (f2 j)
  · rw [if_pos c]
    by_cases d : g < f2 j
    · rw [if_pos ⟨d, c⟩, if_pos d]
    · rw [if_neg (fun z => d z.1), if_neg d]
  · rw [if_neg c, if_neg (fun z => c z.2)]
theorem rank_y {kk kl e1 e2 f1 f2 : Int → Int} {lo hi : Int} (v : Int) (h : rowR (PX kk lo hi 0) e1 e2 kl 60) (h2 : rowR (PX kk lo hi 0) f1 f2 kl 60) : ovZ e2 (cntZ (PX kk lo hi 0) 60) (v + 1) = cntZ (fun j => v < f2 j) (cntZ (PX kk lo hi 0) 60) := by
  have hc := cntZ_in (PX kk lo hi 0) (show (0 : Int) ≤ 60 from by omega)
  unfold ovZ
  refine cnt_e hc.1 (fun j a b => ?_)
  have u := (row_uni (by omega) h h2 j a b).2
  rw [u]; omega
theorem ris_c {e2 f2 : Int → Int} {n : Int} (hn : 0 ≤ n) (h : ∀ j, 0 ≤ j → j < n → e2 j = f2 j) : risF e2 n = risF f2 n := by
  unfold risF
  refine sumZ_congr hn (fun b h1 h2 => sumZ_congr h1 (fun a h3 h4 => ?_))
  rw [h a h3 (by omega), h b h1 h2]
theorem dyke_y {kk kl e1 e2 e3 : Int → Int} {lo hi : Int} (se : Int → Int) (x : Int) (h : rowR (PX kk lo hi 0) e1 e2 kl 60) (h3 : rowB (PX kk lo hi 1) e3 kl 60) : dkA se e2 e3 (cntZ (PX kk lo hi 0) 60) (cntZ (PX kk lo hi 1) 60) x = csY kk kl lo hi se x := by
  unfold dkA csY dnY
  rw [rb_y x h h3, ov_y h]
theorem laR_l {a x : Int} (ha : 0 ≤ a ∧ a ≤ 16) : ∀ n : Nat, 1 ≤ n → stW ((n : Int) + 1) a x → stW n a x := by
  intro n hn h
  have hp : (0 : Int) ≤ (16 - a) ^ n := Int.pow_nonneg (by omega)
  have hc : (16 - a) ^ (n + 1) ≤ (16 - a) ^ n * 16 := by rw [Int.pow_succ]; exact Int.mul_le_mul_of_nonneg_left (by omega) hp
  have e1 : (16 : Int) ^ (n + 1) = 16 ^ n * 16 := Int.pow_succ _ _
  unfold stW at h ⊢
  rw [show ((n : Int) + 1).toNat = n + 1 from by omega, show ((n : Int) + 1 - 2).toNat = n - 1 from by omega] at h
  rw [Int.toNat_natCast, show ((n : Int) - 2).toNat = n - 2 from by omega]
  rcases h with h | h
  · omega
  · rcases (show n = 1 ∨ 2 ≤ n from by omega) with q | q
    · subst q
      rw [show (16 : Int) ^ (1 - 1) = 1 from rfl] at h
      left; omega
    · right
      obtain ⟨d, rfl⟩ : ∃ d, n = d + 2 := ⟨n - 2, by omega⟩
      rw [show d + 2 - 1 = d + 1 from by omega, Int.pow_succ 16 d, ← Int.mul_assoc] at h
      rw [show d + 2 - 2 = d from by omega]
      omega
