/-! class = reference: how likely, sisters -/
theorem bs_c {e2 f2 : Int → Int} {n : Int} (hn : 0 ≤ n) (h : ∀ j, 0 ≤ j → j < n → e2 j = f2 j) (m : Int) : bsZ e2 m n = bsZ f2 m n := by
  unfold bsZ
  exact sumZ_congr hn (fun j a b => by rw [h j a b])
theorem lk_y {P : Int → Prop} {e1 e2 f1 f2 kl : Int → Int} {es : Int} (h : rowR P e1 e2 kl 60) (h2 : rowR P f1 f2 kl 60) (he : es = sumZ e2 (cntZ P 60)) (hx : cntZ P 60 ≤ 14) {y : Int} (hy : 0 ≤ y ∧ y ≤ 60) : hlG e1 e2 (cntZ P 60) es y = lkV f1 f2 (cntZ P 60) y := by
  have hc := cntZ_in P (show (0 : Int) ≤ 60 from by omega)
  have hs : ∀ j, 0 ≤ j → j < cntZ P 60 → e2 j = f2 j := fun j a b => (row_uni (by omega) h h2 j a b).2
  have hes : es = sumZ f2 (cntZ P 60) := by rw [he]; exact sumZ_congr hc.1 hs
  have hm := ma_y h h2 he hy
  have hk := cntZ_in P hy.1
  have hk2 := cntZ_mono (P := P) hy.1 hy.2
  unfold hlG lkV
  rw [hm.1, ah_y h hy, ah_y h2 hy]
  obtain ⟨d, hd⟩ : ∃ d : Nat, cntZ P 60 = d := ⟨(cntZ P 60).toNat, by omega⟩
  rw [hd] at hc hs hes hx hk2 ⊢
  rw [fc_mk (by omega) d (15 - 0 : Int).toNat 0 (cntZ P y) 0 (by omega) (by omega) hk.1 (by show d + 1 ≤ 15; omega), lkT_c (by omega)]
  have e : mkZ (fun z => zabs (dfZ f2 d (cntZ P y)) ≤ zabs (cntZ P y * (es - z) - ((d : Int) - cntZ P y) * z)) (fun i => e2 (0 + i)) d (cntZ P y) 0 = lkH f2 d (cntZ P y) (zabs (dfZ f2 d (cntZ P y))) := by
    unfold mkZ lkH
    rw [Int.toNat_natCast]
    refine cnt_e (Int.pow_nonneg (by omega)) (fun m _ _ => ?_)
    have hb : bsZ (fun i => e2 (0 + i)) m d = bsZ f2 m d := bs_c (by omega) (fun j a b => by rw [show 0 + j = j from by omega]; exact hs j a b) m
    rw [hb, hes, Int.zero_add]
    dsimp only
    rw [Int.mul_comm (cntZ P y), Int.mul_comm ((d : Int) - cntZ P y)]
  rw [e]
theorem tie_c {si e1 e2 f1 f2 : Int → Int} {n : Int} (hn : 0 ≤ n) (h : ∀ j, 0 ≤ j → j < n → e1 j = f1 j ∧ e2 j = f2 j) : tieT si e1 e2 n = tieT si f1 f2 n := by
  unfold tieT
  refine sumZ_congr hn (fun b h1 h2 => sumZ_congr h1 (fun a h3 h4 => ?_))
  have u := h a h3 (by omega)
  have v := h b h1 h2
  unfold tieF
  rw [u.1, u.2, v.1, v.2]
theorem com_c {si e1 f1 : Int → Int} {n : Int} (hn : 0 ≤ n) (h : ∀ j, 0 ≤ j → j < n → e1 j = f1 j) : cntZ (fun j => si (e1 j) ≠ -1) n = cntZ (fun j => si (f1 j) ≠ -1) n :=
  cnt_e hn (fun j a b => by rw [h j a b])
theorem fs_c {si e1 e2 f1 f2 : Int → Int} {n : Int} (v : Int) (hn : 0 ≤ n) (h : ∀ j, 0 ≤ j → j < n → e1 j = f1 j ∧ e2 j = f2 j) : fsF si e1 e2 n v = fsF si f1 f2 n v := by
  have a : cmS si e1 n = cmS si f1 n := by unfold cmS; exact sumZ_congr hn (fun j a b => by rw [(h j a b).1])
  have b : cmO si e1 e2 n = cmO si f1 f2 n := by unfold cmO; exact sumZ_congr hn (fun j a b => by rw [(h j a b).1, (h j a b).2])
  unfold fsF; rw [a, b]
theorem fo_c {si e1 e2 f1 f2 : Int → Int} {n : Int} (v w : Int) (hn : 0 ≤ n) (h : ∀ j, 0 ≤ j → j < n → e1 j = f1 j ∧ e2 j = f2 j) : foF si e1 e2 n v w = foF si f1 f2 n v w := by
  unfold foF
  refine foldZ_congr (-3) _ (fun j g a b => ?_) _ hn (Int.le_refl _)
  unfold foS; rw [(h j a b).1, (h j a b).2]
theorem cross_le {a b c d v : Int} (hb : 0 < b) (hd : 0 < d) (hv : 0 ≤ v) (h : a * d ≤ c * b) : v * a / b ≤ v * c / d := by
  have h1 := Int.mul_ediv_add_emod (v * a) b
  have h2 := Int.emod_nonneg (v * a) (show b ≠ 0 from by omega)
  apply (Int.le_ediv_iff_mul_le hd).mpr
  have h3 : v * a / b * b ≤ v * a := Int.ediv_mul_le _ (by omega)
  have h4 : v * a / b * b * d ≤ v * a * d := Int.mul_le_mul_of_nonneg_right h3 (by omega)
  have h5 : v * (a * d) ≤ v * (c * b) := Int.mul_le_mul_of_nonneg_left h hv
  have h6 : v * a / b * d * b ≤ v * c * b := by
    rw [show v * a / b * d * b = v * a / b * b * d from by rw [Int.mul_assoc, Int.mul_comm d b, ← Int.mul_assoc]]
    rw [show v * a * d = v * (a * d) from Int.mul_assoc _ _ _] at h4
    rw [show v * c * b = v * (c * b) from Int.mul_assoc _ _ _]
    omega
  exact Int.le_of_mul_le_mul_right h6 hb
theorem fo_n {si ey el : Int → Int} {v w : Int} (hv : 0 ≤ v) (hel : ∀ j, 0 ≤ el j) : ∀ n : Nat, (fkF si ey el n w = -1 ∨ (0 ≤ fkF si ey el n w ∧ 0 < si (ey (fkF si ey el n w)))) ∧ foF si ey el n v (if w = 1 then 1 else 0) = flF si ey el n v w
  | 0 => ⟨Or.inl rfl, rfl⟩
  | n + 1 => by
    have ih := fo_n (si := si) (ey := ey) (el := el) (w := w) hv hel n
    have hq : ∀ j, 0 < si (ey j) → 0 ≤ v * el j / si (ey j) := fun j hj => Int.ediv_nonneg (Int.mul_nonneg hv (hel j)) (by omega)
    unfold flF at ih ⊢
    unfold fkF foF at ih ⊢
    rw [show ((n + 1 : Nat) : Int) = (n : Int) + 1 from rfl, foldZ_s _ (by omega), foldZ_s _ (by omega), ih.2]
    generalize foldZ (fkS si ey el w) n (-1) = k at ih ⊢
    have hc1 := fun hk : 0 < si (ey k) => fun hn : 0 < si (ey n) => cross_le (a := el n) (b := si (ey n)) (c := el k) (d := si (ey k)) (v := v) hn hk hv
    have hc2 := fun hk : 0 < si (ey k) => fun hn : 0 < si (ey n) => cross_le (a := el k) (b := si (ey k)) (c := el n) (d := si (ey n)) (v := v) hk hn hv
    have hqn := hq n
    have hqk := hq k
    generalize hgq : v * el n / si (ey n) = qn at hc1 hc2 hqn
    by_cases hsn : 0 < si (ey n)
    · by_cases hk1 : k = -1
      · rw [fkS_t ⟨hsn, Or.inl hk1⟩, if_pos hk1, if_neg (show ¬ (n : Int) = -1 from by omega)]
        refine ⟨Or.inr ⟨by omega, hsn⟩, ?_⟩
        unfold foS; rw [if_pos ⟨hsn, Or.inl rfl⟩]
      · have hsk : 0 < si (ey k) := by omega
        have hk0 := hqk hsk
        generalize hgk : v * el k / si (ey k) = qk at hc1 hc2 hk0
        rw [if_neg hk1]
        by_cases hw : w = 1
        · rw [if_pos hw]
          by_cases hl : el n * si (ey k) < el k * si (ey n)
          · have h1 := hc1 hsk hsn (by omega)
            rw [fkS_t ⟨hsn, Or.inr (Or.inl ⟨hw, hl⟩)⟩, if_neg (show ¬ (n : Int) = -1 from by omega), hgq]
            refine ⟨Or.inr ⟨by omega, hsn⟩, ?_⟩
            unfold foS; rw [hgq]; split <;> omega
          · have h1 := hc2 hsk hsn (by omega)
            rw [fkS_f (by omega), if_neg hk1, hgk]
            refine ⟨ih.1, ?_⟩
            unfold foS; rw [hgq]; split <;> omega
        · rw [if_neg hw]
          by_cases hl : el k * si (ey n) < el n * si (ey k)
          · have h1 := hc2 hsk hsn (by omega)
            rw [fkS_t ⟨hsn, Or.inr (Or.inr ⟨hw, hl⟩)⟩, if_neg (show ¬ (n : Int) = -1 from by omega), hgq]
            refine ⟨Or.inr ⟨by omega, hsn⟩, ?_⟩
            unfold foS; rw [hgq]; split <;> omega
          · have h1 := hc1 hsk hsn (by omega)
            rw [fkS_f (by omega), if_neg hk1, hgk]
            refine ⟨ih.1, ?_⟩
            unfold foS; rw [hgq]; split <;> omega
    · rw [fkS_f (fun z => hsn z.1)]
      refine ⟨ih.1, ?_⟩
      unfold foS; rw [if_neg (fun z => hsn z.1)]
