/-! the text of flows -/
theorem isFg_n {fb : Int → Int} {fs q : Int} (h : ¬ isFg fb fs q) : ¬ (q < fs ∧ 48 ≤ fb q ∧ fb q ≤ 57) := h
noncomputable def nmS (fb : Int → Int) (fs : Int) (st : Int × Int) : Int × Int := @ite _ (isFg fb fs st.2) (Classical.propDecidable _) (zmax st.1 0 * 10 + fb st.2 - 48, st.2 + 1) st
noncomputable def nmF (fb : Int → Int) (fs : Int) (k q : Int) : Int × Int := foldZ (fun _ st => nmS fb fs st) k (-1, q)
theorem nmF_t {fb : Int → Int} {fs q0 k a q : Int} (hk : 0 ≤ k) (h : (a, q) = nmF fb fs k q0) (g : isFg fb fs q) : (zmax a 0 * 10 + fb q - 48, q + 1) = nmF fb fs (k + 1) q0 := by
  unfold nmF at h ⊢
  rw [foldZ_s _ hk, ← h]; unfold nmS; rw [if_pos g]
theorem nmS_f {fb : Int → Int} {fs a q : Int} (g : ¬ isFg fb fs q) : nmS fb fs (a, q) = (a, q) := if_neg g
theorem nmF_f {fb : Int → Int} {fs q0 a q : Int} {k : Int} (hk : 0 ≤ k) (h : (a, q) = nmF fb fs k q0) (g : ¬ isFg fb fs q) (d : Nat) : (a, q) = nmF fb fs (k + d) q0 := by
  induction d with
  | zero => rw [show k + ((0 : Nat) : Int) = k from by omega]; exact h
  | succ d ih =>
    rw [show k + ((d + 1 : Nat) : Int) = (k + d) + 1 from by omega]
    unfold nmF at ih ⊢
    rw [foldZ_s _ (by omega), ← ih, nmS_f g]
theorem nmF_e {fb : Int → Int} {fs q0 a q k : Int} (hk : 0 ≤ k ∧ k ≤ 3) (h : (a, q) = nmF fb fs k q0) (g : k = 3 ∨ ¬ isFg fb fs q) : (a, q) = nmF fb fs 3 q0 := by
  rcases g with g | g
  · rw [g] at h; exact h
  · have := nmF_f hk.1 h g (3 - k).toNat
    rw [show k + ((3 - k).toNat : Int) = 3 from by omega] at this
    exact this
theorem zmax_0 (a : Int) : 0 ≤ zmax a 0 ∧ (0 ≤ a → zmax a 0 = a) ∧ (a ≤ 0 → zmax a 0 = 0) := by unfold zmax; split <;> omega
noncomputable def ppL (fb : Int → Int) (fs q : Int) : Int := (nmF fb fs 3 q).1
noncomputable def ppM (fb : Int → Int) (fs q : Int) : Int := (nmF fb fs 3 q).2
noncomputable def ppV (fb : Int → Int) (fs q n : Int) (fl fa : Int → Int) : Int :=
  @ite _ (ppL fb fs q = -1 ∨ (0 < n ∧ ppL fb fs q ≤ fl (n - 1))) (Classical.propDecidable _) q
    (@ite _ (ppM fb fs q < fs ∧ fb (ppM fb fs q) = 58) (Classical.propDecidable _)
      (@ite _ (ppL fb fs (ppM fb fs q + 1) = -1 ∨ (0 < n ∧ ppL fb fs (ppM fb fs q + 1) < fa (n - 1))) (Classical.propDecidable _) (ppM fb fs q + 1) (-1))
      (ppM fb fs q))
noncomputable def ppQ (fb : Int → Int) (fs q : Int) : Int := ppM fb fs (ppM fb fs q + 1)
noncomputable def ppA (fb : Int → Int) (fs q : Int) : Int := ppL fb fs (ppM fb fs q + 1)
theorem ppV_1 {fb : Int → Int} {fs q n : Int} {fl fa : Int → Int} (h : ppL fb fs q = -1 ∨ (0 < n ∧ ppL fb fs q ≤ fl (n - 1))) : ppV fb fs q n fl fa = q := if_pos h
theorem ppV_2 {fb : Int → Int} {fs q n : Int} {fl fa : Int → Int} (h : ¬ (ppL fb fs q = -1 ∨ (0 < n ∧ ppL fb fs q ≤ fl (n - 1)))) (h2 : ¬ (ppM fb fs q < fs ∧ fb (ppM fb fs q) = 58)) : ppV fb fs q n fl fa = ppM fb fs q := by unfold ppV; rw [if_neg h, if_neg h2]
theorem ppV_3 {fb : Int → Int} {fs q n : Int} {fl fa : Int → Int} (h : ¬ (ppL fb fs q = -1 ∨ (0 < n ∧ ppL fb fs q ≤ fl (n - 1)))) (h2 : ppM fb fs q < fs ∧ fb (ppM fb fs q) = 58) (h3 : ppA fb fs q = -1 ∨ (0 < n ∧ ppA fb fs q < fa (n - 1))) : ppV fb fs q n fl fa = ppM fb fs q + 1 := by unfold ppV; rw [if_neg h, if_pos h2]; exact if_pos h3
theorem ppV_4 {fb : Int → Int} {fs q n : Int} {fl fa : Int → Int} (h : ¬ (ppL fb fs q = -1 ∨ (0 < n ∧ ppL fb fs q ≤ fl (n - 1)))) (h2 : ppM fb fs q < fs ∧ fb (ppM fb fs q) = 58) (h3 : ¬ (ppA fb fs q = -1 ∨ (0 < n ∧ ppA fb fs q < fa (n - 1)))) : ppV fb fs q n fl fa = -1 := by unfold ppV; rw [if_neg h, if_pos h2]; exact if_neg h3
/-- what a number's reading keeps -/
theorem nmF_in {fb : Int → Int} {fs q0 : Int} (h0 : 0 ≤ q0 ∧ q0 ≤ fs) : (-1 ≤ ppL fb fs q0 ∧ ppL fb fs q0 ≤ 999) ∧ (q0 ≤ ppM fb fs q0 ∧ ppM fb fs q0 ≤ fs) := by
  have key := foldZ_ind (fun (_ : Int) st => nmS fb fs st) ((-1, q0) : Int × Int) (fun k st => (-1 ≤ st.1 ∧ st.1 < (10 : Int) ^ k.toNat) ∧ q0 ≤ st.2 ∧ st.2 ≤ fs) ⟨⟨by show (-1 : Int) ≤ -1; omega, by show (-1 : Int) < 10 ^ (0 : Int).toNat; decide⟩, by dsimp only; omega⟩ 3 (fun k st hk _ h => by
    obtain ⟨a, q⟩ := st
    dsimp only at h
    have hp : (10 : Int) ^ (k + 1).toNat = 10 ^ k.toNat * 10 := by rw [pow_s _ hk]
    have hp1 : (0 : Int) < 10 ^ k.toNat := Int.pow_pos (by omega)
    by_cases g : isFg fb fs q
    · unfold nmS; rw [if_pos g]; dsimp only
      have hz := zmax_0 a
      unfold isFg at g
      rcases Int.le_total 0 a with h5 | h5 <;> simp only [hz, h5] <;> omega
    · rw [nmS_f g]; dsimp only; omega) 3 (by omega) (by omega)
  unfold ppL ppM nmF
  have e : (10 : Int) ^ (3 : Int).toNat = 1000 := by decide
  rw [e] at key
  omega
theorem ppV_in {fb : Int → Int} {fs q : Int} (n : Int) (fl fa : Int → Int) (hq : 0 ≤ q ∧ q ≤ fs) : -1 ≤ ppV fb fs q n fl fa ∧ ppV fb fs q n fl fa ≤ fs := by
  have h5 := nmF_in (fb := fb) hq
  by_cases d1 : ppL fb fs q = -1 ∨ (0 < n ∧ ppL fb fs q ≤ fl (n - 1))
  · rw [ppV_1 d1]; omega
  · by_cases d2 : ppM fb fs q < fs ∧ fb (ppM fb fs q) = 58
    · by_cases d3 : ppA fb fs q = -1 ∨ (0 < n ∧ ppA fb fs q < fa (n - 1))
      · rw [ppV_3 d1 d2 d3]; omega
      · rw [ppV_4 d1 d2 d3]; omega
    · rw [ppV_2 d1 d2]; omega
/-- the whole text: fault, pairs, levels, flows -/
noncomputable def psF (fb : Int → Int) (fs : Int) : Nat → Int → Int → (Int → Int) → (Int → Int) → Int × Int × (Int → Int) × (Int → Int)
  | 0, n, q, fl, fa => (if q = fs then -1 else q, n, fl, fa)
  | k + 1, n, q, fl, fa => if 2 ≤ n ∧ q = fs then (-1, n, fl, fa)
    else if 0 < n ∧ ¬ (q < fs ∧ fb q = 59) then (q, n, fl, fa)
    else if ppV fb fs (if 0 < n then q + 1 else q) n fl fa ≠ -1 then (ppV fb fs (if 0 < n then q + 1 else q) n fl fa, n, fl, fa)
    else psF fb fs k (n + 1) (ppQ fb fs (if 0 < n then q + 1 else q)) (uz fl n (ppL fb fs (if 0 < n then q + 1 else q))) (uz fa n (ppA fb fs (if 0 < n then q + 1 else q)))
theorem psF_0 {fb : Int → Int} {fs n q : Int} {fl fa : Int → Int} (k : Int) (hk : k = 6) : psF fb fs (6 - k).toNat n q fl fa = (if q = fs then -1 else q, n, fl, fa) := by subst hk; rfl
theorem psF_a {fb : Int → Int} {fs n q : Int} {fl fa : Int → Int} (hn : 0 ≤ n ∧ n < 6) (h : 2 ≤ n ∧ q = fs) : psF fb fs (6 - n).toNat n q fl fa = (-1, n, fl, fa) := by
  rw [show (6 - n).toNat = (5 - n).toNat + 1 from by omega]; show ite _ _ _ = _; rw [if_pos h]
theorem psF_b {fb : Int → Int} {fs n q : Int} {fl fa : Int → Int} (hn : 0 ≤ n ∧ n < 6) (h : ¬ (2 ≤ n ∧ q = fs)) (h2 : 0 < n ∧ ¬ (q < fs ∧ fb q = 59)) : psF fb fs (6 - n).toNat n q fl fa = (q, n, fl, fa) := by
  rw [show (6 - n).toNat = (5 - n).toNat + 1 from by omega]; show ite _ _ _ = _; rw [if_neg h, if_pos h2]
theorem psF_c {fb : Int → Int} {fs n q q0 v : Int} {fl fa : Int → Int} (hn : 0 ≤ n ∧ n < 6) (h : ¬ (2 ≤ n ∧ q = fs)) (h2 : ¬ (0 < n ∧ ¬ (q < fs ∧ fb q = 59))) (hq : q0 = if 0 < n then q + 1 else q) (hv : v = ppV fb fs q0 n fl fa) (h3 : v ≠ -1) : psF fb fs (6 - n).toNat n q fl fa = (v, n, fl, fa) := by
  rw [show (6 - n).toNat = (5 - n).toNat + 1 from by omega]; show ite _ _ _ = _; rw [if_neg h, if_neg h2, ← hq, ← hv, if_pos h3]
theorem psF_d {fb : Int → Int} {fs n q q0 : Int} {fl fa : Int → Int} (hn : 0 ≤ n ∧ n < 6) (h : ¬ (2 ≤ n ∧ q = fs)) (h2 : ¬ (0 < n ∧ ¬ (q < fs ∧ fb q = 59))) (hq : q0 = if 0 < n then q + 1 else q) (hv : ppV fb fs q0 n fl fa = -1) : psF fb fs (6 - n).toNat n q fl fa = psF fb fs (6 - (n + 1)).toNat (n + 1) (ppQ fb fs q0) (uz fl n (ppL fb fs q0)) (uz fa n (ppA fb fs q0)) := by
  rw [show (6 - n).toNat = (5 - n).toNat + 1 from by omega, show (6 - (n + 1)).toNat = (5 - n).toNat from by omega]; show ite _ _ _ = _; rw [if_neg h, if_neg h2, ← hq, if_neg (by rw [hv]; simp)]
/-- what a text without a fault has -/
def flI (n : Int) (fl fa : Int → Int) : Prop := ∀ j, 0 ≤ j → j < n → (0 ≤ fl j ∧ fl j ≤ 999) ∧ (0 ≤ fa j ∧ fa j ≤ 999) ∧ (0 < j → fl (j - 1) < fl j ∧ fa (j - 1) ≤ fa j)
theorem flI_0 (fl fa : Int → Int) : flI 0 fl fa := fun j h1 h2 => by omega
theorem flI_s {fb : Int → Int} {fs q n : Int} {fl fa : Int → Int} (hn : 0 ≤ n) (hq : 0 ≤ q ∧ q ≤ fs) (h : flI n fl fa) (hv : ppV fb fs q n fl fa = -1) : flI (n + 1) (uz fl n (ppL fb fs q)) (uz fa n (ppA fb fs q)) ∧ (q ≤ ppQ fb fs q ∧ ppQ fb fs q ≤ fs) := by
  have h1 := nmF_in (fb := fb) hq
  by_cases c1 : ppL fb fs q = -1 ∨ (0 < n ∧ ppL fb fs q ≤ fl (n - 1))
  · rw [ppV_1 c1] at hv; omega
  · by_cases c2 : ppM fb fs q < fs ∧ fb (ppM fb fs q) = 58
    · have h2 := nmF_in (fb := fb) (fs := fs) (q0 := ppM fb fs q + 1) (by omega)
      by_cases c3 : ppA fb fs q = -1 ∨ (0 < n ∧ ppA fb fs q < fa (n - 1))
      · rw [ppV_3 c1 c2 c3] at hv; omega
      · refine ⟨fun j h5 h6 => ?_, ?_⟩
        · by_cases hj : j = n
          · subst hj
            rw [uz_s, uz_s]
            have h7 : (-1 ≤ ppA fb fs q ∧ ppA fb fs q ≤ 999) := h2.1
            refine ⟨by omega, by omega, fun h8 => ?_⟩
            rw [uz_n _ _ (by omega), uz_n _ _ (by omega)]; omega
          · have h7 := h j h5 (by omega)
            rw [uz_n _ _ hj, uz_n _ _ hj]
            refine ⟨h7.1, h7.2.1, fun h8 => ?_⟩
            rw [uz_n _ _ (by omega), uz_n _ _ (by omega)]; exact h7.2.2 h8
        · unfold ppQ; omega
    · rw [ppV_2 c1 c2] at hv; omega
theorem psF_in {fb : Int → Int} {fs : Int} : ∀ (k : Nat) (n q : Int) (fl fa : Int → Int), 0 ≤ n → n + k = 6 → (0 ≤ q ∧ q ≤ fs) → flI n fl fa → ((psF fb fs k n q fl fa).1 = -1 → 2 ≤ (psF fb fs k n q fl fa).2.1) ∧ (0 ≤ (psF fb fs k n q fl fa).2.1 ∧ (psF fb fs k n q fl fa).2.1 ≤ 6) ∧ (-1 ≤ (psF fb fs k n q fl fa).1 ∧ (psF fb fs k n q fl fa).1 ≤ fs) ∧ flI (psF fb fs k n q fl fa).2.1 (psF fb fs k n q fl fa).2.2.1 (psF fb fs k n q fl fa).2.2.2
  | 0, n, q, fl, fa, h1, h2, h3, h4 => by
    show ((if q = fs then (-1 : Int) else q) = -1 → 2 ≤ n) ∧ (0 ≤ n ∧ n ≤ 6) ∧ (-1 ≤ (if q = fs then (-1 : Int) else q) ∧ (if q = fs then (-1 : Int) else q) ≤ fs) ∧ flI n fl fa
    refine ⟨by split <;> omega, by omega, by split <;> omega, h4⟩
  | k + 1, n, q, fl, fa, h1, h2, h3, h4 => by
    have hk : k + 1 = (6 - n).toNat := by omega
    by_cases c1 : 2 ≤ n ∧ q = fs
    · rw [hk, psF_a (by omega) c1]; exact ⟨fun _ => c1.1, by dsimp only; omega, by dsimp only; omega, h4⟩
    · by_cases c2 : 0 < n ∧ ¬ (q < fs ∧ fb q = 59)
      · rw [hk, psF_b (by omega) c1 c2]; exact ⟨fun z => by dsimp only at z; omega, by dsimp only; omega, by dsimp only; omega, h4⟩
      · obtain ⟨q0, hq0⟩ : ∃ q0, q0 = if 0 < n then q + 1 else q := ⟨_, rfl⟩
        have hq1 : 0 ≤ q0 ∧ q0 ≤ fs := by
          rw [hq0]; split <;> omega
        by_cases c3 : ppV fb fs q0 n fl fa = -1
        · rw [hk, psF_d (by omega) c1 c2 hq0 c3]
          have h5 := flI_s h1 hq1 h4 c3
          have := psF_in (fb := fb) (fs := fs) k (n + 1) (ppQ fb fs q0) (uz fl n (ppL fb fs q0)) (uz fa n (ppA fb fs q0)) (by omega) (by omega) (by omega) h5.1
          rw [show (6 - (n + 1)).toNat = k from by omega]
          exact this
        · have h5 := nmF_in (fb := fb) hq1
          have h6 : -1 ≤ ppV fb fs q0 n fl fa ∧ ppV fb fs q0 n fl fa ≤ fs := by
            by_cases d1 : ppL fb fs q0 = -1 ∨ (0 < n ∧ ppL fb fs q0 ≤ fl (n - 1))
            · rw [ppV_1 d1]; omega
            · by_cases d2 : ppM fb fs q0 < fs ∧ fb (ppM fb fs q0) = 58
              · by_cases d3 : ppA fb fs q0 = -1 ∨ (0 < n ∧ ppA fb fs q0 < fa (n - 1))
                · rw [ppV_3 d1 d2 d3]; omega
                · rw [ppV_4 d1 d2 d3]; omega
              · rw [ppV_2 d1 d2]; omega
          rw [hk, psF_c (by omega) c1 c2 hq0 rfl c3]; exact ⟨fun z => absurd z c3, by dsimp only; omega, h6, h4⟩
/-- between which two pairs a level's line lies -/
def pbN (fl : Int → Int) (n x : Int) : Nat → Int → Int
  | 0, i => i
  | k + 1, i => if i + 2 < n ∧ fl (i + 1) < x then pbN fl n x k (i + 1) else i
theorem pbN_t {fl : Int → Int} {n x i : Int} (hi : 0 ≤ i ∧ i < 6) (h : i + 2 < n ∧ fl (i + 1) < x) : pbN fl n x (6 - i).toNat i = pbN fl n x (6 - (i + 1)).toNat (i + 1) := by
  rw [show (6 - i).toNat = (5 - i).toNat + 1 from by omega, show (6 - (i + 1)).toNat = (5 - i).toNat from by omega]; show ite _ _ _ = _; rw [if_pos h]
theorem pbN_f {fl : Int → Int} {n x i : Int} (hi : 0 ≤ i ∧ i ≤ 6) (h : ¬ (i + 2 < n ∧ fl (i + 1) < x)) : pbN fl n x (6 - i).toNat i = i := by
  by_cases q : i < 6
  · rw [show (6 - i).toNat = (5 - i).toNat + 1 from by omega]; show ite _ _ _ = _; rw [if_neg h]
  · rw [show (6 - i).toNat = 0 from by omega]; rfl
theorem pbN_in {fl : Int → Int} {n x : Int} (hn : 2 ≤ n ∧ n ≤ 6) : ∀ (k : Nat) (i : Int), 0 ≤ i ∧ i ≤ n - 2 → 0 ≤ pbN fl n x k i ∧ pbN fl n x k i ≤ n - 2
  | 0, i, h => h
  | k + 1, i, h => by
    show 0 ≤ ite _ _ _ ∧ ite _ _ _ ≤ n - 2
    split
    · exact pbN_in hn k (i + 1) (by omega)
    · exact h
def liB (fl : Int → Int) (p : Int) : Int := fl (p + 1) - fl p
def liA (fl fa : Int → Int) (p x : Int) : Int := zmax 0 (fa p * liB fl p + (fa (p + 1) - fa p) * (x - fl p))
theorem mul_abs2 {a b A B : Int} (ha : -A ≤ a ∧ a ≤ A) (hb : -B ≤ b ∧ b ≤ B) : -(A * B) ≤ a * b ∧ a * b ≤ A * B := by
  rcases Int.le_total 0 b with h | h
  · exact mul_abs ha ⟨h, hb.2⟩
  · have := mul_abs (a := a) (b := -b) (A := A) (B := B) ha (by omega)
    rw [Int.mul_neg] at this
    omega
theorem liA_in {fl fa : Int → Int} {k x : Int} (h1 : ∀ j, 0 ≤ fl j ∧ fl j ≤ 999) (h2 : ∀ j, 0 ≤ fa j ∧ fa j ≤ 999) (hx : 0 ≤ x ∧ x ≤ 999) : (-998001 ≤ fa k * liB fl k ∧ fa k * liB fl k ≤ 998001) ∧ (-998001 ≤ (fa (k + 1) - fa k) * (x - fl k) ∧ (fa (k + 1) - fa k) * (x - fl k) ≤ 998001) := by
  have a1 := h1 k; have a2 := h1 (k + 1); have a3 := h2 k; have a4 := h2 (k + 1)
  exact ⟨mul_abs2 (A := 999) (B := 999) (by omega) (by unfold liB; omega), mul_abs2 (A := 999) (B := 999) (by omega) (by omega)⟩
set_option maxHeartbeats 1000000 in
set_option maxRecDepth 100000 in
theorem c_X1_passes (l : Launch) (D : va_G) (cyI cyJ cyO : ClassId) (qF : Nat) (qFb : Nat) (qFl : Nat) (qFa : Nat) (fs : Int) (fp : Int) (fq : Int) (fb : Int → Int) (sz : Nat) (sg : Int) (h_fs : 0 ≤ fs ∧ fs ≤ 60) (h_fb : ∀ j, 0 ≤ fb j ∧ fb j ≤ 255) (h_fq : 0 ≤ fq ∧ fq ≤ fs) (h_sg : -2147483648 ≤ sg ∧ sg ≤ 2147483647) : Met l yX1_passes wsX1_passes ({ frames := 0, cells := 0, slots := 0, locals := 0 }) (va_Pc [.ref qF, .int (iI (sg))] (xM D vwCl [(qF, .inr (1, [.ref qFb, .ref qFl, .ref qFa, .int (iI (fs)), .int (iI (fp)), .int (iI (fq))])), (qFb, .inl (cyI, 60, .inl (xA (fb))))] (xT cyI cyJ cyO) sz)) (va_Qi (fun (r : Int32) (u : Int) => r = iI (b2 (fq < fs ∧ fb fq = sg)) ∧ ((fq < fs ∧ fb fq = sg → u = fq + 1) ∧ (¬ (fq < fs ∧ fb fq = sg) → u = fq))) (xB D vwCl (xT cyI cyJ cyO) (va_A [(qF, .inr (1, [.ref qFb, .ref qFl, .ref qFa, .int (iI (fs)), .int (iI (fp)), .int (iI (fq))])), (qFb, .inl (cyI, 60, .inl (xA (fb))))] sz) (fun u : Int => [(qF, .inr (1, [.ref qFb, .ref qFl, .ref qFa, .int (iI (fs)), .int (iI (fp)), .int (iI (u))])), (qFb, .inl (cyI, 60, .inl (xA (fb))))])) (va_A [(qF, .inr (1, [.ref qFb, .ref qFl, .ref qFa, .int (iI (fs)), .int (iI (fp)), .int (iI (fq))])), (qFb, .inl (cyI, 60, .inl (xA (fb))))] sz)) 0 0 (va_A [(qF, .inr (1, [.ref qFb, .ref qFl, .ref qFa, .int (iI (fs)), .int (iI (fp)), .int (iI (fq))])), (qFb, .inl (cyI, 60, .inl (xA (fb))))] sz) := by
  refine Met.ofW (cc := cX1_passes) (maxL := 2) (ret := (some .boolean)) (by decide) rfl ?_
  intro p e s m args below meth c s₁ B hml hv
  obtain ⟨rfl, hsz, hP, hK, hD0⟩ := hv
  have hx := B.exec
  have hb := B.bytes
  have hr := B.returns
  have hts := atoms_spec (ws := wsX1_passes) B.pre
  have hown : s.vm.findClass RX1 = some m.cls := findClass_of_methodNamed B.named
  have hlocks := B.notSynchronized
  have hcX1 : ∀ w ∈ wsX10, w ∈ wsX1_passes := fun _ h => List.mem_cons_of_mem _ (List.mem_append_right _ h)
  subst hsz
  have hD := hD0.self (sz := s.heap.size)
  generalize hAe : va_A [(qF, .inr (1, [.ref qFb, .ref qFl, .ref qFa, .int (iI (fs)), .int (iI (fp)), .int (iI (fq))])), (qFb, .inl (cyI, 60, .inl (xA (fb))))] s.heap.size = A at hD ⊢
  have hA : ∀ q : Nat, s.heap.size ≤ q → A q := fun q h => by rw [← hAe]; exact Or.inr h
  have hS : va_S A s.heap s.heap [] := va_S.rf
  have hP : va_P D vwCl [(qF, .inr (1, [.ref qFb, .ref qFl, .ref qFa, .int (iI (fs)), .int (iI (fp)), .int (iI (fq))])), (qFb, .inl (cyI, 60, .inl (xA (fb))))] s.heap := hP
  have hl := lv_entry ([.ref qF, .int (iI (sg))]) (n := 2) (Nat.le_of_ble_eq_true rfl)
  rw [lg_entry_eq]
  generalize (lg_sl ([.ref qF, .int (iI (sg))]) ++ List.replicate (2 - (lg_sl ([.ref qF, .int (iI (sg))])).length) Slot.unset).toArray = ls at hl ⊢
  have hl : lv_has ls 2 [(0, .ref qF), (1, .int (iI (sg)))] := hl
  refine lv_aload_n hx hb dX1_passes_0 rfl (lv_at hl 0 rfl) ?_
  refine va_get (D := D) (ci := 1) (C := RX1) (T := TX1) (N := 6) hx hb hts hcX1 hown hK hP 0 rfl rfl 5 (by decide) (hts (.fieldLink RX1 28 "WallMarks$Flows" "place" "I") (List.mem_of_getElem? (i := 1) (by decide +kernel))) (fun _ h9 => h9) rfl dX1_passes_1 ?_
  refine lv_aload_n hx hb dX1_passes_4 rfl (lv_at hl 0 rfl) ?_
  refine va_get (D := D) (ci := 1) (C := RX1) (T := TX1) (N := 6) hx hb hts hcX1 hown hK hP 0 rfl rfl 3 (by decide) (hts (.fieldLink RX1 21 "WallMarks$Flows" "size" "I") (List.mem_of_getElem? (i := 2) (by decide +kernel))) (fun _ h9 => h9) rfl dX1_passes_5 ?_
  refine xb_icmp_ge (tgt := 24) hx hb dX1_passes_8 (by decide) (by omega) (fun h_1 => ?_) (fun h_1 => ?_)
  · refine xi_const hx hb dX1_passes_24 ?_
    exact W.zret (v := iI (0)) hx hb hr (by decide +kernel) (fun t_ ht_ hW_ => ⟨⟨_, (fq), rfl, ⟨congrArg iI (show (0 : Int) = b2 (fq < fs ∧ fb fq = sg) from (b2_f (by first | assumption | omega | (constructor <;> first | assumption | omega))).symm), (show (fq < fs ∧ fb fq = sg → fq = fq + 1) ∧ (¬ (fq < fs ∧ fb fq = sg) → fq = fq) from by omega)⟩, by rw [ht_]; exact hP, va_K.moved hW_.alike hK, hD⟩, hS.F ht_⟩) hS.2.2 dX1_passes_25
  · refine lv_aload_n hx hb dX1_passes_11 rfl (lv_at hl 0 rfl) ?_
    refine va_get (D := D) (ci := 1) (C := RX1) (T := TX1) (N := 6) hx hb hts hcX1 hown hK hP 0 rfl rfl 0 (by decide) (hts (.fieldLink RX1 9 "WallMarks$Flows" "bytes" "[I") (List.mem_of_getElem? (i := 3) (by decide +kernel))) (fun _ h9 => h9) rfl dX1_passes_12 ?_
    refine lv_aload_n hx hb dX1_passes_15 rfl (lv_at hl 0 rfl) ?_
    refine va_get (D := D) (ci := 1) (C := RX1) (T := TX1) (N := 6) hx hb hts hcX1 hown hK hP 0 rfl rfl 5 (by decide) (hts (.fieldLink RX1 28 "WallMarks$Flows" "place" "I") (List.mem_of_getElem? (i := 1) (by decide +kernel))) (fun _ h9 => h9) rfl dX1_passes_16 ?_
    refine xi_ald (D := D) hx hb hK hP 1 0 rfl rfl (by decide) (by omega) dX1_passes_19 ?_
    have hr_2 := h_fb (fq)
    refine lv_iload_n hx hb dX1_passes_20 rfl (lv_at hl 1 rfl) ?_
    refine xb_icmp_eq (tgt := 26) hx hb dX1_passes_21 (by decide) (by omega) (fun h_3 => ?_) (fun h_3 => ?_)
    · refine lv_aload_n hx hb dX1_passes_26 rfl (lv_at hl 0 rfl) ?_
      refine lv_dup hx hb dX1_passes_27 rfl ?_
      refine va_get (D := D) (ci := 1) (C := RX1) (T := TX1) (N := 6) hx hb hts hcX1 hown hK hP 0 rfl rfl 5 (by decide) (hts (.fieldLink RX1 28 "WallMarks$Flows" "place" "I") (List.mem_of_getElem? (i := 1) (by decide +kernel))) (fun _ h9 => h9) rfl dX1_passes_28 ?_
      refine xi_const hx hb dX1_passes_31 ?_
      refine xi_add hx hb dX1_passes_32 ?_
      refine va_put (D := D) (ci := 1) (v := .int (iI (fq + 1))) (ty := .int) (C := RX1) (T := TX1) (N := 6) hx hb hts hcX1 tyX1 tyX1_ok nmX1 hown hK hP hD hS 0 rfl rfl 5 (by decide) (hts (.fieldLink RX1 28 "WallMarks$Flows" "place" "I") (List.mem_of_getElem? (i := 1) (by decide +kernel))) (fun _ h9 => h9) rfl (by decide +kernel) rfl rfl (Nat.le_of_ble_eq_true rfl) dX1_passes_33 (fun H locs hP hD hS => ?_)
      have hP : va_P D vwCl [(qF, .inr (1, [.ref qFb, .ref qFl, .ref qFa, .int (iI (fs)), .int (iI (fp)), .int (iI (fq + 1))])), (qFb, .inl (cyI, 60, .inl (xA (fb))))] H := hP
      have hD : va_D A [(qF, .inr (1, [.ref qFb, .ref qFl, .ref qFa, .int (iI (fs)), .int (iI (fp)), .int (iI (fq + 1))])), (qFb, .inl (cyI, 60, .inl (xA (fb))))] := hD
      refine xi_const hx hb dX1_passes_36 ?_
      have he0 : (fq + 1 : Int) = ((fq + 1)) := by first | rfl | omega
      have hW8 := congrArg (fun (xv0 : Int) => ([(qF, .inr (1, [.ref qFb, .ref qFl, .ref qFa, .int (iI (fs)), .int (iI (fp)), .int (iI (xv0))])), (qFb, .inl (cyI, 60, .inl (xA (fb))))] : va_W)) he0
      have hW9 : ([(qF, .inr (1, [.ref qFb, .ref qFl, .ref qFa, .int (iI (fs)), .int (iI (fp)), .int (iI (fq + 1))])), (qFb, .inl (cyI, 60, .inl (xA (fb))))] : va_W) = [(qF, .inr (1, [.ref qFb, .ref qFl, .ref qFa, .int (iI (fs)), .int (iI (fp)), .int (iI ((fq + 1)))])), (qFb, .inl (cyI, 60, .inl (xA (fb))))] := hW8
      rw [hW9] at hP hD
      exact W.zret (v := iI (1)) hx hb hr (by decide +kernel) (fun t_ ht_ hW_ => ⟨⟨_, (fq + 1), rfl, ⟨congrArg iI (show (1 : Int) = b2 (fq < fs ∧ fb fq = sg) from (b2_t (by first | assumption | omega | (constructor <;> first | assumption | omega))).symm), (show (fq < fs ∧ fb fq = sg → (fq + 1) = fq + 1) ∧ (¬ (fq < fs ∧ fb fq = sg) → (fq + 1) = fq) from by omega)⟩, by rw [ht_]; exact hP, va_K.moved hW_.alike hK, hD⟩, hS.F ht_⟩) hS.2.2 dX1_passes_37
    · refine xi_const hx hb dX1_passes_24 ?_
      exact W.zret (v := iI (0)) hx hb hr (by decide +kernel) (fun t_ ht_ hW_ => ⟨⟨_, (fq), rfl, ⟨congrArg iI (show (0 : Int) = b2 (fq < fs ∧ fb fq = sg) from (b2_f (by first | assumption | omega | (constructor <;> first | assumption | omega))).symm), (show (fq < fs ∧ fb fq = sg → fq = fq + 1) ∧ (¬ (fq < fs ∧ fb fq = sg) → fq = fq) from by omega)⟩, by rw [ht_]; exact hP, va_K.moved hW_.alike hK, hD⟩, hS.F ht_⟩) hS.2.2 dX1_passes_25
set_option maxHeartbeats 1000000 in
set_option maxRecDepth 100000 in
theorem c_X1_parseNumber (l : Launch) (D : va_G) (cyI cyJ cyO : ClassId) (qF : Nat) (qFb : Nat) (qFl : Nat) (qFa : Nat) (fs : Int) (fp : Int) (fq : Int) (fb : Int → Int) (sz : Nat) (h_fs : 0 ≤ fs ∧ fs ≤ 60) (h_fb : ∀ j, 0 ≤ fb j ∧ fb j ≤ 255) (h_fq : 0 ≤ fq ∧ fq ≤ fs) : Met l yX1_parseNumber wsX1_parseNumber ({ frames := 1, cells := 0, slots := 0, locals := 24 }) (va_Pc [.ref qF] (xM D vwCl [(qF, .inr (1, [.ref qFb, .ref qFl, .ref qFa, .int (iI (fs)), .int (iI (fp)), .int (iI (fq))])), (qFb, .inl (cyI, 60, .inl (xA (fb))))] (xT cyI cyJ cyO) sz)) (va_Qi (fun (r : Int32) (u : Unit) => r = iI (ppL fb fs fq) ∧ True) (xB D vwCl (xT cyI cyJ cyO) (va_A [(qF, .inr (1, [.ref qFb, .ref qFl, .ref qFa, .int (iI (fs)), .int (iI (fp)), .int (iI (fq))])), (qFb, .inl (cyI, 60, .inl (xA (fb))))] sz) (fun u : Unit => [(qF, .inr (1, [.ref qFb, .ref qFl, .ref qFa, .int (iI (fs)), .int (iI (fp)), .int (iI (ppM fb fs fq))])), (qFb, .inl (cyI, 60, .inl (xA (fb))))])) (va_A [(qF, .inr (1, [.ref qFb, .ref qFl, .ref qFa, .int (iI (fs)), .int (iI (fp)), .int (iI (fq))])), (qFb, .inl (cyI, 60, .inl (xA (fb))))] sz)) 0 0 (va_A [(qF, .inr (1, [.ref qFb, .ref qFl, .ref qFa, .int (iI (fs)), .int (iI (fp)), .int (iI (fq))])), (qFb, .inl (cyI, 60, .inl (xA (fb))))] sz) := by
  refine Met.ofW (cc := cX1_parseNumber) (maxL := 3) (ret := (some .int)) (by decide) rfl ?_
  intro p e s m args below meth c s₁ B hml hv
  obtain ⟨rfl, hsz, hP, hK, hD0⟩ := hv
  have hx := B.exec
  have hb := B.bytes
  have hr := B.returns
  have hts := atoms_spec (ws := wsX1_parseNumber) B.pre
  have hown : s.vm.findClass RX1 = some m.cls := findClass_of_methodNamed B.named
  have hlocks := B.notSynchronized
  have hcX1 : ∀ w ∈ wsX10, w ∈ wsX1_parseNumber := fun _ h => List.mem_cons_of_mem _ (List.mem_append_right _ h)
  subst hsz
  have hD := hD0.self (sz := s.heap.size)
  generalize hAe : va_A [(qF, .inr (1, [.ref qFb, .ref qFl, .ref qFa, .int (iI (fs)), .int (iI (fp)), .int (iI (fq))])), (qFb, .inl (cyI, 60, .inl (xA (fb))))] s.heap.size = A at hD ⊢
  have hA : ∀ q : Nat, s.heap.size ≤ q → A q := fun q h => by rw [← hAe]; exact Or.inr h
  have hS : va_S A s.heap s.heap [] := va_S.rf
  have hP : va_P D vwCl [(qF, .inr (1, [.ref qFb, .ref qFl, .ref qFa, .int (iI (fs)), .int (iI (fp)), .int (iI (fq))])), (qFb, .inl (cyI, 60, .inl (xA (fb))))] s.heap := hP
  have hl := lv_entry ([.ref qF]) (n := 3) (Nat.le_of_ble_eq_true rfl)
  rw [lg_entry_eq]
  generalize (lg_sl ([.ref qF]) ++ List.replicate (3 - (lg_sl ([.ref qF])).length) Slot.unset).toArray = ls at hl ⊢
  have hl : lv_has ls 3 [(0, .ref qF)] := hl
  have cut_4 : ∀ (N_ : Nat) (i : Int) (a : Int) (q1 : Int) (hi : 0 ≤ i ∧ i ≤ 3) (ha : (a, q1) = nmF fb fs i fq) (hq : fq ≤ q1 ∧ q1 ≤ fs) (ha2 : -1 ≤ a ∧ a ≤ 999) (ha3 : i = 0 → a < 1) (ha4 : i = 1 → a < 10) (ha5 : i = 2 → a < 100) (hN_ : (3 - i).toNat < N_) (H : Heap) (locs : List Loc) (hP : va_P D vwCl [(qF, .inr (1, [.ref qFb, .ref qFl, .ref qFa, .int (iI (fs)), .int (iI (fp)), .int (iI (q1))])), (qFb, .inl (cyI, 60, .inl (xA (fb))))] H) (hD : va_D A [(qF, .inr (1, [.ref qFb, .ref qFl, .ref qFa, .int (iI (fs)), .int (iI (fp)), .int (iI (q1))])), (qFb, .inl (cyI, 60, .inl (xA (fb))))]) (hS : va_S A s.heap H locs) (ls : Array Slot) (hl : lv_has ls 3 [(0, .ref qF), (1, .int (iI (a))), (2, .int (iI (i)))]), W p l e (headSpec wsX1_parseNumber ({ frames := 1, cells := 0, slots := 0, locals := 24 })).room s m ([.ref qF] : List Value).toArray below meth c H locs 0 0 (MQ below (va_Qi (fun (r : Int32) (u : Unit) => r = iI (ppL fb fs fq) ∧ True) (xB D vwCl (xT cyI cyJ cyO) A (fun u : Unit => [(qF, .inr (1, [.ref qFb, .ref qFl, .ref qFa, .int (iI (fs)), .int (iI (fp)), .int (iI (ppM fb fs fq))])), (qFb, .inl (cyI, 60, .inl (xA (fb))))])) A) ([.ref qF] : List Value).toArray s 0 0 A) (F0 m 4 ls []) := by
    intro N_
    induction N_ with
    | zero => intro i a q1 hi ha hq ha2 ha3 ha4 ha5 hN_ H locs hP hD hS ls hl; exact absurd hN_ (Nat.not_lt_zero _)
    | succ N_ ih_4 =>
      intro i a q1 hi ha hq ha2 ha3 ha4 ha5 hN_ H locs hP hD hS ls hl
      have hz0 := zmax_0 a
      refine lv_iload_n hx hb dX1_parseNumber_4 rfl (lv_at hl 2 rfl) ?_
      refine xi_const hx hb dX1_parseNumber_5 ?_
      refine xb_icmp_ge (tgt := 54) hx hb dX1_parseNumber_6 (by decide) (by omega) (fun h_1 => ?_) (fun h_1 => ?_)
      · have he9 : (a, q1) = nmF fb fs 3 fq := nmF_e hi ha (by first | exact Or.inl (by omega) | exact Or.inr (by assumption))
        refine lv_iload_n hx hb dX1_parseNumber_54 rfl (lv_at hl 1 rfl) ?_
        have he0 : (q1 : Int) = (ppM fb fs fq) := by unfold ppM; rw [← he9]
        have hW8 := congrArg (fun (xv0 : Int) => ([(qF, .inr (1, [.ref qFb, .ref qFl, .ref qFa, .int (iI (fs)), .int (iI (fp)), .int (iI (xv0))])), (qFb, .inl (cyI, 60, .inl (xA (fb))))] : va_W)) he0
        have hW9 : ([(qF, .inr (1, [.ref qFb, .ref qFl, .ref qFa, .int (iI (fs)), .int (iI (fp)), .int (iI (q1))])), (qFb, .inl (cyI, 60, .inl (xA (fb))))] : va_W) = [(qF, .inr (1, [.ref qFb, .ref qFl, .ref qFa, .int (iI (fs)), .int (iI (fp)), .int (iI (ppM fb fs fq))])), (qFb, .inl (cyI, 60, .inl (xA (fb))))] := hW8
        rw [hW9] at hP hD
        exact W.iret (v := iI (a)) hx hb hr (fun t_ ht_ hW_ => ⟨⟨_, (), rfl, ⟨(congrArg iI (show (a) = (ppL fb fs fq) from by unfold ppL; rw [← he9])), trivial⟩, by rw [ht_]; exact hP, va_K.moved hW_.alike hK, hD⟩, hS.F ht_⟩) hS.2.2 dX1_parseNumber_55
      · refine lv_aload_n hx hb dX1_parseNumber_9 rfl (lv_at hl 0 rfl) ?_
        have hPc := hP.sub (ws' := [(qF, .inr (1, [.ref qFb, .ref qFl, .ref qFa, .int (iI (fs)), .int (iI (fp)), .int (iI (q1))])), (qFb, .inl (cyI, 60, .inl (xA (fb))))]) [0, 1] rfl
        refine xc_i (va_runV (As := []) (rest := []) ⟨hx, hb, hml, hown, hts⟩ (c_X1_isFigure l D cyI cyJ cyO qF qFb qFl qFa fs fp q1 fb (by first | exact h_fs | assumption | omega) (by first | exact h_fb | assumption | omega) (by first | exact h_fq | assumption | omega)) (cwV 0 hts gX1_parseNumber_X1_isFigure rfl rfl rfl (by decide +kernel) ⟨Nat.le_of_ble_eq_true rfl, Nat.le_of_ble_eq_true rfl⟩) (xpV hPc hK (ci := 1) (q0 := 0) (q := (RX1, TX1, 6)) rfl rfl) rfl rfl hl.1 rfl (lv_room (Nat.le_of_ble_eq_true rfl)) dX1_parseNumber_10 ⟨Nat.le_of_ble_eq_true rfl, Nat.le_of_ble_eq_true rfl⟩) ?_
        refine xb_if_eqB (tgt := 54) hx hb dX1_parseNumber_13 (by decide) (fun h_2 => ?_) (fun h_2 => ?_)
        · have he9 : (a, q1) = nmF fb fs 3 fq := nmF_e hi ha (by first | exact Or.inl (by omega) | exact Or.inr (by assumption))
          refine lv_iload_n hx hb dX1_parseNumber_54 rfl (lv_at hl 1 rfl) ?_
          have he0 : (q1 : Int) = (ppM fb fs fq) := by unfold ppM; rw [← he9]
          have hW8 := congrArg (fun (xv0 : Int) => ([(qF, .inr (1, [.ref qFb, .ref qFl, .ref qFa, .int (iI (fs)), .int (iI (fp)), .int (iI (xv0))])), (qFb, .inl (cyI, 60, .inl (xA (fb))))] : va_W)) he0
          have hW9 : ([(qF, .inr (1, [.ref qFb, .ref qFl, .ref qFa, .int (iI (fs)), .int (iI (fp)), .int (iI (q1))])), (qFb, .inl (cyI, 60, .inl (xA (fb))))] : va_W) = [(qF, .inr (1, [.ref qFb, .ref qFl, .ref qFa, .int (iI (fs)), .int (iI (fp)), .int (iI (ppM fb fs fq))])), (qFb, .inl (cyI, 60, .inl (xA (fb))))] := hW8
          rw [hW9] at hP hD
          exact W.iret (v := iI (a)) hx hb hr (fun t_ ht_ hW_ => ⟨⟨_, (), rfl, ⟨(congrArg iI (show (a) = (ppL fb fs fq) from by unfold ppL; rw [← he9])), trivial⟩, by rw [ht_]; exact hP, va_K.moved hW_.alike hK, hD⟩, hS.F ht_⟩) hS.2.2 dX1_parseNumber_55
        · refine lv_iload_n hx hb dX1_parseNumber_16 rfl (lv_at hl 1 rfl) ?_
          refine xi_const hx hb dX1_parseNumber_17 ?_
          refine xm_max hx hb (hml.trans hl.1.symm) hown (hts (.methodLink RX1 49 Lib.Math.max.name) (List.mem_of_getElem? (i := 1) (by decide +kernel))) (hts (.static Lib.Math.max.name) (List.mem_of_getElem? (i := 2) (by decide +kernel))) (hts (.initialized "java/lang/Math") (List.mem_of_getElem? (i := 3) (by decide +kernel))) (hts (.code Lib.Math.max.name Lib.Math.max.code 2 (some .int)) (List.mem_of_getElem? (i := 4) (by decide +kernel))) (Nat.le_of_ble_eq_true rfl) (Nat.le_of_ble_eq_true rfl) (Nat.le_of_ble_eq_true rfl) (Nat.le_of_ble_eq_true rfl) dX1_parseNumber_18 (by omega) ?_
          refine xi_bipush hx hb dX1_parseNumber_21 (by decide +kernel) ?_
          refine xi_mul hx hb dX1_parseNumber_23 ?_
          refine lv_aload_n hx hb dX1_parseNumber_24 rfl (lv_at hl 0 rfl) ?_
          refine va_get (D := D) (ci := 1) (C := RX1) (T := TX1) (N := 6) hx hb hts hcX1 hown hK hP 0 rfl rfl 0 (by decide) (hts (.fieldLink RX1 9 "WallMarks$Flows" "bytes" "[I") (List.mem_of_getElem? (i := 5) (by decide +kernel))) (fun _ h9 => h9) rfl dX1_parseNumber_25 ?_
          refine lv_aload_n hx hb dX1_parseNumber_28 rfl (lv_at hl 0 rfl) ?_
          refine va_get (D := D) (ci := 1) (C := RX1) (T := TX1) (N := 6) hx hb hts hcX1 hown hK hP 0 rfl rfl 5 (by decide) (hts (.fieldLink RX1 28 "WallMarks$Flows" "place" "I") (List.mem_of_getElem? (i := 6) (by decide +kernel))) (fun _ h9 => h9) rfl dX1_parseNumber_29 ?_
          have hfg : isFg fb fs q1 := by assumption
          unfold isFg at hfg
          refine xi_ald (D := D) hx hb hK hP 1 0 rfl rfl (by decide) (by omega) dX1_parseNumber_32 ?_
          have hr_3 := h_fb (q1)
          refine xi_add hx hb dX1_parseNumber_33 ?_
          refine xi_bipush hx hb dX1_parseNumber_34 (by decide +kernel) ?_
          refine xi_sub hx hb dX1_parseNumber_36 ?_
          refine lv_istore_n (lv' := [(1, .int (iI ((((zmax (a) (0)) * 10) + (fb (q1))) - 48))), (0, .ref qF), (2, .int (iI (i)))]) hx hb dX1_parseNumber_37 rfl hl (by decide) rfl (fun ls hl => ?_)
          refine lv_aload_n hx hb dX1_parseNumber_38 rfl (lv_at hl 1 rfl) ?_
          refine lv_dup hx hb dX1_parseNumber_39 rfl ?_
          refine va_get (D := D) (ci := 1) (C := RX1) (T := TX1) (N := 6) hx hb hts hcX1 hown hK hP 0 rfl rfl 5 (by decide) (hts (.fieldLink RX1 28 "WallMarks$Flows" "place" "I") (List.mem_of_getElem? (i := 6) (by decide +kernel))) (fun _ h9 => h9) rfl dX1_parseNumber_40 ?_
          refine xi_const hx hb dX1_parseNumber_43 ?_
          refine xi_add hx hb dX1_parseNumber_44 ?_
          refine va_put (D := D) (ci := 1) (v := .int (iI (q1 + 1))) (ty := .int) (C := RX1) (T := TX1) (N := 6) hx hb hts hcX1 tyX1 tyX1_ok nmX1 hown hK hP hD hS 0 rfl rfl 5 (by decide) (hts (.fieldLink RX1 28 "WallMarks$Flows" "place" "I") (List.mem_of_getElem? (i := 6) (by decide +kernel))) (fun _ h9 => h9) rfl (by decide +kernel) rfl rfl (Nat.le_of_ble_eq_true rfl) dX1_parseNumber_45 (fun H locs hP hD hS => ?_)
          have hP : va_P D vwCl [(qF, .inr (1, [.ref qFb, .ref qFl, .ref qFa, .int (iI (fs)), .int (iI (fp)), .int (iI (q1 + 1))])), (qFb, .inl (cyI, 60, .inl (xA (fb))))] H := hP
          have hD : va_D A [(qF, .inr (1, [.ref qFb, .ref qFl, .ref qFa, .int (iI (fs)), .int (iI (fp)), .int (iI (q1 + 1))])), (qFb, .inl (cyI, 60, .inl (xA (fb))))] := hD
          refine xi_inc (k := 2) (lv' := [(2, .int (iI (i + 1))), (1, .int (iI ((((zmax (a) (0)) * 10) + (fb (q1))) - 48))), (0, .ref qF)]) hx hb dX1_parseNumber_48 hl rfl (by decide) rfl (fun ls hl => ?_)
          refine lv_goto (tgt := 4) hx hb dX1_parseNumber_51 (by decide) ?_
          exact ih_4 (i + 1) ((((zmax (a) (0)) * 10) + (fb (q1))) - 48) (q1 + 1) (by first | assumption | omega | (constructor <;> omega)) (by first | rfl | exact nmF_t (by omega) ha (by assumption)) (by first | omega | (unfold isFg at *; omega)) (by first | omega | (unfold isFg at *; rcases Int.le_total 0 a with h5 | h5 <;> simp only [hz0, h5] <;> omega)) (by first | omega | (unfold isFg at *; rcases Int.le_total 0 a with h5 | h5 <;> simp only [hz0, h5] <;> omega)) (by first | omega | (unfold isFg at *; rcases Int.le_total 0 a with h5 | h5 <;> simp only [hz0, h5] <;> omega)) (by first | omega | (unfold isFg at *; rcases Int.le_total 0 a with h5 | h5 <;> simp only [hz0, h5] <;> omega)) (by omega) _ _ hP hD hS ls (lv_sub hl [2, 1, 0] rfl)
  refine xi_const hx hb dX1_parseNumber_0 ?_
  refine lv_istore_n (lv' := [(1, .int (iI (-1))), (0, .ref qF)]) hx hb dX1_parseNumber_1 rfl hl (by decide) rfl (fun ls hl => ?_)
  refine xi_const hx hb dX1_parseNumber_2 ?_
  refine lv_istore_n (lv' := [(2, .int (iI (0))), (1, .int (iI (-1))), (0, .ref qF)]) hx hb dX1_parseNumber_3 rfl hl (by decide) rfl (fun ls hl => ?_)
  exact cut_4 ((3 - 0 : Int).toNat + 1) (0) (-1) (fq) (by first | assumption | omega | (constructor <;> omega)) (by first | rfl | exact nmF_t (by omega) ha (by assumption)) (by first | omega | (unfold isFg at *; omega)) (by first | omega | (unfold isFg at *; rcases Int.le_total 0 a with h5 | h5 <;> simp only [hz0, h5] <;> omega)) (by first | omega | (unfold isFg at *; rcases Int.le_total 0 a with h5 | h5 <;> simp only [hz0, h5] <;> omega)) (by first | omega | (unfold isFg at *; rcases Int.le_total 0 a with h5 | h5 <;> simp only [hz0, h5] <;> omega)) (by first | omega | (unfold isFg at *; rcases Int.le_total 0 a with h5 | h5 <;> simp only [hz0, h5] <;> omega)) (by exact Nat.lt_succ_self _) _ _ hP hD hS ls (lv_sub hl [2, 1, 0] rfl)
set_option maxHeartbeats 1000000 in
set_option maxRecDepth 100000 in
theorem c_X1_parsePair (l : Launch) (D : va_G) (cyI cyJ cyO : ClassId) (qF : Nat) (qFb : Nat) (qFl : Nat) (qFa : Nat) (fs : Int) (fp : Int) (fq : Int) (fb : Int → Int) (fl : Int → Int) (fa : Int → Int) (sz : Nat) (h_fs : 0 ≤ fs ∧ fs ≤ 60) (h_fb : ∀ j, 0 ≤ fb j ∧ fb j ≤ 255) (h_fq : 0 ≤ fq ∧ fq ≤ fs) (h_fp : 0 ≤ fp ∧ fp < 6) (h_fl : ∀ j, 0 ≤ fl j ∧ fl j ≤ 999) (h_fa : ∀ j, 0 ≤ fa j ∧ fa j ≤ 999) : Met l yX1_parsePair wsX1_parsePair ({ frames := 2, cells := 0, slots := 0, locals := 46 }) (va_Pc [.ref qF] (xM D vwCl [(qF, .inr (1, [.ref qFb, .ref qFl, .ref qFa, .int (iI (fs)), .int (iI (fp)), .int (iI (fq))])), (qFb, .inl (cyI, 60, .inl (xA (fb)))), (qFl, .inl (cyI, 6, .inl (xA (fl)))), (qFa, .inl (cyI, 6, .inl (xA (fa))))] (xT cyI cyJ cyO) sz)) (va_Qi (fun (r : Int32) (u : Int × (Int → Int) × (Int → Int)) => r = iI (ppV fb fs fq fp fl fa) ∧ (fq ≤ (u.1) ∧ (u.1) ≤ fs) ∧ (ppV fb fs fq fp fl fa = -1 → (u.1) = ppQ fb fs fq ∧ (u.2.1) = uz fl fp (ppL fb fs fq) ∧ (u.2.2) = uz fa fp (ppA fb fs fq)) ∧ (ppV fb fs fq fp fl fa ≠ -1 → (u.2.1) = fl ∧ (u.2.2) = fa) ∧ (∀ j, 0 ≤ (u.2.1) j ∧ (u.2.1) j ≤ 999) ∧ (∀ j, 0 ≤ (u.2.2) j ∧ (u.2.2) j ≤ 999)) (xB D vwCl (xT cyI cyJ cyO) (va_A [(qF, .inr (1, [.ref qFb, .ref qFl, .ref qFa, .int (iI (fs)), .int (iI (fp)), .int (iI (fq))])), (qFb, .inl (cyI, 60, .inl (xA (fb)))), (qFl, .inl (cyI, 6, .inl (xA (fl)))), (qFa, .inl (cyI, 6, .inl (xA (fa))))] sz) (fun u : Int × (Int → Int) × (Int → Int) => [(qF, .inr (1, [.ref qFb, .ref qFl, .ref qFa, .int (iI (fs)), .int (iI (fp)), .int (iI ((u.1)))])), (qFb, .inl (cyI, 60, .inl (xA (fb)))), (qFl, .inl (cyI, 6, .inl (xA ((u.2.1))))), (qFa, .inl (cyI, 6, .inl (xA ((u.2.2)))))])) (va_A [(qF, .inr (1, [.ref qFb, .ref qFl, .ref qFa, .int (iI (fs)), .int (iI (fp)), .int (iI (fq))])), (qFb, .inl (cyI, 60, .inl (xA (fb)))), (qFl, .inl (cyI, 6, .inl (xA (fl)))), (qFa, .inl (cyI, 6, .inl (xA (fa))))] sz)) 0 0 (va_A [(qF, .inr (1, [.ref qFb, .ref qFl, .ref qFa, .int (iI (fs)), .int (iI (fp)), .int (iI (fq))])), (qFb, .inl (cyI, 60, .inl (xA (fb)))), (qFl, .inl (cyI, 6, .inl (xA (fl)))), (qFa, .inl (cyI, 6, .inl (xA (fa))))] sz) := by
  refine Met.ofW (cc := cX1_parsePair) (maxL := 4) (ret := (some .int)) (by decide) rfl ?_
  intro p e s m args below meth c s₁ B hml hv
  obtain ⟨rfl, hsz, hP, hK, hD0⟩ := hv
  have hx := B.exec
  have hb := B.bytes
  have hr := B.returns
  have hts := atoms_spec (ws := wsX1_parsePair) B.pre
  have hown : s.vm.findClass RX1 = some m.cls := findClass_of_methodNamed B.named
  have hlocks := B.notSynchronized
  have hcX1 : ∀ w ∈ wsX10, w ∈ wsX1_parsePair := fun _ h => List.mem_cons_of_mem _ (List.mem_append_right _ h)
  subst hsz
  have hD := hD0.self (sz := s.heap.size)
  generalize hAe : va_A [(qF, .inr (1, [.ref qFb, .ref qFl, .ref qFa, .int (iI (fs)), .int (iI (fp)), .int (iI (fq))])), (qFb, .inl (cyI, 60, .inl (xA (fb)))), (qFl, .inl (cyI, 6, .inl (xA (fl)))), (qFa, .inl (cyI, 6, .inl (xA (fa))))] s.heap.size = A at hD ⊢
  have hA : ∀ q : Nat, s.heap.size ≤ q → A q := fun q h => by rw [← hAe]; exact Or.inr h
  have hS : va_S A s.heap s.heap [] := va_S.rf
  have hP : va_P D vwCl [(qF, .inr (1, [.ref qFb, .ref qFl, .ref qFa, .int (iI (fs)), .int (iI (fp)), .int (iI (fq))])), (qFb, .inl (cyI, 60, .inl (xA (fb)))), (qFl, .inl (cyI, 6, .inl (xA (fl)))), (qFa, .inl (cyI, 6, .inl (xA (fa))))] s.heap := hP
  have hl := lv_entry ([.ref qF]) (n := 4) (Nat.le_of_ble_eq_true rfl)
  rw [lg_entry_eq]
  generalize (lg_sl ([.ref qF]) ++ List.replicate (4 - (lg_sl ([.ref qF])).length) Slot.unset).toArray = ls at hl ⊢
  have hl : lv_has ls 4 [(0, .ref qF)] := hl
  refine lv_aload_n hx hb dX1_parsePair_0 rfl (lv_at hl 0 rfl) ?_
  refine va_get (D := D) (ci := 1) (C := RX1) (T := TX1) (N := 6) hx hb hts hcX1 hown hK hP 0 rfl rfl 5 (by decide) (hts (.fieldLink RX1 28 "WallMarks$Flows" "place" "I") (List.mem_of_getElem? (i := 1) (by decide +kernel))) (fun _ h9 => h9) rfl dX1_parsePair_1 ?_
  refine lv_istore_n (lv' := [(1, .int (iI (fq))), (0, .ref qF)]) hx hb dX1_parsePair_4 rfl hl (by decide) rfl (fun ls hl => ?_)
  refine lv_aload_n hx hb dX1_parsePair_5 rfl (lv_at hl 1 rfl) ?_
  have hf_1 := nmF_in (fb := fb) (fs := fs) (q0 := fq) (by omega)
  have hPc := hP.sub (ws' := [(qF, .inr (1, [.ref qFb, .ref qFl, .ref qFa, .int (iI (fs)), .int (iI (fp)), .int (iI (fq))])), (qFb, .inl (cyI, 60, .inl (xA (fb))))]) [0, 1] rfl
  have hDc := hD.sub (ws' := [(qF, .inr (1, [.ref qFb, .ref qFl, .ref qFa, .int (iI (fs)), .int (iI (fp)), .int (iI (fq))])), (qFb, .inl (cyI, 60, .inl (xA (fb))))]) [0, 1] (by decide) rfl
  have hFc := va_free (wc := [(qF, .inr (1, [.ref qFb, .ref qFl, .ref qFa, .int (iI (fs)), .int (iI (fp)), .int (iI (fq))])), (qFb, .inl (cyI, 60, .inl (xA (fb))))]) hD hS hA [0, 1] rfl
  refine va_calli (va_runV (As := []) (rest := []) ⟨hx, hb, hml, hown, hts⟩ (c_X1_parseNumber l D cyI cyJ cyO qF qFb qFl qFa fs fp fq fb s.heap.size (by first | exact h_fs | assumption | omega) (by first | exact h_fb | assumption | omega) (by first | exact h_fq | assumption | omega)) (cwV 0 hts gX1_parsePair_X1_parseNumber rfl rfl rfl (by decide +kernel) ⟨Nat.le_of_ble_eq_true rfl, Nat.le_of_ble_eq_true rfl⟩) (xpVM hPc hK hDc (ci := 1) (q0 := 0) (q := (RX1, TX1, 6)) rfl rfl) rfl rfl hl.1 rfl (lv_room (Nat.le_of_ble_eq_true rfl)) dX1_parsePair_6 ⟨Nat.le_of_ble_eq_true rfl, Nat.le_of_ble_eq_true rfl⟩) hS (fun q _ h => hFc q h) hFc (fun r_ u_2 t_ H1 locs ht_ hvm hw hB hz1 hk1 hS => ?_)
  obtain ⟨hP1, hK1, hD1⟩ := hB
  rw [ht_] at hP1
  obtain ⟨hP, hD⟩ := xj (wc := [(qF, .inr (1, [.ref qFb, .ref qFl, .ref qFa, .int (iI (fs)), .int (iI (fp)), .int (iI (fq))])), (qFb, .inl (cyI, 60, .inl (xA (fb))))]) (w1 := [(qF, .inr (1, [.ref qFb, .ref qFl, .ref qFa, .int (iI (fs)), .int (iI (fp)), .int (iI (ppM fb fs fq))])), (qFb, .inl (cyI, 60, .inl (xA (fb))))]) hP hD [0, 1] rfl rfl hk1 hP1
  generalize H1 = H at hP hS ⊢
  have hP : va_P D vwCl [(qF, .inr (1, [.ref qFb, .ref qFl, .ref qFa, .int (iI (fs)), .int (iI (fp)), .int (iI (ppM fb fs fq))])), (qFb, .inl (cyI, 60, .inl (xA (fb)))), (qFl, .inl (cyI, 6, .inl (xA (fl)))), (qFa, .inl (cyI, 6, .inl (xA (fa))))] H := hP
  have hD : va_D A [(qF, .inr (1, [.ref qFb, .ref qFl, .ref qFa, .int (iI (fs)), .int (iI (fp)), .int (iI (ppM fb fs fq))])), (qFb, .inl (cyI, 60, .inl (xA (fb)))), (qFl, .inl (cyI, 6, .inl (xA (fl)))), (qFa, .inl (cyI, 6, .inl (xA (fa))))] := hD
  obtain ⟨hre, hw_3⟩ := hw
  have hw_3 : True := hw_3
  rw [show r_ = iI (ppL fb fs fq) from hre]
  refine lv_istore_n (lv' := [(2, .int (iI (ppL fb fs fq))), (1, .int (iI (fq))), (0, .ref qF)]) hx hb dX1_parsePair_9 rfl hl (by decide) rfl (fun ls hl => ?_)
  refine lv_iload_n hx hb dX1_parsePair_10 rfl (lv_at hl 0 rfl) ?_
  refine xi_const hx hb dX1_parsePair_11 ?_
  refine xb_icmp_eq (tgt := 37) hx hb dX1_parsePair_12 (by decide) (by omega) (fun h_4 => ?_) (fun h_4 => ?_)
  · refine lv_iload_n hx hb dX1_parsePair_37 rfl (lv_at hl 1 rfl) ?_
    have hV := ppV_1 (fb := fb) (fs := fs) (q := fq) (n := fp) (fl := fl) (fa := fa) (by omega)
    have he0 : (ppM fb fs fq : Int) = ((ppM fb fs fq)) := by first | rfl | omega
    have hW8 := congrArg (fun (xv0 : Int) => ([(qF, .inr (1, [.ref qFb, .ref qFl, .ref qFa, .int (iI (fs)), .int (iI (fp)), .int (iI (xv0))])), (qFb, .inl (cyI, 60, .inl (xA (fb)))), (qFl, .inl (cyI, 6, .inl (xA (fl)))), (qFa, .inl (cyI, 6, .inl (xA (fa))))] : va_W)) he0
    have hW9 : ([(qF, .inr (1, [.ref qFb, .ref qFl, .ref qFa, .int (iI (fs)), .int (iI (fp)), .int (iI (ppM fb fs fq))])), (qFb, .inl (cyI, 60, .inl (xA (fb)))), (qFl, .inl (cyI, 6, .inl (xA (fl)))), (qFa, .inl (cyI, 6, .inl (xA (fa))))] : va_W) = [(qF, .inr (1, [.ref qFb, .ref qFl, .ref qFa, .int (iI (fs)), .int (iI (fp)), .int (iI ((ppM fb fs fq)))])), (qFb, .inl (cyI, 60, .inl (xA (fb)))), (qFl, .inl (cyI, 6, .inl (xA (fl)))), (qFa, .inl (cyI, 6, .inl (xA (fa))))] := hW8
    rw [hW9] at hP hD
    exact W.iret (v := iI (fq)) hx hb hr (fun t_ ht_ hW_ => ⟨⟨_, (ppM fb fs fq, fl, fa), rfl, ⟨(congrArg iI (show (fq) = (ppV fb fs fq fp fl fa) from by rw [hV]; try omega)), ⟨(show fq ≤ (ppM fb fs fq) ∧ (ppM fb fs fq) ≤ fs from by omega), (show ppV fb fs fq fp fl fa = -1 → (ppM fb fs fq) = ppQ fb fs fq ∧ fl = uz fl fp (ppL fb fs fq) ∧ fa = uz fa fp (ppA fb fs fq) from by rw [hV]; first | (intro h; exfalso; omega) | (intro _; exact ⟨rfl, rfl, rfl⟩)), (show ppV fb fs fq fp fl fa ≠ -1 → fl = fl ∧ fa = fa from by rw [hV]; first | (intro _; exact ⟨rfl, rfl⟩) | (intro h; exact absurd rfl h)), (show ∀ j, 0 ≤ fl j ∧ fl j ≤ 999 from by first | assumption | exact uz_in h_fl (by omega)), (show ∀ j, 0 ≤ fa j ∧ fa j ≤ 999 from by first | assumption | exact uz_in h_fa (by omega))⟩⟩, by rw [ht_]; exact hP, va_K.moved hW_.alike hK, hD⟩, hS.F ht_⟩) hS.2.2 dX1_parsePair_38
  · refine lv_aload_n hx hb dX1_parsePair_15 rfl (lv_at hl 2 rfl) ?_
    refine va_get (D := D) (ci := 1) (C := RX1) (T := TX1) (N := 6) hx hb hts hcX1 hown hK hP 0 rfl rfl 4 (by decide) (hts (.fieldLink RX1 25 "WallMarks$Flows" "pairs" "I") (List.mem_of_getElem? (i := 2) (by decide +kernel))) (fun _ h9 => h9) rfl dX1_parsePair_16 ?_
    refine xb_if_le (tgt := 39) hx hb dX1_parsePair_19 (by decide) (by omega) (fun h_5 => ?_) (fun h_5 => ?_)
    · refine lv_aload_n hx hb dX1_parsePair_39 rfl (lv_at hl 2 rfl) ?_
      refine xi_bipush hx hb dX1_parsePair_40 (by decide +kernel) ?_
      have hPc := hP.sub (ws' := [(qF, .inr (1, [.ref qFb, .ref qFl, .ref qFa, .int (iI (fs)), .int (iI (fp)), .int (iI (ppM fb fs fq))])), (qFb, .inl (cyI, 60, .inl (xA (fb))))]) [0, 1] rfl
      have hDc := hD.sub (ws' := [(qF, .inr (1, [.ref qFb, .ref qFl, .ref qFa, .int (iI (fs)), .int (iI (fp)), .int (iI (ppM fb fs fq))])), (qFb, .inl (cyI, 60, .inl (xA (fb))))]) [0, 1] (by decide) rfl
      have hFc := va_free (wc := [(qF, .inr (1, [.ref qFb, .ref qFl, .ref qFa, .int (iI (fs)), .int (iI (fp)), .int (iI (ppM fb fs fq))])), (qFb, .inl (cyI, 60, .inl (xA (fb))))]) hD hS hA [0, 1] rfl
      refine va_calli (va_runV (As := [.int (iI (58))]) (rest := []) ⟨hx, hb, hml, hown, hts⟩ (c_X1_passes l D cyI cyJ cyO qF qFb qFl qFa fs fp (ppM fb fs fq) fb H.size 58 (by first | exact h_fs | assumption | omega) (by first | exact h_fb | assumption | omega) (by first | exact h_fq | assumption | omega) (by first | exact h_sg | assumption | omega)) (cwV 1 hts gX1_parsePair_X1_passes rfl rfl rfl (by decide +kernel) ⟨Nat.le_of_ble_eq_true rfl, Nat.le_of_ble_eq_true rfl⟩) (xpVM hPc hK hDc (ci := 1) (q0 := 0) (q := (RX1, TX1, 6)) rfl rfl) rfl rfl hl.1 rfl (lv_room (Nat.le_of_ble_eq_true rfl)) dX1_parsePair_42 ⟨Nat.le_of_ble_eq_true rfl, Nat.le_of_ble_eq_true rfl⟩) hS (fun q _ h => hFc q h) hFc (fun r_ u_6 t_ H1 locs ht_ hvm hw hB hz1 hk1 hS => ?_)
      obtain ⟨q1_7, rfl⟩ : ∃ z, z = u_6 := ⟨_, rfl⟩
      obtain ⟨hP1, hK1, hD1⟩ := hB
      rw [ht_] at hP1
      obtain ⟨hP, hD⟩ := xj (wc := [(qF, .inr (1, [.ref qFb, .ref qFl, .ref qFa, .int (iI (fs)), .int (iI (fp)), .int (iI (ppM fb fs fq))])), (qFb, .inl (cyI, 60, .inl (xA (fb))))]) (w1 := [(qF, .inr (1, [.ref qFb, .ref qFl, .ref qFa, .int (iI (fs)), .int (iI (fp)), .int (iI (q1_7))])), (qFb, .inl (cyI, 60, .inl (xA (fb))))]) hP hD [0, 1] rfl rfl hk1 hP1
      generalize H1 = H at hP hS ⊢
      have hP : va_P D vwCl [(qF, .inr (1, [.ref qFb, .ref qFl, .ref qFa, .int (iI (fs)), .int (iI (fp)), .int (iI (q1_7))])), (qFb, .inl (cyI, 60, .inl (xA (fb)))), (qFl, .inl (cyI, 6, .inl (xA (fl)))), (qFa, .inl (cyI, 6, .inl (xA (fa))))] H := hP
      have hD : va_D A [(qF, .inr (1, [.ref qFb, .ref qFl, .ref qFa, .int (iI (fs)), .int (iI (fp)), .int (iI (q1_7))])), (qFb, .inl (cyI, 60, .inl (xA (fb)))), (qFl, .inl (cyI, 6, .inl (xA (fl)))), (qFa, .inl (cyI, 6, .inl (xA (fa))))] := hD
      obtain ⟨hre, hw_8⟩ := hw
      have hw_8 : (((ppM fb fs fq) < fs ∧ fb (ppM fb fs fq) = 58 → q1_7 = (ppM fb fs fq) + 1) ∧ (¬ ((ppM fb fs fq) < fs ∧ fb (ppM fb fs fq) = 58) → q1_7 = (ppM fb fs fq))) := hw_8
      rw [show r_ = iI (b2 ((ppM fb fs fq) < fs ∧ fb (ppM fb fs fq) = 58)) from hre]
      obtain ⟨hps1, hps2⟩ := hw_8
      refine xb_if_neB (tgt := 53) hx hb dX1_parsePair_45 (by decide) (fun h_9 => ?_) (fun h_9 => ?_)
      · have hcc : ppM fb fs fq < fs ∧ fb (ppM fb fs fq) = 58 := by assumption
        obtain rfl : q1_7 = ppM fb fs fq + 1 := by exact hps1 hcc
        have hc1 : ¬ (ppL fb fs fq = -1 ∨ (0 < fp ∧ ppL fb fs fq ≤ fl (fp - 1))) := by omega
        refine lv_aload_n hx hb dX1_parsePair_53 rfl (lv_at hl 2 rfl) ?_
        refine va_get (D := D) (ci := 1) (C := RX1) (T := TX1) (N := 6) hx hb hts hcX1 hown hK hP 0 rfl rfl 5 (by decide) (hts (.fieldLink RX1 28 "WallMarks$Flows" "place" "I") (List.mem_of_getElem? (i := 1) (by decide +kernel))) (fun _ h9 => h9) rfl dX1_parsePair_54 ?_
        refine lv_istore_n (lv' := [(1, .int (iI (ppM fb fs fq + 1))), (2, .int (iI (ppL fb fs fq))), (0, .ref qF)]) hx hb dX1_parsePair_57 rfl hl (by decide) rfl (fun ls hl => ?_)
        refine lv_aload_n hx hb dX1_parsePair_58 rfl (lv_at hl 2 rfl) ?_
        have hf_10 := nmF_in (fb := fb) (fs := fs) (q0 := (ppM fb fs fq + 1)) (by omega)
        have hPc := hP.sub (ws' := [(qF, .inr (1, [.ref qFb, .ref qFl, .ref qFa, .int (iI (fs)), .int (iI (fp)), .int (iI (ppM fb fs fq + 1))])), (qFb, .inl (cyI, 60, .inl (xA (fb))))]) [0, 1] rfl
        have hDc := hD.sub (ws' := [(qF, .inr (1, [.ref qFb, .ref qFl, .ref qFa, .int (iI (fs)), .int (iI (fp)), .int (iI (ppM fb fs fq + 1))])), (qFb, .inl (cyI, 60, .inl (xA (fb))))]) [0, 1] (by decide) rfl
        have hFc := va_free (wc := [(qF, .inr (1, [.ref qFb, .ref qFl, .ref qFa, .int (iI (fs)), .int (iI (fp)), .int (iI (ppM fb fs fq + 1))])), (qFb, .inl (cyI, 60, .inl (xA (fb))))]) hD hS hA [0, 1] rfl
        refine va_calli (va_runV (As := []) (rest := []) ⟨hx, hb, hml, hown, hts⟩ (c_X1_parseNumber l D cyI cyJ cyO qF qFb qFl qFa fs fp (ppM fb fs fq + 1) fb H.size (by first | exact h_fs | assumption | omega) (by first | exact h_fb | assumption | omega) (by first | exact h_fq | assumption | omega)) (cwV 0 hts gX1_parsePair_X1_parseNumber rfl rfl rfl (by decide +kernel) ⟨Nat.le_of_ble_eq_true rfl, Nat.le_of_ble_eq_true rfl⟩) (xpVM hPc hK hDc (ci := 1) (q0 := 0) (q := (RX1, TX1, 6)) rfl rfl) rfl rfl hl.1 rfl (lv_room (Nat.le_of_ble_eq_true rfl)) dX1_parsePair_59 ⟨Nat.le_of_ble_eq_true rfl, Nat.le_of_ble_eq_true rfl⟩) hS (fun q _ h => hFc q h) hFc (fun r_ u_11 t_ H1 locs ht_ hvm hw hB hz1 hk1 hS => ?_)
        obtain ⟨hP1, hK1, hD1⟩ := hB
        rw [ht_] at hP1
        obtain ⟨hP, hD⟩ := xj (wc := [(qF, .inr (1, [.ref qFb, .ref qFl, .ref qFa, .int (iI (fs)), .int (iI (fp)), .int (iI (ppM fb fs fq + 1))])), (qFb, .inl (cyI, 60, .inl (xA (fb))))]) (w1 := [(qF, .inr (1, [.ref qFb, .ref qFl, .ref qFa, .int (iI (fs)), .int (iI (fp)), .int (iI (ppM fb fs (ppM fb fs fq + 1)))])), (qFb, .inl (cyI, 60, .inl (xA (fb))))]) hP hD [0, 1] rfl rfl hk1 hP1
        generalize H1 = H at hP hS ⊢
        have hP : va_P D vwCl [(qF, .inr (1, [.ref qFb, .ref qFl, .ref qFa, .int (iI (fs)), .int (iI (fp)), .int (iI (ppM fb fs (ppM fb fs fq + 1)))])), (qFb, .inl (cyI, 60, .inl (xA (fb)))), (qFl, .inl (cyI, 6, .inl (xA (fl)))), (qFa, .inl (cyI, 6, .inl (xA (fa))))] H := hP
        have hD : va_D A [(qF, .inr (1, [.ref qFb, .ref qFl, .ref qFa, .int (iI (fs)), .int (iI (fp)), .int (iI (ppM fb fs (ppM fb fs fq + 1)))])), (qFb, .inl (cyI, 60, .inl (xA (fb)))), (qFl, .inl (cyI, 6, .inl (xA (fl)))), (qFa, .inl (cyI, 6, .inl (xA (fa))))] := hD
        obtain ⟨hre, hw_12⟩ := hw
        have hw_12 : True := hw_12
        rw [show r_ = iI (ppL fb fs (ppM fb fs fq + 1)) from hre]
        refine lv_istore_n (lv' := [(3, .int (iI (ppL fb fs (ppM fb fs fq + 1)))), (1, .int (iI (ppM fb fs fq + 1))), (2, .int (iI (ppL fb fs fq))), (0, .ref qF)]) hx hb dX1_parsePair_62 rfl hl (by decide) rfl (fun ls hl => ?_)
        refine lv_iload_n hx hb dX1_parsePair_63 rfl (lv_at hl 0 rfl) ?_
        refine xi_const hx hb dX1_parsePair_64 ?_
        refine xb_icmp_eq (tgt := 90) hx hb dX1_parsePair_65 (by decide) (by omega) (fun h_13 => ?_) (fun h_13 => ?_)
        · refine lv_iload_n hx hb dX1_parsePair_90 rfl (lv_at hl 1 rfl) ?_
          have hV := ppV_3 (fb := fb) (fs := fs) (q := fq) (n := fp) (fl := fl) (fa := fa) hc1 hcc (by unfold ppA; omega)
          have he0 : (ppM fb fs (ppM fb fs fq + 1) : Int) = ((ppM fb fs (ppM fb fs fq + 1))) := by first | rfl | omega
          have hW8 := congrArg (fun (xv0 : Int) => ([(qF, .inr (1, [.ref qFb, .ref qFl, .ref qFa, .int (iI (fs)), .int (iI (fp)), .int (iI (xv0))])), (qFb, .inl (cyI, 60, .inl (xA (fb)))), (qFl, .inl (cyI, 6, .inl (xA (fl)))), (qFa, .inl (cyI, 6, .inl (xA (fa))))] : va_W)) he0
          have hW9 : ([(qF, .inr (1, [.ref qFb, .ref qFl, .ref qFa, .int (iI (fs)), .int (iI (fp)), .int (iI (ppM fb fs (ppM fb fs fq + 1)))])), (qFb, .inl (cyI, 60, .inl (xA (fb)))), (qFl, .inl (cyI, 6, .inl (xA (fl)))), (qFa, .inl (cyI, 6, .inl (xA (fa))))] : va_W) = [(qF, .inr (1, [.ref qFb, .ref qFl, .ref qFa, .int (iI (fs)), .int (iI (fp)), .int (iI ((ppM fb fs (ppM fb fs fq + 1))))])), (qFb, .inl (cyI, 60, .inl (xA (fb)))), (qFl, .inl (cyI, 6, .inl (xA (fl)))), (qFa, .inl (cyI, 6, .inl (xA (fa))))] := hW8
          rw [hW9] at hP hD
          exact W.iret (v := iI (ppM fb fs fq + 1)) hx hb hr (fun t_ ht_ hW_ => ⟨⟨_, (ppM fb fs (ppM fb fs fq + 1), fl, fa), rfl, ⟨(congrArg iI (show (ppM fb fs fq + 1) = (ppV fb fs fq fp fl fa) from by rw [hV]; try omega)), ⟨(show fq ≤ (ppM fb fs (ppM fb fs fq + 1)) ∧ (ppM fb fs (ppM fb fs fq + 1)) ≤ fs from by omega), (show ppV fb fs fq fp fl fa = -1 → (ppM fb fs (ppM fb fs fq + 1)) = ppQ fb fs fq ∧ fl = uz fl fp (ppL fb fs fq) ∧ fa = uz fa fp (ppA fb fs fq) from by rw [hV]; first | (intro h; exfalso; omega) | (intro _; exact ⟨rfl, rfl, rfl⟩)), (show ppV fb fs fq fp fl fa ≠ -1 → fl = fl ∧ fa = fa from by rw [hV]; first | (intro _; exact ⟨rfl, rfl⟩) | (intro h; exact absurd rfl h)), (show ∀ j, 0 ≤ fl j ∧ fl j ≤ 999 from by first | assumption | exact uz_in h_fl (by omega)), (show ∀ j, 0 ≤ fa j ∧ fa j ≤ 999 from by first | assumption | exact uz_in h_fa (by omega))⟩⟩, by rw [ht_]; exact hP, va_K.moved hW_.alike hK, hD⟩, hS.F ht_⟩) hS.2.2 dX1_parsePair_91
        · refine lv_aload_n hx hb dX1_parsePair_68 rfl (lv_at hl 3 rfl) ?_
          refine va_get (D := D) (ci := 1) (C := RX1) (T := TX1) (N := 6) hx hb hts hcX1 hown hK hP 0 rfl rfl 4 (by decide) (hts (.fieldLink RX1 25 "WallMarks$Flows" "pairs" "I") (List.mem_of_getElem? (i := 2) (by decide +kernel))) (fun _ h9 => h9) rfl dX1_parsePair_69 ?_
          refine xb_if_le (tgt := 92) hx hb dX1_parsePair_72 (by decide) (by omega) (fun h_14 => ?_) (fun h_14 => ?_)
          · refine lv_aload_n hx hb dX1_parsePair_92 rfl (lv_at hl 3 rfl) ?_
            refine va_get (D := D) (ci := 1) (C := RX1) (T := TX1) (N := 6) hx hb hts hcX1 hown hK hP 0 rfl rfl 1 (by decide) (hts (.fieldLink RX1 15 "WallMarks$Flows" "levels" "[I") (List.mem_of_getElem? (i := 3) (by decide +kernel))) (fun _ h9 => h9) rfl dX1_parsePair_93 ?_
            refine lv_aload_n hx hb dX1_parsePair_96 rfl (lv_at hl 3 rfl) ?_
            refine va_get (D := D) (ci := 1) (C := RX1) (T := TX1) (N := 6) hx hb hts hcX1 hown hK hP 0 rfl rfl 4 (by decide) (hts (.fieldLink RX1 25 "WallMarks$Flows" "pairs" "I") (List.mem_of_getElem? (i := 2) (by decide +kernel))) (fun _ h9 => h9) rfl dX1_parsePair_97 ?_
            refine lv_iload_n hx hb dX1_parsePair_100 rfl (lv_at hl 2 rfl) ?_
            refine xi_ast (D := D) hx hb hK hP hD hS 2 0 rfl rfl (by decide) (by omega) dX1_parsePair_101 (fun H locs hP hD hS => ?_)
            have hP : va_P D vwCl [(qF, .inr (1, [.ref qFb, .ref qFl, .ref qFa, .int (iI (fs)), .int (iI (fp)), .int (iI (ppM fb fs (ppM fb fs fq + 1)))])), (qFb, .inl (cyI, 60, .inl (xA (fb)))), (qFl, .inl (cyI, 6, .inl (xA (uz fl (fp) (ppL fb fs fq))))), (qFa, .inl (cyI, 6, .inl (xA (fa))))] H := hP
            have hD : va_D A [(qF, .inr (1, [.ref qFb, .ref qFl, .ref qFa, .int (iI (fs)), .int (iI (fp)), .int (iI (ppM fb fs (ppM fb fs fq + 1)))])), (qFb, .inl (cyI, 60, .inl (xA (fb)))), (qFl, .inl (cyI, 6, .inl (xA (uz fl (fp) (ppL fb fs fq))))), (qFa, .inl (cyI, 6, .inl (xA (fa))))] := hD
            refine lv_aload_n hx hb dX1_parsePair_102 rfl (lv_at hl 3 rfl) ?_
            refine va_get (D := D) (ci := 1) (C := RX1) (T := TX1) (N := 6) hx hb hts hcX1 hown hK hP 0 rfl rfl 2 (by decide) (hts (.fieldLink RX1 18 "WallMarks$Flows" "amounts" "[I") (List.mem_of_getElem? (i := 4) (by decide +kernel))) (fun _ h9 => h9) rfl dX1_parsePair_103 ?_
            refine lv_aload_n hx hb dX1_parsePair_106 rfl (lv_at hl 3 rfl) ?_
            refine va_get (D := D) (ci := 1) (C := RX1) (T := TX1) (N := 6) hx hb hts hcX1 hown hK hP 0 rfl rfl 4 (by decide) (hts (.fieldLink RX1 25 "WallMarks$Flows" "pairs" "I") (List.mem_of_getElem? (i := 2) (by decide +kernel))) (fun _ h9 => h9) rfl dX1_parsePair_107 ?_
            refine lv_iload_n hx hb dX1_parsePair_110 rfl (lv_at hl 0 rfl) ?_
            refine xi_ast (D := D) hx hb hK hP hD hS 3 0 rfl rfl (by decide) (by omega) dX1_parsePair_111 (fun H locs hP hD hS => ?_)
            have hP : va_P D vwCl [(qF, .inr (1, [.ref qFb, .ref qFl, .ref qFa, .int (iI (fs)), .int (iI (fp)), .int (iI (ppM fb fs (ppM fb fs fq + 1)))])), (qFb, .inl (cyI, 60, .inl (xA (fb)))), (qFl, .inl (cyI, 6, .inl (xA (uz fl (fp) (ppL fb fs fq))))), (qFa, .inl (cyI, 6, .inl (xA (uz fa (fp) (ppL fb fs (ppM fb fs fq + 1))))))] H := hP
            have hD : va_D A [(qF, .inr (1, [.ref qFb, .ref qFl, .ref qFa, .int (iI (fs)), .int (iI (fp)), .int (iI (ppM fb fs (ppM fb fs fq + 1)))])), (qFb, .inl (cyI, 60, .inl (xA (fb)))), (qFl, .inl (cyI, 6, .inl (xA (uz fl (fp) (ppL fb fs fq))))), (qFa, .inl (cyI, 6, .inl (xA (uz fa (fp) (ppL fb fs (ppM fb fs fq + 1))))))] := hD
            refine xi_const hx hb dX1_parsePair_112 ?_
            have hV := ppV_4 (fb := fb) (fs := fs) (q := fq) (n := fp) (fl := fl) (fa := fa) hc1 hcc (by unfold ppA; omega)
            have he0 : (ppM fb fs (ppM fb fs fq + 1) : Int) = ((ppM fb fs (ppM fb fs fq + 1))) := by first | rfl | omega
            have he1 : (uz fl (fp) (ppL fb fs fq) : Int → Int) = ((uz fl (fp) (ppL fb fs fq))) := by first | rfl | omega
            have he2 : (uz fa (fp) (ppL fb fs (ppM fb fs fq + 1)) : Int → Int) = ((uz fa (fp) (ppL fb fs (ppM fb fs fq + 1)))) := by first | rfl | omega
            have hW8 := congr (congr (congrArg (fun (xv0 : Int) (xv1 : Int → Int) (xv2 : Int → Int) => ([(qF, .inr (1, [.ref qFb, .ref qFl, .ref qFa, .int (iI (fs)), .int (iI (fp)), .int (iI (xv0))])), (qFb, .inl (cyI, 60, .inl (xA (fb)))), (qFl, .inl (cyI, 6, .inl (xA (xv1)))), (qFa, .inl (cyI, 6, .inl (xA (xv2))))] : va_W)) he0) he1) he2
            have hW9 : ([(qF, .inr (1, [.ref qFb, .ref qFl, .ref qFa, .int (iI (fs)), .int (iI (fp)), .int (iI (ppM fb fs (ppM fb fs fq + 1)))])), (qFb, .inl (cyI, 60, .inl (xA (fb)))), (qFl, .inl (cyI, 6, .inl (xA (uz fl (fp) (ppL fb fs fq))))), (qFa, .inl (cyI, 6, .inl (xA (uz fa (fp) (ppL fb fs (ppM fb fs fq + 1))))))] : va_W) = [(qF, .inr (1, [.ref qFb, .ref qFl, .ref qFa, .int (iI (fs)), .int (iI (fp)), .int (iI ((ppM fb fs (ppM fb fs fq + 1))))])), (qFb, .inl (cyI, 60, .inl (xA (fb)))), (qFl, .inl (cyI, 6, .inl (xA ((uz fl (fp) (ppL fb fs fq)))))), (qFa, .inl (cyI, 6, .inl (xA ((uz fa (fp) (ppL fb fs (ppM fb fs fq + 1)))))))] := hW8
            rw [hW9] at hP hD
            exact W.iret (v := iI (-1)) hx hb hr (fun t_ ht_ hW_ => ⟨⟨_, (ppM fb fs (ppM fb fs fq + 1), uz fl (fp) (ppL fb fs fq), uz fa (fp) (ppL fb fs (ppM fb fs fq + 1))), rfl, ⟨(congrArg iI (show (-1) = (ppV fb fs fq fp fl fa) from by rw [hV]; try omega)), ⟨(show fq ≤ (ppM fb fs (ppM fb fs fq + 1)) ∧ (ppM fb fs (ppM fb fs fq + 1)) ≤ fs from by omega), (show ppV fb fs fq fp fl fa = -1 → (ppM fb fs (ppM fb fs fq + 1)) = ppQ fb fs fq ∧ (uz fl (fp) (ppL fb fs fq)) = uz fl fp (ppL fb fs fq) ∧ (uz fa (fp) (ppL fb fs (ppM fb fs fq + 1))) = uz fa fp (ppA fb fs fq) from by rw [hV]; first | (intro h; exfalso; omega) | (intro _; exact ⟨rfl, rfl, rfl⟩)), (show ppV fb fs fq fp fl fa ≠ -1 → (uz fl (fp) (ppL fb fs fq)) = fl ∧ (uz fa (fp) (ppL fb fs (ppM fb fs fq + 1))) = fa from by rw [hV]; first | (intro _; exact ⟨rfl, rfl⟩) | (intro h; exact absurd rfl h)), (show ∀ j, 0 ≤ (uz fl (fp) (ppL fb fs fq)) j ∧ (uz fl (fp) (ppL fb fs fq)) j ≤ 999 from by first | assumption | exact uz_in h_fl (by omega)), (show ∀ j, 0 ≤ (uz fa (fp) (ppL fb fs (ppM fb fs fq + 1))) j ∧ (uz fa (fp) (ppL fb fs (ppM fb fs fq + 1))) j ≤ 999 from by first | assumption | exact uz_in h_fa (by omega))⟩⟩, by rw [ht_]; exact hP, va_K.moved hW_.alike hK, hD⟩, hS.F ht_⟩) hS.2.2 dX1_parsePair_113
          · refine lv_iload_n hx hb dX1_parsePair_75 rfl (lv_at hl 0 rfl) ?_
            refine lv_aload_n hx hb dX1_parsePair_76 rfl (lv_at hl 3 rfl) ?_
            refine va_get (D := D) (ci := 1) (C := RX1) (T := TX1) (N := 6) hx hb hts hcX1 hown hK hP 0 rfl rfl 2 (by decide) (hts (.fieldLink RX1 18 "WallMarks$Flows" "amounts" "[I") (List.mem_of_getElem? (i := 4) (by decide +kernel))) (fun _ h9 => h9) rfl dX1_parsePair_77 ?_
            refine lv_aload_n hx hb dX1_parsePair_80 rfl (lv_at hl 3 rfl) ?_
            refine va_get (D := D) (ci := 1) (C := RX1) (T := TX1) (N := 6) hx hb hts hcX1 hown hK hP 0 rfl rfl 4 (by decide) (hts (.fieldLink RX1 25 "WallMarks$Flows" "pairs" "I") (List.mem_of_getElem? (i := 2) (by decide +kernel))) (fun _ h9 => h9) rfl dX1_parsePair_81 ?_
            refine xi_const hx hb dX1_parsePair_84 ?_
            refine xi_sub hx hb dX1_parsePair_85 ?_
            have hr_a := h_fa (fp - 1)
            refine xi_ald (D := D) hx hb hK hP 3 0 rfl rfl (by decide) (by omega) dX1_parsePair_86 ?_
            have hr_15 := h_fa (fp - 1)
            refine xb_icmp_ge (tgt := 92) hx hb dX1_parsePair_87 (by decide) (by omega) (fun h_16 => ?_) (fun h_16 => ?_)
            · refine lv_aload_n hx hb dX1_parsePair_92 rfl (lv_at hl 3 rfl) ?_
              refine va_get (D := D) (ci := 1) (C := RX1) (T := TX1) (N := 6) hx hb hts hcX1 hown hK hP 0 rfl rfl 1 (by decide) (hts (.fieldLink RX1 15 "WallMarks$Flows" "levels" "[I") (List.mem_of_getElem? (i := 3) (by decide +kernel))) (fun _ h9 => h9) rfl dX1_parsePair_93 ?_
              refine lv_aload_n hx hb dX1_parsePair_96 rfl (lv_at hl 3 rfl) ?_
              refine va_get (D := D) (ci := 1) (C := RX1) (T := TX1) (N := 6) hx hb hts hcX1 hown hK hP 0 rfl rfl 4 (by decide) (hts (.fieldLink RX1 25 "WallMarks$Flows" "pairs" "I") (List.mem_of_getElem? (i := 2) (by decide +kernel))) (fun _ h9 => h9) rfl dX1_parsePair_97 ?_
              refine lv_iload_n hx hb dX1_parsePair_100 rfl (lv_at hl 2 rfl) ?_
              refine xi_ast (D := D) hx hb hK hP hD hS 2 0 rfl rfl (by decide) (by omega) dX1_parsePair_101 (fun H locs hP hD hS => ?_)
              have hP : va_P D vwCl [(qF, .inr (1, [.ref qFb, .ref qFl, .ref qFa, .int (iI (fs)), .int (iI (fp)), .int (iI (ppM fb fs (ppM fb fs fq + 1)))])), (qFb, .inl (cyI, 60, .inl (xA (fb)))), (qFl, .inl (cyI, 6, .inl (xA (uz fl (fp) (ppL fb fs fq))))), (qFa, .inl (cyI, 6, .inl (xA (fa))))] H := hP
              have hD : va_D A [(qF, .inr (1, [.ref qFb, .ref qFl, .ref qFa, .int (iI (fs)), .int (iI (fp)), .int (iI (ppM fb fs (ppM fb fs fq + 1)))])), (qFb, .inl (cyI, 60, .inl (xA (fb)))), (qFl, .inl (cyI, 6, .inl (xA (uz fl (fp) (ppL fb fs fq))))), (qFa, .inl (cyI, 6, .inl (xA (fa))))] := hD
              refine lv_aload_n hx hb dX1_parsePair_102 rfl (lv_at hl 3 rfl) ?_
              refine va_get (D := D) (ci := 1) (C := RX1) (T := TX1) (N := 6) hx hb hts hcX1 hown hK hP 0 rfl rfl 2 (by decide) (hts (.fieldLink RX1 18 "WallMarks$Flows" "amounts" "[I") (List.mem_of_getElem? (i := 4) (by decide +kernel))) (fun _ h9 => h9) rfl dX1_parsePair_103 ?_
              refine lv_aload_n hx hb dX1_parsePair_106 rfl (lv_at hl 3 rfl) ?_
              refine va_get (D := D) (ci := 1) (C := RX1) (T := TX1) (N := 6) hx hb hts hcX1 hown hK hP 0 rfl rfl 4 (by decide) (hts (.fieldLink RX1 25 "WallMarks$Flows" "pairs" "I") (List.mem_of_getElem? (i := 2) (by decide +kernel))) (fun _ h9 => h9) rfl dX1_parsePair_107 ?_
              refine lv_iload_n hx hb dX1_parsePair_110 rfl (lv_at hl 0 rfl) ?_
              refine xi_ast (D := D) hx hb hK hP hD hS 3 0 rfl rfl (by decide) (by omega) dX1_parsePair_111 (fun H locs hP hD hS => ?_)
              have hP : va_P D vwCl [(qF, .inr (1, [.ref qFb, .ref qFl, .ref qFa, .int (iI (fs)), .int (iI (fp)), .int (iI (ppM fb fs (ppM fb fs fq + 1)))])), (qFb, .inl (cyI, 60, .inl (xA (fb)))), (qFl, .inl (cyI, 6, .inl (xA (uz fl (fp) (ppL fb fs fq))))), (qFa, .inl (cyI, 6, .inl (xA (uz fa (fp) (ppL fb fs (ppM fb fs fq + 1))))))] H := hP
              have hD : va_D A [(qF, .inr (1, [.ref qFb, .ref qFl, .ref qFa, .int (iI (fs)), .int (iI (fp)), .int (iI (ppM fb fs (ppM fb fs fq + 1)))])), (qFb, .inl (cyI, 60, .inl (xA (fb)))), (qFl, .inl (cyI, 6, .inl (xA (uz fl (fp) (ppL fb fs fq))))), (qFa, .inl (cyI, 6, .inl (xA (uz fa (fp) (ppL fb fs (ppM fb fs fq + 1))))))] := hD
              refine xi_const hx hb dX1_parsePair_112 ?_
              have hV := ppV_4 (fb := fb) (fs := fs) (q := fq) (n := fp) (fl := fl) (fa := fa) hc1 hcc (by unfold ppA; omega)
              have he0 : (ppM fb fs (ppM fb fs fq + 1) : Int) = ((ppM fb fs (ppM fb fs fq + 1))) := by first | rfl | omega
              have he1 : (uz fl (fp) (ppL fb fs fq) : Int → Int) = ((uz fl (fp) (ppL fb fs fq))) := by first | rfl | omega
              have he2 : (uz fa (fp) (ppL fb fs (ppM fb fs fq + 1)) : Int → Int) = ((uz fa (fp) (ppL fb fs (ppM fb fs fq + 1)))) := by first | rfl | omega
              have hW8 := congr (congr (congrArg (fun (xv0 : Int) (xv1 : Int → Int) (xv2 : Int → Int) => ([(qF, .inr (1, [.ref qFb, .ref qFl, .ref qFa, .int (iI (fs)), .int (iI (fp)), .int (iI (xv0))])), (qFb, .inl (cyI, 60, .inl (xA (fb)))), (qFl, .inl (cyI, 6, .inl (xA (xv1)))), (qFa, .inl (cyI, 6, .inl (xA (xv2))))] : va_W)) he0) he1) he2
              have hW9 : ([(qF, .inr (1, [.ref qFb, .ref qFl, .ref qFa, .int (iI (fs)), .int (iI (fp)), .int (iI (ppM fb fs (ppM fb fs fq + 1)))])), (qFb, .inl (cyI, 60, .inl (xA (fb)))), (qFl, .inl (cyI, 6, .inl (xA (uz fl (fp) (ppL fb fs fq))))), (qFa, .inl (cyI, 6, .inl (xA (uz fa (fp) (ppL fb fs (ppM fb fs fq + 1))))))] : va_W) = [(qF, .inr (1, [.ref qFb, .ref qFl, .ref qFa, .int (iI (fs)), .int (iI (fp)), .int (iI ((ppM fb fs (ppM fb fs fq + 1))))])), (qFb, .inl (cyI, 60, .inl (xA (fb)))), (qFl, .inl (cyI, 6, .inl (xA ((uz fl (fp) (ppL fb fs fq)))))), (qFa, .inl (cyI, 6, .inl (xA ((uz fa (fp) (ppL fb fs (ppM fb fs fq + 1)))))))] := hW8
              rw [hW9] at hP hD
              exact W.iret (v := iI (-1)) hx hb hr (fun t_ ht_ hW_ => ⟨⟨_, (ppM fb fs (ppM fb fs fq + 1), uz fl (fp) (ppL fb fs fq), uz fa (fp) (ppL fb fs (ppM fb fs fq + 1))), rfl, ⟨(congrArg iI (show (-1) = (ppV fb fs fq fp fl fa) from by rw [hV]; try omega)), ⟨(show fq ≤ (ppM fb fs (ppM fb fs fq + 1)) ∧ (ppM fb fs (ppM fb fs fq + 1)) ≤ fs from by omega), (show ppV fb fs fq fp fl fa = -1 → (ppM fb fs (ppM fb fs fq + 1)) = ppQ fb fs fq ∧ (uz fl (fp) (ppL fb fs fq)) = uz fl fp (ppL fb fs fq) ∧ (uz fa (fp) (ppL fb fs (ppM fb fs fq + 1))) = uz fa fp (ppA fb fs fq) from by rw [hV]; first | (intro h; exfalso; omega) | (intro _; exact ⟨rfl, rfl, rfl⟩)), (show ppV fb fs fq fp fl fa ≠ -1 → (uz fl (fp) (ppL fb fs fq)) = fl ∧ (uz fa (fp) (ppL fb fs (ppM fb fs fq + 1))) = fa from by rw [hV]; first | (intro _; exact ⟨rfl, rfl⟩) | (intro h; exact absurd rfl h)), (show ∀ j, 0 ≤ (uz fl (fp) (ppL fb fs fq)) j ∧ (uz fl (fp) (ppL fb fs fq)) j ≤ 999 from by first | assumption | exact uz_in h_fl (by omega)), (show ∀ j, 0 ≤ (uz fa (fp) (ppL fb fs (ppM fb fs fq + 1))) j ∧ (uz fa (fp) (ppL fb fs (ppM fb fs fq + 1))) j ≤ 999 from by first | assumption | exact uz_in h_fa (by omega))⟩⟩, by rw [ht_]; exact hP, va_K.moved hW_.alike hK, hD⟩, hS.F ht_⟩) hS.2.2 dX1_parsePair_113
            · refine lv_iload_n hx hb dX1_parsePair_90 rfl (lv_at hl 1 rfl) ?_
              have hV := ppV_3 (fb := fb) (fs := fs) (q := fq) (n := fp) (fl := fl) (fa := fa) hc1 hcc (by unfold ppA; omega)
              have he0 : (ppM fb fs (ppM fb fs fq + 1) : Int) = ((ppM fb fs (ppM fb fs fq + 1))) := by first | rfl | omega
              have hW8 := congrArg (fun (xv0 : Int) => ([(qF, .inr (1, [.ref qFb, .ref qFl, .ref qFa, .int (iI (fs)), .int (iI (fp)), .int (iI (xv0))])), (qFb, .inl (cyI, 60, .inl (xA (fb)))), (qFl, .inl (cyI, 6, .inl (xA (fl)))), (qFa, .inl (cyI, 6, .inl (xA (fa))))] : va_W)) he0
              have hW9 : ([(qF, .inr (1, [.ref qFb, .ref qFl, .ref qFa, .int (iI (fs)), .int (iI (fp)), .int (iI (ppM fb fs (ppM fb fs fq + 1)))])), (qFb, .inl (cyI, 60, .inl (xA (fb)))), (qFl, .inl (cyI, 6, .inl (xA (fl)))), (qFa, .inl (cyI, 6, .inl (xA (fa))))] : va_W) = [(qF, .inr (1, [.ref qFb, .ref qFl, .ref qFa, .int (iI (fs)), .int (iI (fp)), .int (iI ((ppM fb fs (ppM fb fs fq + 1))))])), (qFb, .inl (cyI, 60, .inl (xA (fb)))), (qFl, .inl (cyI, 6, .inl (xA (fl)))), (qFa, .inl (cyI, 6, .inl (xA (fa))))] := hW8
              rw [hW9] at hP hD
              exact W.iret (v := iI (ppM fb fs fq + 1)) hx hb hr (fun t_ ht_ hW_ => ⟨⟨_, (ppM fb fs (ppM fb fs fq + 1), fl, fa), rfl, ⟨(congrArg iI (show (ppM fb fs fq + 1) = (ppV fb fs fq fp fl fa) from by rw [hV]; try omega)), ⟨(show fq ≤ (ppM fb fs (ppM fb fs fq + 1)) ∧ (ppM fb fs (ppM fb fs fq + 1)) ≤ fs from by omega), (show ppV fb fs fq fp fl fa = -1 → (ppM fb fs (ppM fb fs fq + 1)) = ppQ fb fs fq ∧ fl = uz fl fp (ppL fb fs fq) ∧ fa = uz fa fp (ppA fb fs fq) from by rw [hV]; first | (intro h; exfalso; omega) | (intro _; exact ⟨rfl, rfl, rfl⟩)), (show ppV fb fs fq fp fl fa ≠ -1 → fl = fl ∧ fa = fa from by rw [hV]; first | (intro _; exact ⟨rfl, rfl⟩) | (intro h; exact absurd rfl h)), (show ∀ j, 0 ≤ fl j ∧ fl j ≤ 999 from by first | assumption | exact uz_in h_fl (by omega)), (show ∀ j, 0 ≤ fa j ∧ fa j ≤ 999 from by first | assumption | exact uz_in h_fa (by omega))⟩⟩, by rw [ht_]; exact hP, va_K.moved hW_.alike hK, hD⟩, hS.F ht_⟩) hS.2.2 dX1_parsePair_91
      · refine lv_aload_n hx hb dX1_parsePair_48 rfl (lv_at hl 2 rfl) ?_
        refine va_get (D := D) (ci := 1) (C := RX1) (T := TX1) (N := 6) hx hb hts hcX1 hown hK hP 0 rfl rfl 5 (by decide) (hts (.fieldLink RX1 28 "WallMarks$Flows" "place" "I") (List.mem_of_getElem? (i := 1) (by decide +kernel))) (fun _ h9 => h9) rfl dX1_parsePair_49 ?_
        have hV := ppV_2 (fb := fb) (fs := fs) (q := fq) (n := fp) (fl := fl) (fa := fa) (by omega) (by assumption)
        have hq8 := hps2 (by assumption)
        exact W.iret (v := iI (q1_7)) hx hb hr (fun t_ ht_ hW_ => ⟨⟨_, (q1_7, fl, fa), rfl, ⟨(congrArg iI (show (q1_7) = (ppV fb fs fq fp fl fa) from by rw [hV]; try omega)), ⟨(show fq ≤ q1_7 ∧ q1_7 ≤ fs from by omega), (show ppV fb fs fq fp fl fa = -1 → q1_7 = ppQ fb fs fq ∧ fl = uz fl fp (ppL fb fs fq) ∧ fa = uz fa fp (ppA fb fs fq) from by rw [hV]; first | (intro h; exfalso; omega) | (intro _; exact ⟨rfl, rfl, rfl⟩)), (show ppV fb fs fq fp fl fa ≠ -1 → fl = fl ∧ fa = fa from by rw [hV]; first | (intro _; exact ⟨rfl, rfl⟩) | (intro h; exact absurd rfl h)), (show ∀ j, 0 ≤ fl j ∧ fl j ≤ 999 from by first | assumption | exact uz_in h_fl (by omega)), (show ∀ j, 0 ≤ fa j ∧ fa j ≤ 999 from by first | assumption | exact uz_in h_fa (by omega))⟩⟩, by rw [ht_]; exact hP, va_K.moved hW_.alike hK, hD⟩, hS.F ht_⟩) hS.2.2 dX1_parsePair_52
    · refine lv_iload_n hx hb dX1_parsePair_22 rfl (lv_at hl 0 rfl) ?_
      refine lv_aload_n hx hb dX1_parsePair_23 rfl (lv_at hl 2 rfl) ?_
      refine va_get (D := D) (ci := 1) (C := RX1) (T := TX1) (N := 6) hx hb hts hcX1 hown hK hP 0 rfl rfl 1 (by decide) (hts (.fieldLink RX1 15 "WallMarks$Flows" "levels" "[I") (List.mem_of_getElem? (i := 3) (by decide +kernel))) (fun _ h9 => h9) rfl dX1_parsePair_24 ?_
      refine lv_aload_n hx hb dX1_parsePair_27 rfl (lv_at hl 2 rfl) ?_
      refine va_get (D := D) (ci := 1) (C := RX1) (T := TX1) (N := 6) hx hb hts hcX1 hown hK hP 0 rfl rfl 4 (by decide) (hts (.fieldLink RX1 25 "WallMarks$Flows" "pairs" "I") (List.mem_of_getElem? (i := 2) (by decide +kernel))) (fun _ h9 => h9) rfl dX1_parsePair_28 ?_
      refine xi_const hx hb dX1_parsePair_31 ?_
      refine xi_sub hx hb dX1_parsePair_32 ?_
      have hr_l := h_fl (fp - 1)
      refine xi_ald (D := D) hx hb hK hP 2 0 rfl rfl (by decide) (by omega) dX1_parsePair_33 ?_
      have hr_17 := h_fl (fp - 1)
      refine xb_icmp_gt (tgt := 39) hx hb dX1_parsePair_34 (by decide) (by omega) (fun h_18 => ?_) (fun h_18 => ?_)
      · refine lv_aload_n hx hb dX1_parsePair_39 rfl (lv_at hl 2 rfl) ?_
        refine xi_bipush hx hb dX1_parsePair_40 (by decide +kernel) ?_
        have hPc := hP.sub (ws' := [(qF, .inr (1, [.ref qFb, .ref qFl, .ref qFa, .int (iI (fs)), .int (iI (fp)), .int (iI (ppM fb fs fq))])), (qFb, .inl (cyI, 60, .inl (xA (fb))))]) [0, 1] rfl
        have hDc := hD.sub (ws' := [(qF, .inr (1, [.ref qFb, .ref qFl, .ref qFa, .int (iI (fs)), .int (iI (fp)), .int (iI (ppM fb fs fq))])), (qFb, .inl (cyI, 60, .inl (xA (fb))))]) [0, 1] (by decide) rfl
        have hFc := va_free (wc := [(qF, .inr (1, [.ref qFb, .ref qFl, .ref qFa, .int (iI (fs)), .int (iI (fp)), .int (iI (ppM fb fs fq))])), (qFb, .inl (cyI, 60, .inl (xA (fb))))]) hD hS hA [0, 1] rfl
        refine va_calli (va_runV (As := [.int (iI (58))]) (rest := []) ⟨hx, hb, hml, hown, hts⟩ (c_X1_passes l D cyI cyJ cyO qF qFb qFl qFa fs fp (ppM fb fs fq) fb H.size 58 (by first | exact h_fs | assumption | omega) (by first | exact h_fb | assumption | omega) (by first | exact h_fq | assumption | omega) (by first | exact h_sg | assumption | omega)) (cwV 1 hts gX1_parsePair_X1_passes rfl rfl rfl (by decide +kernel) ⟨Nat.le_of_ble_eq_true rfl, Nat.le_of_ble_eq_true rfl⟩) (xpVM hPc hK hDc (ci := 1) (q0 := 0) (q := (RX1, TX1, 6)) rfl rfl) rfl rfl hl.1 rfl (lv_room (Nat.le_of_ble_eq_true rfl)) dX1_parsePair_42 ⟨Nat.le_of_ble_eq_true rfl, Nat.le_of_ble_eq_true rfl⟩) hS (fun q _ h => hFc q h) hFc (fun r_ u_19 t_ H1 locs ht_ hvm hw hB hz1 hk1 hS => ?_)
        obtain ⟨q1_20, rfl⟩ : ∃ z, z = u_19 := ⟨_, rfl⟩
        obtain ⟨hP1, hK1, hD1⟩ := hB
        rw [ht_] at hP1
        obtain ⟨hP, hD⟩ := xj (wc := [(qF, .inr (1, [.ref qFb, .ref qFl, .ref qFa, .int (iI (fs)), .int (iI (fp)), .int (iI (ppM fb fs fq))])), (qFb, .inl (cyI, 60, .inl (xA (fb))))]) (w1 := [(qF, .inr (1, [.ref qFb, .ref qFl, .ref qFa, .int (iI (fs)), .int (iI (fp)), .int (iI (q1_20))])), (qFb, .inl (cyI, 60, .inl (xA (fb))))]) hP hD [0, 1] rfl rfl hk1 hP1
        generalize H1 = H at hP hS ⊢
        have hP : va_P D vwCl [(qF, .inr (1, [.ref qFb, .ref qFl, .ref qFa, .int (iI (fs)), .int (iI (fp)), .int (iI (q1_20))])), (qFb, .inl (cyI, 60, .inl (xA (fb)))), (qFl, .inl (cyI, 6, .inl (xA (fl)))), (qFa, .inl (cyI, 6, .inl (xA (fa))))] H := hP
        have hD : va_D A [(qF, .inr (1, [.ref qFb, .ref qFl, .ref qFa, .int (iI (fs)), .int (iI (fp)), .int (iI (q1_20))])), (qFb, .inl (cyI, 60, .inl (xA (fb)))), (qFl, .inl (cyI, 6, .inl (xA (fl)))), (qFa, .inl (cyI, 6, .inl (xA (fa))))] := hD
        obtain ⟨hre, hw_21⟩ := hw
        have hw_21 : (((ppM fb fs fq) < fs ∧ fb (ppM fb fs fq) = 58 → q1_20 = (ppM fb fs fq) + 1) ∧ (¬ ((ppM fb fs fq) < fs ∧ fb (ppM fb fs fq) = 58) → q1_20 = (ppM fb fs fq))) := hw_21
        rw [show r_ = iI (b2 ((ppM fb fs fq) < fs ∧ fb (ppM fb fs fq) = 58)) from hre]
        obtain ⟨hps1, hps2⟩ := hw_21
        refine xb_if_neB (tgt := 53) hx hb dX1_parsePair_45 (by decide) (fun h_22 => ?_) (fun h_22 => ?_)
        · have hcc : ppM fb fs fq < fs ∧ fb (ppM fb fs fq) = 58 := by assumption
          obtain rfl : q1_20 = ppM fb fs fq + 1 := by exact hps1 hcc
          have hc1 : ¬ (ppL fb fs fq = -1 ∨ (0 < fp ∧ ppL fb fs fq ≤ fl (fp - 1))) := by omega
          refine lv_aload_n hx hb dX1_parsePair_53 rfl (lv_at hl 2 rfl) ?_
          refine va_get (D := D) (ci := 1) (C := RX1) (T := TX1) (N := 6) hx hb hts hcX1 hown hK hP 0 rfl rfl 5 (by decide) (hts (.fieldLink RX1 28 "WallMarks$Flows" "place" "I") (List.mem_of_getElem? (i := 1) (by decide +kernel))) (fun _ h9 => h9) rfl dX1_parsePair_54 ?_
          refine lv_istore_n (lv' := [(1, .int (iI (ppM fb fs fq + 1))), (2, .int (iI (ppL fb fs fq))), (0, .ref qF)]) hx hb dX1_parsePair_57 rfl hl (by decide) rfl (fun ls hl => ?_)
          refine lv_aload_n hx hb dX1_parsePair_58 rfl (lv_at hl 2 rfl) ?_
          have hf_23 := nmF_in (fb := fb) (fs := fs) (q0 := (ppM fb fs fq + 1)) (by omega)
          have hPc := hP.sub (ws' := [(qF, .inr (1, [.ref qFb, .ref qFl, .ref qFa, .int (iI (fs)), .int (iI (fp)), .int (iI (ppM fb fs fq + 1))])), (qFb, .inl (cyI, 60, .inl (xA (fb))))]) [0, 1] rfl
          have hDc := hD.sub (ws' := [(qF, .inr (1, [.ref qFb, .ref qFl, .ref qFa, .int (iI (fs)), .int (iI (fp)), .int (iI (ppM fb fs fq + 1))])), (qFb, .inl (cyI, 60, .inl (xA (fb))))]) [0, 1] (by decide) rfl
          have hFc := va_free (wc := [(qF, .inr (1, [.ref qFb, .ref qFl, .ref qFa, .int (iI (fs)), .int (iI (fp)), .int (iI (ppM fb fs fq + 1))])), (qFb, .inl (cyI, 60, .inl (xA (fb))))]) hD hS hA [0, 1] rfl
          refine va_calli (va_runV (As := []) (rest := []) ⟨hx, hb, hml, hown, hts⟩ (c_X1_parseNumber l D cyI cyJ cyO qF qFb qFl qFa fs fp (ppM fb fs fq + 1) fb H.size (by first | exact h_fs | assumption | omega) (by first | exact h_fb | assumption | omega) (by first | exact h_fq | assumption | omega)) (cwV 0 hts gX1_parsePair_X1_parseNumber rfl rfl rfl (by decide +kernel) ⟨Nat.le_of_ble_eq_true rfl, Nat.le_of_ble_eq_true rfl⟩) (xpVM hPc hK hDc (ci := 1) (q0 := 0) (q := (RX1, TX1, 6)) rfl rfl) rfl rfl hl.1 rfl (lv_room (Nat.le_of_ble_eq_true rfl)) dX1_parsePair_59 ⟨Nat.le_of_ble_eq_true rfl, Nat.le_of_ble_eq_true rfl⟩) hS (fun q _ h => hFc q h) hFc (fun r_ u_24 t_ H1 locs ht_ hvm hw hB hz1 hk1 hS => ?_)
          obtain ⟨hP1, hK1, hD1⟩ := hB
          rw [ht_] at hP1
          obtain ⟨hP, hD⟩ := xj (wc := [(qF, .inr (1, [.ref qFb, .ref qFl, .ref qFa, .int (iI (fs)), .int (iI (fp)), .int (iI (ppM fb fs fq + 1))])), (qFb, .inl (cyI, 60, .inl (xA (fb))))]) (w1 := [(qF, .inr (1, [.ref qFb, .ref qFl, .ref qFa, .int (iI (fs)), .int (iI (fp)), .int (iI (ppM fb fs (ppM fb fs fq + 1)))])), (qFb, .inl (cyI, 60, .inl (xA (fb))))]) hP hD [0, 1] rfl rfl hk1 hP1
          generalize H1 = H at hP hS ⊢
          have hP : va_P D vwCl [(qF, .inr (1, [.ref qFb, .ref qFl, .ref qFa, .int (iI (fs)), .int (iI (fp)), .int (iI (ppM fb fs (ppM fb fs fq + 1)))])), (qFb, .inl (cyI, 60, .inl (xA (fb)))), (qFl, .inl (cyI, 6, .inl (xA (fl)))), (qFa, .inl (cyI, 6, .inl (xA (fa))))] H := hP
          have hD : va_D A [(qF, .inr (1, [.ref qFb, .ref qFl, .ref qFa, .int (iI (fs)), .int (iI (fp)), .int (iI (ppM fb fs (ppM fb fs fq + 1)))])), (qFb, .inl (cyI, 60, .inl (xA (fb)))), (qFl, .inl (cyI, 6, .inl (xA (fl)))), (qFa, .inl (cyI, 6, .inl (xA (fa))))] := hD
          obtain ⟨hre, hw_25⟩ := hw
          have hw_25 : True := hw_25
          rw [show r_ = iI (ppL fb fs (ppM fb fs fq + 1)) from hre]
          refine lv_istore_n (lv' := [(3, .int (iI (ppL fb fs (ppM fb fs fq + 1)))), (1, .int (iI (ppM fb fs fq + 1))), (2, .int (iI (ppL fb fs fq))), (0, .ref qF)]) hx hb dX1_parsePair_62 rfl hl (by decide) rfl (fun ls hl => ?_)
          refine lv_iload_n hx hb dX1_parsePair_63 rfl (lv_at hl 0 rfl) ?_
          refine xi_const hx hb dX1_parsePair_64 ?_
          refine xb_icmp_eq (tgt := 90) hx hb dX1_parsePair_65 (by decide) (by omega) (fun h_26 => ?_) (fun h_26 => ?_)
          · refine lv_iload_n hx hb dX1_parsePair_90 rfl (lv_at hl 1 rfl) ?_
            have hV := ppV_3 (fb := fb) (fs := fs) (q := fq) (n := fp) (fl := fl) (fa := fa) hc1 hcc (by unfold ppA; omega)
            have he0 : (ppM fb fs (ppM fb fs fq + 1) : Int) = ((ppM fb fs (ppM fb fs fq + 1))) := by first | rfl | omega
            have hW8 := congrArg (fun (xv0 : Int) => ([(qF, .inr (1, [.ref qFb, .ref qFl, .ref qFa, .int (iI (fs)), .int (iI (fp)), .int (iI (xv0))])), (qFb, .inl (cyI, 60, .inl (xA (fb)))), (qFl, .inl (cyI, 6, .inl (xA (fl)))), (qFa, .inl (cyI, 6, .inl (xA (fa))))] : va_W)) he0
            have hW9 : ([(qF, .inr (1, [.ref qFb, .ref qFl, .ref qFa, .int (iI (fs)), .int (iI (fp)), .int (iI (ppM fb fs (ppM fb fs fq + 1)))])), (qFb, .inl (cyI, 60, .inl (xA (fb)))), (qFl, .inl (cyI, 6, .inl (xA (fl)))), (qFa, .inl (cyI, 6, .inl (xA (fa))))] : va_W) = [(qF, .inr (1, [.ref qFb, .ref qFl, .ref qFa, .int (iI (fs)), .int (iI (fp)), .int (iI ((ppM fb fs (ppM fb fs fq + 1))))])), (qFb, .inl (cyI, 60, .inl (xA (fb)))), (qFl, .inl (cyI, 6, .inl (xA (fl)))), (qFa, .inl (cyI, 6, .inl (xA (fa))))] := hW8
            rw [hW9] at hP hD
            exact W.iret (v := iI (ppM fb fs fq + 1)) hx hb hr (fun t_ ht_ hW_ => ⟨⟨_, (ppM fb fs (ppM fb fs fq + 1), fl, fa), rfl, ⟨(congrArg iI (show (ppM fb fs fq + 1) = (ppV fb fs fq fp fl fa) from by rw [hV]; try omega)), ⟨(show fq ≤ (ppM fb fs (ppM fb fs fq + 1)) ∧ (ppM fb fs (ppM fb fs fq + 1)) ≤ fs from by omega), (show ppV fb fs fq fp fl fa = -1 → (ppM fb fs (ppM fb fs fq + 1)) = ppQ fb fs fq ∧ fl = uz fl fp (ppL fb fs fq) ∧ fa = uz fa fp (ppA fb fs fq) from by rw [hV]; first | (intro h; exfalso; omega) | (intro _; exact ⟨rfl, rfl, rfl⟩)), (show ppV fb fs fq fp fl fa ≠ -1 → fl = fl ∧ fa = fa from by rw [hV]; first | (intro _; exact ⟨rfl, rfl⟩) | (intro h; exact absurd rfl h)), (show ∀ j, 0 ≤ fl j ∧ fl j ≤ 999 from by first | assumption | exact uz_in h_fl (by omega)), (show ∀ j, 0 ≤ fa j ∧ fa j ≤ 999 from by first | assumption | exact uz_in h_fa (by omega))⟩⟩, by rw [ht_]; exact hP, va_K.moved hW_.alike hK, hD⟩, hS.F ht_⟩) hS.2.2 dX1_parsePair_91
          · refine lv_aload_n hx hb dX1_parsePair_68 rfl (lv_at hl 3 rfl) ?_
            refine va_get (D := D) (ci := 1) (C := RX1) (T := TX1) (N := 6) hx hb hts hcX1 hown hK hP 0 rfl rfl 4 (by decide) (hts (.fieldLink RX1 25 "WallMarks$Flows" "pairs" "I") (List.mem_of_getElem? (i := 2) (by decide +kernel))) (fun _ h9 => h9) rfl dX1_parsePair_69 ?_
            refine xb_if_le (tgt := 92) hx hb dX1_parsePair_72 (by decide) (by omega) (fun h_27 => ?_) (fun h_27 => ?_)
            · refine lv_aload_n hx hb dX1_parsePair_92 rfl (lv_at hl 3 rfl) ?_
              refine va_get (D := D) (ci := 1) (C := RX1) (T := TX1) (N := 6) hx hb hts hcX1 hown hK hP 0 rfl rfl 1 (by decide) (hts (.fieldLink RX1 15 "WallMarks$Flows" "levels" "[I") (List.mem_of_getElem? (i := 3) (by decide +kernel))) (fun _ h9 => h9) rfl dX1_parsePair_93 ?_
              refine lv_aload_n hx hb dX1_parsePair_96 rfl (lv_at hl 3 rfl) ?_
              refine va_get (D := D) (ci := 1) (C := RX1) (T := TX1) (N := 6) hx hb hts hcX1 hown hK hP 0 rfl rfl 4 (by decide) (hts (.fieldLink RX1 25 "WallMarks$Flows" "pairs" "I") (List.mem_of_getElem? (i := 2) (by decide +kernel))) (fun _ h9 => h9) rfl dX1_parsePair_97 ?_
              refine lv_iload_n hx hb dX1_parsePair_100 rfl (lv_at hl 2 rfl) ?_
              refine xi_ast (D := D) hx hb hK hP hD hS 2 0 rfl rfl (by decide) (by omega) dX1_parsePair_101 (fun H locs hP hD hS => ?_)
              have hP : va_P D vwCl [(qF, .inr (1, [.ref qFb, .ref qFl, .ref qFa, .int (iI (fs)), .int (iI (fp)), .int (iI (ppM fb fs (ppM fb fs fq + 1)))])), (qFb, .inl (cyI, 60, .inl (xA (fb)))), (qFl, .inl (cyI, 6, .inl (xA (uz fl (fp) (ppL fb fs fq))))), (qFa, .inl (cyI, 6, .inl (xA (fa))))] H := hP
              have hD : va_D A [(qF, .inr (1, [.ref qFb, .ref qFl, .ref qFa, .int (iI (fs)), .int (iI (fp)), .int (iI (ppM fb fs (ppM fb fs fq + 1)))])), (qFb, .inl (cyI, 60, .inl (xA (fb)))), (qFl, .inl (cyI, 6, .inl (xA (uz fl (fp) (ppL fb fs fq))))), (qFa, .inl (cyI, 6, .inl (xA (fa))))] := hD
              refine lv_aload_n hx hb dX1_parsePair_102 rfl (lv_at hl 3 rfl) ?_
              refine va_get (D := D) (ci := 1) (C := RX1) (T := TX1) (N := 6) hx hb hts hcX1 hown hK hP 0 rfl rfl 2 (by decide) (hts (.fieldLink RX1 18 "WallMarks$Flows" "amounts" "[I") (List.mem_of_getElem? (i := 4) (by decide +kernel))) (fun _ h9 => h9) rfl dX1_parsePair_103 ?_
              refine lv_aload_n hx hb dX1_parsePair_106 rfl (lv_at hl 3 rfl) ?_
              refine va_get (D := D) (ci := 1) (C := RX1) (T := TX1) (N := 6) hx hb hts hcX1 hown hK hP 0 rfl rfl 4 (by decide) (hts (.fieldLink RX1 25 "WallMarks$Flows" "pairs" "I") (List.mem_of_getElem? (i := 2) (by decide +kernel))) (fun _ h9 => h9) rfl dX1_parsePair_107 ?_
              refine lv_iload_n hx hb dX1_parsePair_110 rfl (lv_at hl 0 rfl) ?_
              refine xi_ast (D := D) hx hb hK hP hD hS 3 0 rfl rfl (by decide) (by omega) dX1_parsePair_111 (fun H locs hP hD hS => ?_)
              have hP : va_P D vwCl [(qF, .inr (1, [.ref qFb, .ref qFl, .ref qFa, .int (iI (fs)), .int (iI (fp)), .int (iI (ppM fb fs (ppM fb fs fq + 1)))])), (qFb, .inl (cyI, 60, .inl (xA (fb)))), (qFl, .inl (cyI, 6, .inl (xA (uz fl (fp) (ppL fb fs fq))))), (qFa, .inl (cyI, 6, .inl (xA (uz fa (fp) (ppL fb fs (ppM fb fs fq + 1))))))] H := hP
              have hD : va_D A [(qF, .inr (1, [.ref qFb, .ref qFl, .ref qFa, .int (iI (fs)), .int (iI (fp)), .int (iI (ppM fb fs (ppM fb fs fq + 1)))])), (qFb, .inl (cyI, 60, .inl (xA (fb)))), (qFl, .inl (cyI, 6, .inl (xA (uz fl (fp) (ppL fb fs fq))))), (qFa, .inl (cyI, 6, .inl (xA (uz fa (fp) (ppL fb fs (ppM fb fs fq + 1))))))] := hD
              refine xi_const hx hb dX1_parsePair_112 ?_
              have hV := ppV_4 (fb := fb) (fs := fs) (q := fq) (n := fp) (fl := fl) (fa := fa) hc1 hcc (by unfold ppA; omega)
              have he0 : (ppM fb fs (ppM fb fs fq + 1) : Int) = ((ppM fb fs (ppM fb fs fq + 1))) := by first | rfl | omega
              have he1 : (uz fl (fp) (ppL fb fs fq) : Int → Int) = ((uz fl (fp) (ppL fb fs fq))) := by first | rfl | omega
              have he2 : (uz fa (fp) (ppL fb fs (ppM fb fs fq + 1)) : Int → Int) = ((uz fa (fp) (ppL fb fs (ppM fb fs fq + 1)))) := by first | rfl | omega
              have hW8 := congr (congr (congrArg (fun (xv0 : Int) (xv1 : Int → Int) (xv2 : Int → Int) => ([(qF, .inr (1, [.ref qFb, .ref qFl, .ref qFa, .int (iI (fs)), .int (iI (fp)), .int (iI (xv0))])), (qFb, .inl (cyI, 60, .inl (xA (fb)))), (qFl, .inl (cyI, 6, .inl (xA (xv1)))), (qFa, .inl (cyI, 6, .inl (xA (xv2))))] : va_W)) he0) he1) he2
              have hW9 : ([(qF, .inr (1, [.ref qFb, .ref qFl, .ref qFa, .int (iI (fs)), .int (iI (fp)), .int (iI (ppM fb fs (ppM fb fs fq + 1)))])), (qFb, .inl (cyI, 60, .inl (xA (fb)))), (qFl, .inl (cyI, 6, .inl (xA (uz fl (fp) (ppL fb fs fq))))), (qFa, .inl (cyI, 6, .inl (xA (uz fa (fp) (ppL fb fs (ppM fb fs fq + 1))))))] : va_W) = [(qF, .inr (1, [.ref qFb, .ref qFl, .ref qFa, .int (iI (fs)), .int (iI (fp)), .int (iI ((ppM fb fs (ppM fb fs fq + 1))))])), (qFb, .inl (cyI, 60, .inl (xA (fb)))), (qFl, .inl (cyI, 6, .inl (xA ((uz fl (fp) (ppL fb fs fq)))))), (qFa, .inl (cyI, 6, .inl (xA ((uz fa (fp) (ppL fb fs (ppM fb fs fq + 1)))))))] := hW8
              rw [hW9] at hP hD
              exact W.iret (v := iI (-1)) hx hb hr (fun t_ ht_ hW_ => ⟨⟨_, (ppM fb fs (ppM fb fs fq + 1), uz fl (fp) (ppL fb fs fq), uz fa (fp) (ppL fb fs (ppM fb fs fq + 1))), rfl, ⟨(congrArg iI (show (-1) = (ppV fb fs fq fp fl fa) from by rw [hV]; try omega)), ⟨(show fq ≤ (ppM fb fs (ppM fb fs fq + 1)) ∧ (ppM fb fs (ppM fb fs fq + 1)) ≤ fs from by omega), (show ppV fb fs fq fp fl fa = -1 → (ppM fb fs (ppM fb fs fq + 1)) = ppQ fb fs fq ∧ (uz fl (fp) (ppL fb fs fq)) = uz fl fp (ppL fb fs fq) ∧ (uz fa (fp) (ppL fb fs (ppM fb fs fq + 1))) = uz fa fp (ppA fb fs fq) from by rw [hV]; first | (intro h; exfalso; omega) | (intro _; exact ⟨rfl, rfl, rfl⟩)), (show ppV fb fs fq fp fl fa ≠ -1 → (uz fl (fp) (ppL fb fs fq)) = fl ∧ (uz fa (fp) (ppL fb fs (ppM fb fs fq + 1))) = fa from by rw [hV]; first | (intro _; exact ⟨rfl, rfl⟩) | (intro h; exact absurd rfl h)), (show ∀ j, 0 ≤ (uz fl (fp) (ppL fb fs fq)) j ∧ (uz fl (fp) (ppL fb fs fq)) j ≤ 999 from by first | assumption | exact uz_in h_fl (by omega)), (show ∀ j, 0 ≤ (uz fa (fp) (ppL fb fs (ppM fb fs fq + 1))) j ∧ (uz fa (fp) (ppL fb fs (ppM fb fs fq + 1))) j ≤ 999 from by first | assumption | exact uz_in h_fa (by omega))⟩⟩, by rw [ht_]; exact hP, va_K.moved hW_.alike hK, hD⟩, hS.F ht_⟩) hS.2.2 dX1_parsePair_113
            · refine lv_iload_n hx hb dX1_parsePair_75 rfl (lv_at hl 0 rfl) ?_
              refine lv_aload_n hx hb dX1_parsePair_76 rfl (lv_at hl 3 rfl) ?_
              refine va_get (D := D) (ci := 1) (C := RX1) (T := TX1) (N := 6) hx hb hts hcX1 hown hK hP 0 rfl rfl 2 (by decide) (hts (.fieldLink RX1 18 "WallMarks$Flows" "amounts" "[I") (List.mem_of_getElem? (i := 4) (by decide +kernel))) (fun _ h9 => h9) rfl dX1_parsePair_77 ?_
              refine lv_aload_n hx hb dX1_parsePair_80 rfl (lv_at hl 3 rfl) ?_
              refine va_get (D := D) (ci := 1) (C := RX1) (T := TX1) (N := 6) hx hb hts hcX1 hown hK hP 0 rfl rfl 4 (by decide) (hts (.fieldLink RX1 25 "WallMarks$Flows" "pairs" "I") (List.mem_of_getElem? (i := 2) (by decide +kernel))) (fun _ h9 => h9) rfl dX1_parsePair_81 ?_
              refine xi_const hx hb dX1_parsePair_84 ?_
              refine xi_sub hx hb dX1_parsePair_85 ?_
              have hr_a := h_fa (fp - 1)
              refine xi_ald (D := D) hx hb hK hP 3 0 rfl rfl (by decide) (by omega) dX1_parsePair_86 ?_
              have hr_28 := h_fa (fp - 1)
              refine xb_icmp_ge (tgt := 92) hx hb dX1_parsePair_87 (by decide) (by omega) (fun h_29 => ?_) (fun h_29 => ?_)
              · refine lv_aload_n hx hb dX1_parsePair_92 rfl (lv_at hl 3 rfl) ?_
                refine va_get (D := D) (ci := 1) (C := RX1) (T := TX1) (N := 6) hx hb hts hcX1 hown hK hP 0 rfl rfl 1 (by decide) (hts (.fieldLink RX1 15 "WallMarks$Flows" "levels" "[I") (List.mem_of_getElem? (i := 3) (by decide +kernel))) (fun _ h9 => h9) rfl dX1_parsePair_93 ?_
                refine lv_aload_n hx hb dX1_parsePair_96 rfl (lv_at hl 3 rfl) ?_
                refine va_get (D := D) (ci := 1) (C := RX1) (T := TX1) (N := 6) hx hb hts hcX1 hown hK hP 0 rfl rfl 4 (by decide) (hts (.fieldLink RX1 25 "WallMarks$Flows" "pairs" "I") (List.mem_of_getElem? (i := 2) (by decide +kernel))) (fun _ h9 => h9) rfl dX1_parsePair_97 ?_
                refine lv_iload_n hx hb dX1_parsePair_100 rfl (lv_at hl 2 rfl) ?_
                refine xi_ast (D := D) hx hb hK hP hD hS 2 0 rfl rfl (by decide) (by omega) dX1_parsePair_101 (fun H locs hP hD hS => ?_)
                have hP : va_P D vwCl [(qF, .inr (1, [.ref qFb, .ref qFl, .ref qFa, .int (iI (fs)), .int (iI (fp)), .int (iI (ppM fb fs (ppM fb fs fq + 1)))])), (qFb, .inl (cyI, 60, .inl (xA (fb)))), (qFl, .inl (cyI, 6, .inl (xA (uz fl (fp) (ppL fb fs fq))))), (qFa, .inl (cyI, 6, .inl (xA (fa))))] H := hP
                have hD : va_D A [(qF, .inr (1, [.ref qFb, .ref qFl, .ref qFa, .int (iI (fs)), .int (iI (fp)), .int (iI (ppM fb fs (ppM fb fs fq + 1)))])), (qFb, .inl (cyI, 60, .inl (xA (fb)))), (qFl, .inl (cyI, 6, .inl (xA (uz fl (fp) (ppL fb fs fq))))), (qFa, .inl (cyI, 6, .inl (xA (fa))))] := hD
                refine lv_aload_n hx hb dX1_parsePair_102 rfl (lv_at hl 3 rfl) ?_
                refine va_get (D := D) (ci := 1) (C := RX1) (T := TX1) (N := 6) hx hb hts hcX1 hown hK hP 0 rfl rfl 2 (by decide) (hts (.fieldLink RX1 18 "WallMarks$Flows" "amounts" "[I") (List.mem_of_getElem? (i := 4) (by decide +kernel))) (fun _ h9 => h9) rfl dX1_parsePair_103 ?_
                refine lv_aload_n hx hb dX1_parsePair_106 rfl (lv_at hl 3 rfl) ?_
                refine va_get (D := D) (ci := 1) (C := RX1) (T := TX1) (N := 6) hx hb hts hcX1 hown hK hP 0 rfl rfl 4 (by decide) (hts (.fieldLink RX1 25 "WallMarks$Flows" "pairs" "I") (List.mem_of_getElem? (i := 2) (by decide +kernel))) (fun _ h9 => h9) rfl dX1_parsePair_107 ?_
                refine lv_iload_n hx hb dX1_parsePair_110 rfl (lv_at hl 0 rfl) ?_
                refine xi_ast (D := D) hx hb hK hP hD hS 3 0 rfl rfl (by decide) (by omega) dX1_parsePair_111 (fun H locs hP hD hS => ?_)
                have hP : va_P D vwCl [(qF, .inr (1, [.ref qFb, .ref qFl, .ref qFa, .int (iI (fs)), .int (iI (fp)), .int (iI (ppM fb fs (ppM fb fs fq + 1)))])), (qFb, .inl (cyI, 60, .inl (xA (fb)))), (qFl, .inl (cyI, 6, .inl (xA (uz fl (fp) (ppL fb fs fq))))), (qFa, .inl (cyI, 6, .inl (xA (uz fa (fp) (ppL fb fs (ppM fb fs fq + 1))))))] H := hP
                have hD : va_D A [(qF, .inr (1, [.ref qFb, .ref qFl, .ref qFa, .int (iI (fs)), .int (iI (fp)), .int (iI (ppM fb fs (ppM fb fs fq + 1)))])), (qFb, .inl (cyI, 60, .inl (xA (fb)))), (qFl, .inl (cyI, 6, .inl (xA (uz fl (fp) (ppL fb fs fq))))), (qFa, .inl (cyI, 6, .inl (xA (uz fa (fp) (ppL fb fs (ppM fb fs fq + 1))))))] := hD
                refine xi_const hx hb dX1_parsePair_112 ?_
                have hV := ppV_4 (fb := fb) (fs := fs) (q := fq) (n := fp) (fl := fl) (fa := fa) hc1 hcc (by unfold ppA; omega)
                have he0 : (ppM fb fs (ppM fb fs fq + 1) : Int) = ((ppM fb fs (ppM fb fs fq + 1))) := by first | rfl | omega
                have he1 : (uz fl (fp) (ppL fb fs fq) : Int → Int) = ((uz fl (fp) (ppL fb fs fq))) := by first | rfl | omega
                have he2 : (uz fa (fp) (ppL fb fs (ppM fb fs fq + 1)) : Int → Int) = ((uz fa (fp) (ppL fb fs (ppM fb fs fq + 1)))) := by first | rfl | omega
                have hW8 := congr (congr (congrArg (fun (xv0 : Int) (xv1 : Int → Int) (xv2 : Int → Int) => ([(qF, .inr (1, [.ref qFb, .ref qFl, .ref qFa, .int (iI (fs)), .int (iI (fp)), .int (iI (xv0))])), (qFb, .inl (cyI, 60, .inl (xA (fb)))), (qFl, .inl (cyI, 6, .inl (xA (xv1)))), (qFa, .inl (cyI, 6, .inl (xA (xv2))))] : va_W)) he0) he1) he2
                have hW9 : ([(qF, .inr (1, [.ref qFb, .ref qFl, .ref qFa, .int (iI (fs)), .int (iI (fp)), .int (iI (ppM fb fs (ppM fb fs fq + 1)))])), (qFb, .inl (cyI, 60, .inl (xA (fb)))), (qFl, .inl (cyI, 6, .inl (xA (uz fl (fp) (ppL fb fs fq))))), (qFa, .inl (cyI, 6, .inl (xA (uz fa (fp) (ppL fb fs (ppM fb fs fq + 1))))))] : va_W) = [(qF, .inr (1, [.ref qFb, .ref qFl, .ref qFa, .int (iI (fs)), .int (iI (fp)), .int (iI ((ppM fb fs (ppM fb fs fq + 1))))])), (qFb, .inl (cyI, 60, .inl (xA (fb)))), (qFl, .inl (cyI, 6, .inl (xA ((uz fl (fp) (ppL fb fs fq)))))), (qFa, .inl (cyI, 6, .inl (xA ((uz fa (fp) (ppL fb fs (ppM fb fs fq + 1)))))))] := hW8
                rw [hW9] at hP hD
                exact W.iret (v := iI (-1)) hx hb hr (fun t_ ht_ hW_ => ⟨⟨_, (ppM fb fs (ppM fb fs fq + 1), uz fl (fp) (ppL fb fs fq), uz fa (fp) (ppL fb fs (ppM fb fs fq + 1))), rfl, ⟨(congrArg iI (show (-1) = (ppV fb fs fq fp fl fa) from by rw [hV]; try omega)), ⟨(show fq ≤ (ppM fb fs (ppM fb fs fq + 1)) ∧ (ppM fb fs (ppM fb fs fq + 1)) ≤ fs from by omega), (show ppV fb fs fq fp fl fa = -1 → (ppM fb fs (ppM fb fs fq + 1)) = ppQ fb fs fq ∧ (uz fl (fp) (ppL fb fs fq)) = uz fl fp (ppL fb fs fq) ∧ (uz fa (fp) (ppL fb fs (ppM fb fs fq + 1))) = uz fa fp (ppA fb fs fq) from by rw [hV]; first | (intro h; exfalso; omega) | (intro _; exact ⟨rfl, rfl, rfl⟩)), (show ppV fb fs fq fp fl fa ≠ -1 → (uz fl (fp) (ppL fb fs fq)) = fl ∧ (uz fa (fp) (ppL fb fs (ppM fb fs fq + 1))) = fa from by rw [hV]; first | (intro _; exact ⟨rfl, rfl⟩) | (intro h; exact absurd rfl h)), (show ∀ j, 0 ≤ (uz fl (fp) (ppL fb fs fq)) j ∧ (uz fl (fp) (ppL fb fs fq)) j ≤ 999 from by first | assumption | exact uz_in h_fl (by omega)), (show ∀ j, 0 ≤ (uz fa (fp) (ppL fb fs (ppM fb fs fq + 1))) j ∧ (uz fa (fp) (ppL fb fs (ppM fb fs fq + 1))) j ≤ 999 from by first | assumption | exact uz_in h_fa (by omega))⟩⟩, by rw [ht_]; exact hP, va_K.moved hW_.alike hK, hD⟩, hS.F ht_⟩) hS.2.2 dX1_parsePair_113
              · refine lv_iload_n hx hb dX1_parsePair_90 rfl (lv_at hl 1 rfl) ?_
                have hV := ppV_3 (fb := fb) (fs := fs) (q := fq) (n := fp) (fl := fl) (fa := fa) hc1 hcc (by unfold ppA; omega)
                have he0 : (ppM fb fs (ppM fb fs fq + 1) : Int) = ((ppM fb fs (ppM fb fs fq + 1))) := by first | rfl | omega
                have hW8 := congrArg (fun (xv0 : Int) => ([(qF, .inr (1, [.ref qFb, .ref qFl, .ref qFa, .int (iI (fs)), .int (iI (fp)), .int (iI (xv0))])), (qFb, .inl (cyI, 60, .inl (xA (fb)))), (qFl, .inl (cyI, 6, .inl (xA (fl)))), (qFa, .inl (cyI, 6, .inl (xA (fa))))] : va_W)) he0
                have hW9 : ([(qF, .inr (1, [.ref qFb, .ref qFl, .ref qFa, .int (iI (fs)), .int (iI (fp)), .int (iI (ppM fb fs (ppM fb fs fq + 1)))])), (qFb, .inl (cyI, 60, .inl (xA (fb)))), (qFl, .inl (cyI, 6, .inl (xA (fl)))), (qFa, .inl (cyI, 6, .inl (xA (fa))))] : va_W) = [(qF, .inr (1, [.ref qFb, .ref qFl, .ref qFa, .int (iI (fs)), .int (iI (fp)), .int (iI ((ppM fb fs (ppM fb fs fq + 1))))])), (qFb, .inl (cyI, 60, .inl (xA (fb)))), (qFl, .inl (cyI, 6, .inl (xA (fl)))), (qFa, .inl (cyI, 6, .inl (xA (fa))))] := hW8
                rw [hW9] at hP hD
                exact W.iret (v := iI (ppM fb fs fq + 1)) hx hb hr (fun t_ ht_ hW_ => ⟨⟨_, (ppM fb fs (ppM fb fs fq + 1), fl, fa), rfl, ⟨(congrArg iI (show (ppM fb fs fq + 1) = (ppV fb fs fq fp fl fa) from by rw [hV]; try omega)), ⟨(show fq ≤ (ppM fb fs (ppM fb fs fq + 1)) ∧ (ppM fb fs (ppM fb fs fq + 1)) ≤ fs from by omega), (show ppV fb fs fq fp fl fa = -1 → (ppM fb fs (ppM fb fs fq + 1)) = ppQ fb fs fq ∧ fl = uz fl fp (ppL fb fs fq) ∧ fa = uz fa fp (ppA fb fs fq) from by rw [hV]; first | (intro h; exfalso; omega) | (intro _; exact ⟨rfl, rfl, rfl⟩)), (show ppV fb fs fq fp fl fa ≠ -1 → fl = fl ∧ fa = fa from by rw [hV]; first | (intro _; exact ⟨rfl, rfl⟩) | (intro h; exact absurd rfl h)), (show ∀ j, 0 ≤ fl j ∧ fl j ≤ 999 from by first | assumption | exact uz_in h_fl (by omega)), (show ∀ j, 0 ≤ fa j ∧ fa j ≤ 999 from by first | assumption | exact uz_in h_fa (by omega))⟩⟩, by rw [ht_]; exact hP, va_K.moved hW_.alike hK, hD⟩, hS.F ht_⟩) hS.2.2 dX1_parsePair_91
        · refine lv_aload_n hx hb dX1_parsePair_48 rfl (lv_at hl 2 rfl) ?_
          refine va_get (D := D) (ci := 1) (C := RX1) (T := TX1) (N := 6) hx hb hts hcX1 hown hK hP 0 rfl rfl 5 (by decide) (hts (.fieldLink RX1 28 "WallMarks$Flows" "place" "I") (List.mem_of_getElem? (i := 1) (by decide +kernel))) (fun _ h9 => h9) rfl dX1_parsePair_49 ?_
          have hV := ppV_2 (fb := fb) (fs := fs) (q := fq) (n := fp) (fl := fl) (fa := fa) (by omega) (by assumption)
          have hq8 := hps2 (by assumption)
          exact W.iret (v := iI (q1_20)) hx hb hr (fun t_ ht_ hW_ => ⟨⟨_, (q1_20, fl, fa), rfl, ⟨(congrArg iI (show (q1_20) = (ppV fb fs fq fp fl fa) from by rw [hV]; try omega)), ⟨(show fq ≤ q1_20 ∧ q1_20 ≤ fs from by omega), (show ppV fb fs fq fp fl fa = -1 → q1_20 = ppQ fb fs fq ∧ fl = uz fl fp (ppL fb fs fq) ∧ fa = uz fa fp (ppA fb fs fq) from by rw [hV]; first | (intro h; exfalso; omega) | (intro _; exact ⟨rfl, rfl, rfl⟩)), (show ppV fb fs fq fp fl fa ≠ -1 → fl = fl ∧ fa = fa from by rw [hV]; first | (intro _; exact ⟨rfl, rfl⟩) | (intro h; exact absurd rfl h)), (show ∀ j, 0 ≤ fl j ∧ fl j ≤ 999 from by first | assumption | exact uz_in h_fl (by omega)), (show ∀ j, 0 ≤ fa j ∧ fa j ≤ 999 from by first | assumption | exact uz_in h_fa (by omega))⟩⟩, by rw [ht_]; exact hP, va_K.moved hW_.alike hK, hD⟩, hS.F ht_⟩) hS.2.2 dX1_parsePair_52
      · refine lv_iload_n hx hb dX1_parsePair_37 rfl (lv_at hl 1 rfl) ?_
        have hV := ppV_1 (fb := fb) (fs := fs) (q := fq) (n := fp) (fl := fl) (fa := fa) (by omega)
        have he0 : (ppM fb fs fq : Int) = ((ppM fb fs fq)) := by first | rfl | omega
        have hW8 := congrArg (fun (xv0 : Int) => ([(qF, .inr (1, [.ref qFb, .ref qFl, .ref qFa, .int (iI (fs)), .int (iI (fp)), .int (iI (xv0))])), (qFb, .inl (cyI, 60, .inl (xA (fb)))), (qFl, .inl (cyI, 6, .inl (xA (fl)))), (qFa, .inl (cyI, 6, .inl (xA (fa))))] : va_W)) he0
        have hW9 : ([(qF, .inr (1, [.ref qFb, .ref qFl, .ref qFa, .int (iI (fs)), .int (iI (fp)), .int (iI (ppM fb fs fq))])), (qFb, .inl (cyI, 60, .inl (xA (fb)))), (qFl, .inl (cyI, 6, .inl (xA (fl)))), (qFa, .inl (cyI, 6, .inl (xA (fa))))] : va_W) = [(qF, .inr (1, [.ref qFb, .ref qFl, .ref qFa, .int (iI (fs)), .int (iI (fp)), .int (iI ((ppM fb fs fq)))])), (qFb, .inl (cyI, 60, .inl (xA (fb)))), (qFl, .inl (cyI, 6, .inl (xA (fl)))), (qFa, .inl (cyI, 6, .inl (xA (fa))))] := hW8
        rw [hW9] at hP hD
        exact W.iret (v := iI (fq)) hx hb hr (fun t_ ht_ hW_ => ⟨⟨_, (ppM fb fs fq, fl, fa), rfl, ⟨(congrArg iI (show (fq) = (ppV fb fs fq fp fl fa) from by rw [hV]; try omega)), ⟨(show fq ≤ (ppM fb fs fq) ∧ (ppM fb fs fq) ≤ fs from by omega), (show ppV fb fs fq fp fl fa = -1 → (ppM fb fs fq) = ppQ fb fs fq ∧ fl = uz fl fp (ppL fb fs fq) ∧ fa = uz fa fp (ppA fb fs fq) from by rw [hV]; first | (intro h; exfalso; omega) | (intro _; exact ⟨rfl, rfl, rfl⟩)), (show ppV fb fs fq fp fl fa ≠ -1 → fl = fl ∧ fa = fa from by rw [hV]; first | (intro _; exact ⟨rfl, rfl⟩) | (intro h; exact absurd rfl h)), (show ∀ j, 0 ≤ fl j ∧ fl j ≤ 999 from by first | assumption | exact uz_in h_fl (by omega)), (show ∀ j, 0 ≤ fa j ∧ fa j ≤ 999 from by first | assumption | exact uz_in h_fa (by omega))⟩⟩, by rw [ht_]; exact hP, va_K.moved hW_.alike hK, hD⟩, hS.F ht_⟩) hS.2.2 dX1_parsePair_38
set_option maxHeartbeats 1000000 in
set_option maxRecDepth 100000 in
theorem c_X1_parse (l : Launch) (D : va_G) (cyI cyJ cyO : ClassId) (qF : Nat) (qFb : Nat) (qFl : Nat) (qFa : Nat) (fs : Int) (fp : Int) (fq : Int) (fb : Int → Int) (fl : Int → Int) (fa : Int → Int) (sz : Nat) (h_fs : 0 ≤ fs ∧ fs ≤ 60) (h_fb : ∀ j, 0 ≤ fb j ∧ fb j ≤ 255) (h_fl : ∀ j, 0 ≤ fl j ∧ fl j ≤ 999) (h_fa : ∀ j, 0 ≤ fa j ∧ fa j ≤ 999) : Met l yX1_parse wsX1_parse ({ frames := 3, cells := 0, slots := 0, locals := 69 }) (va_Pc [.ref qF] (xM D vwCl [(qF, .inr (1, [.ref qFb, .ref qFl, .ref qFa, .int (iI (fs)), .int (iI (fp)), .int (iI (fq))])), (qFb, .inl (cyI, 60, .inl (xA (fb)))), (qFl, .inl (cyI, 6, .inl (xA (fl)))), (qFa, .inl (cyI, 6, .inl (xA (fa))))] (xT cyI cyJ cyO) sz)) (va_Qi (fun (r : Int32) (u : Int) => r = iI ((psF fb fs 6 0 0 fl fa).1) ∧ (0 ≤ u ∧ u ≤ fs) ∧ (∀ j, 0 ≤ (psF fb fs 6 0 0 fl fa).2.2.1 j ∧ (psF fb fs 6 0 0 fl fa).2.2.1 j ≤ 999) ∧ (∀ j, 0 ≤ (psF fb fs 6 0 0 fl fa).2.2.2 j ∧ (psF fb fs 6 0 0 fl fa).2.2.2 j ≤ 999)) (xB D vwCl (xT cyI cyJ cyO) (va_A [(qF, .inr (1, [.ref qFb, .ref qFl, .ref qFa, .int (iI (fs)), .int (iI (fp)), .int (iI (fq))])), (qFb, .inl (cyI, 60, .inl (xA (fb)))), (qFl, .inl (cyI, 6, .inl (xA (fl)))), (qFa, .inl (cyI, 6, .inl (xA (fa))))] sz) (fun u : Int => [(qF, .inr (1, [.ref qFb, .ref qFl, .ref qFa, .int (iI (fs)), .int (iI ((psF fb fs 6 0 0 fl fa).2.1)), .int (iI (u))])), (qFb, .inl (cyI, 60, .inl (xA (fb)))), (qFl, .inl (cyI, 6, .inl (xA ((psF fb fs 6 0 0 fl fa).2.2.1)))), (qFa, .inl (cyI, 6, .inl (xA ((psF fb fs 6 0 0 fl fa).2.2.2))))])) (va_A [(qF, .inr (1, [.ref qFb, .ref qFl, .ref qFa, .int (iI (fs)), .int (iI (fp)), .int (iI (fq))])), (qFb, .inl (cyI, 60, .inl (xA (fb)))), (qFl, .inl (cyI, 6, .inl (xA (fl)))), (qFa, .inl (cyI, 6, .inl (xA (fa))))] sz)) 0 0 (va_A [(qF, .inr (1, [.ref qFb, .ref qFl, .ref qFa, .int (iI (fs)), .int (iI (fp)), .int (iI (fq))])), (qFb, .inl (cyI, 60, .inl (xA (fb)))), (qFl, .inl (cyI, 6, .inl (xA (fl)))), (qFa, .inl (cyI, 6, .inl (xA (fa))))] sz) := by
  refine Met.ofW (cc := cX1_parse) (maxL := 2) (ret := (some .int)) (by decide) rfl ?_
  intro p e s m args below meth c s₁ B hml hv
  obtain ⟨rfl, hsz, hP, hK, hD0⟩ := hv
  have hx := B.exec
  have hb := B.bytes
  have hr := B.returns
  have hts := atoms_spec (ws := wsX1_parse) B.pre
  have hown : s.vm.findClass RX1 = some m.cls := findClass_of_methodNamed B.named
  have hlocks := B.notSynchronized
  have hcX1 : ∀ w ∈ wsX10, w ∈ wsX1_parse := fun _ h => List.mem_cons_of_mem _ (List.mem_append_right _ h)
  subst hsz
  have hD := hD0.self (sz := s.heap.size)
  generalize hAe : va_A [(qF, .inr (1, [.ref qFb, .ref qFl, .ref qFa, .int (iI (fs)), .int (iI (fp)), .int (iI (fq))])), (qFb, .inl (cyI, 60, .inl (xA (fb)))), (qFl, .inl (cyI, 6, .inl (xA (fl)))), (qFa, .inl (cyI, 6, .inl (xA (fa))))] s.heap.size = A at hD ⊢
  have hA : ∀ q : Nat, s.heap.size ≤ q → A q := fun q h => by rw [← hAe]; exact Or.inr h
  have hS : va_S A s.heap s.heap [] := va_S.rf
  have hP : va_P D vwCl [(qF, .inr (1, [.ref qFb, .ref qFl, .ref qFa, .int (iI (fs)), .int (iI (fp)), .int (iI (fq))])), (qFb, .inl (cyI, 60, .inl (xA (fb)))), (qFl, .inl (cyI, 6, .inl (xA (fl)))), (qFa, .inl (cyI, 6, .inl (xA (fa))))] s.heap := hP
  have hl := lv_entry ([.ref qF]) (n := 2) (Nat.le_of_ble_eq_true rfl)
  rw [lg_entry_eq]
  generalize (lg_sl ([.ref qF]) ++ List.replicate (2 - (lg_sl ([.ref qF])).length) Slot.unset).toArray = ls at hl ⊢
  have hl : lv_has ls 2 [(0, .ref qF)] := hl
  have cut_10 : ∀ (N_ : Nat) (n : Int) (q1 : Int) (f1 : Int → Int) (f2 : Int → Int) (hn : 0 ≤ n ∧ n ≤ 6) (hq : 0 ≤ q1 ∧ q1 ≤ fs) (hp : psF fb fs (6 - n).toNat n q1 f1 f2 = (psF fb fs 6 0 0 fl fa)) (hf1 : ∀ j, 0 ≤ f1 j ∧ f1 j ≤ 999) (hf2 : ∀ j, 0 ≤ f2 j ∧ f2 j ≤ 999) (hN_ : (6 - n).toNat < N_) (H : Heap) (locs : List Loc) (hP : va_P D vwCl [(qF, .inr (1, [.ref qFb, .ref qFl, .ref qFa, .int (iI (fs)), .int (iI (n)), .int (iI (q1))])), (qFb, .inl (cyI, 60, .inl (xA (fb)))), (qFl, .inl (cyI, 6, .inl (xA (f1)))), (qFa, .inl (cyI, 6, .inl (xA (f2))))] H) (hD : va_D A [(qF, .inr (1, [.ref qFb, .ref qFl, .ref qFa, .int (iI (fs)), .int (iI (n)), .int (iI (q1))])), (qFb, .inl (cyI, 60, .inl (xA (fb)))), (qFl, .inl (cyI, 6, .inl (xA (f1)))), (qFa, .inl (cyI, 6, .inl (xA (f2))))]) (hS : va_S A s.heap H locs) (ls : Array Slot) (hl : lv_has ls 2 [(0, .ref qF)]), W p l e (headSpec wsX1_parse ({ frames := 3, cells := 0, slots := 0, locals := 69 })).room s m ([.ref qF] : List Value).toArray below meth c H locs 0 0 (MQ below (va_Qi (fun (r : Int32) (u : Int) => r = iI ((psF fb fs 6 0 0 fl fa).1) ∧ (0 ≤ u ∧ u ≤ fs) ∧ (∀ j, 0 ≤ (psF fb fs 6 0 0 fl fa).2.2.1 j ∧ (psF fb fs 6 0 0 fl fa).2.2.1 j ≤ 999) ∧ (∀ j, 0 ≤ (psF fb fs 6 0 0 fl fa).2.2.2 j ∧ (psF fb fs 6 0 0 fl fa).2.2.2 j ≤ 999)) (xB D vwCl (xT cyI cyJ cyO) A (fun u : Int => [(qF, .inr (1, [.ref qFb, .ref qFl, .ref qFa, .int (iI (fs)), .int (iI ((psF fb fs 6 0 0 fl fa).2.1)), .int (iI (u))])), (qFb, .inl (cyI, 60, .inl (xA (fb)))), (qFl, .inl (cyI, 6, .inl (xA ((psF fb fs 6 0 0 fl fa).2.2.1)))), (qFa, .inl (cyI, 6, .inl (xA ((psF fb fs 6 0 0 fl fa).2.2.2))))])) A) ([.ref qF] : List Value).toArray s 0 0 A) (F0 m 10 ls []) := by
    intro N_
    induction N_ with
    | zero => intro n q1 f1 f2 hn hq hp hf1 hf2 hN_ H locs hP hD hS ls hl; exact absurd hN_ (Nat.not_lt_zero _)
    | succ N_ ih_10 =>
      intro n q1 f1 f2 hn hq hp hf1 hf2 hN_ H locs hP hD hS ls hl
      refine lv_aload_n hx hb dX1_parse_10 rfl (lv_at hl 0 rfl) ?_
      refine va_get (D := D) (ci := 1) (C := RX1) (T := TX1) (N := 6) hx hb hts hcX1 hown hK hP 0 rfl rfl 4 (by decide) (hts (.fieldLink RX1 25 "WallMarks$Flows" "pairs" "I") (List.mem_of_getElem? (i := 2) (by decide +kernel))) (fun _ h9 => h9) rfl dX1_parse_11 ?_
      refine xi_bipush hx hb dX1_parse_14 (by decide +kernel) ?_
      refine xb_icmp_ge (tgt := 86) hx hb dX1_parse_16 (by decide) (by omega) (fun h_1 => ?_) (fun h_1 => ?_)
      · refine lv_aload_n hx hb dX1_parse_86 rfl (lv_at hl 0 rfl) ?_
        refine va_get (D := D) (ci := 1) (C := RX1) (T := TX1) (N := 6) hx hb hts hcX1 hown hK hP 0 rfl rfl 5 (by decide) (hts (.fieldLink RX1 28 "WallMarks$Flows" "place" "I") (List.mem_of_getElem? (i := 1) (by decide +kernel))) (fun _ h9 => h9) rfl dX1_parse_87 ?_
        refine lv_aload_n hx hb dX1_parse_90 rfl (lv_at hl 0 rfl) ?_
        refine va_get (D := D) (ci := 1) (C := RX1) (T := TX1) (N := 6) hx hb hts hcX1 hown hK hP 0 rfl rfl 3 (by decide) (hts (.fieldLink RX1 21 "WallMarks$Flows" "size" "I") (List.mem_of_getElem? (i := 3) (by decide +kernel))) (fun _ h9 => h9) rfl dX1_parse_91 ?_
        refine xb_icmp_ne (tgt := 101) hx hb dX1_parse_94 (by decide) (by omega) (fun h_2 => ?_) (fun h_2 => ?_)
        · refine lv_aload_n hx hb dX1_parse_101 rfl (lv_at hl 0 rfl) ?_
          refine va_get (D := D) (ci := 1) (C := RX1) (T := TX1) (N := 6) hx hb hts hcX1 hown hK hP 0 rfl rfl 5 (by decide) (hts (.fieldLink RX1 28 "WallMarks$Flows" "place" "I") (List.mem_of_getElem? (i := 1) (by decide +kernel))) (fun _ h9 => h9) rfl dX1_parse_102 ?_
          have hV := (psF_0 (fb := fb) (fs := fs) (q := q1) (fl := f1) (fa := f2) n (by omega)).symm.trans hp
          have he0 : (n : Int) = ((psF fb fs 6 0 0 fl fa).2.1) := by rw [← hV]
          have he1 : (f1 : Int → Int) = ((psF fb fs 6 0 0 fl fa).2.2.1) := by first | (rw [← hV]; done) | (rw [← hV]; exact e2)
          have he2 : (f2 : Int → Int) = ((psF fb fs 6 0 0 fl fa).2.2.2) := by first | (rw [← hV]; done) | (rw [← hV]; exact e3)
          have hW8 := congr (congr (congrArg (fun (xv0 : Int) (xv1 : Int → Int) (xv2 : Int → Int) => ([(qF, .inr (1, [.ref qFb, .ref qFl, .ref qFa, .int (iI (fs)), .int (iI (xv0)), .int (iI (q1))])), (qFb, .inl (cyI, 60, .inl (xA (fb)))), (qFl, .inl (cyI, 6, .inl (xA (xv1)))), (qFa, .inl (cyI, 6, .inl (xA (xv2))))] : va_W)) he0) he1) he2
          have hW9 : ([(qF, .inr (1, [.ref qFb, .ref qFl, .ref qFa, .int (iI (fs)), .int (iI (n)), .int (iI (q1))])), (qFb, .inl (cyI, 60, .inl (xA (fb)))), (qFl, .inl (cyI, 6, .inl (xA (f1)))), (qFa, .inl (cyI, 6, .inl (xA (f2))))] : va_W) = [(qF, .inr (1, [.ref qFb, .ref qFl, .ref qFa, .int (iI (fs)), .int (iI ((psF fb fs 6 0 0 fl fa).2.1)), .int (iI (q1))])), (qFb, .inl (cyI, 60, .inl (xA (fb)))), (qFl, .inl (cyI, 6, .inl (xA ((psF fb fs 6 0 0 fl fa).2.2.1)))), (qFa, .inl (cyI, 6, .inl (xA ((psF fb fs 6 0 0 fl fa).2.2.2))))] := hW8
          rw [hW9] at hP hD
          exact W.iret (v := iI (q1)) hx hb hr (fun t_ ht_ hW_ => ⟨⟨_, (q1), rfl, ⟨(congrArg iI (show (q1) = ((psF fb fs 6 0 0 fl fa).1) from by first | (rw [← hV]; done) | (rw [← hV]; exact hps2 (by assumption)) | (rw [← hV]; dsimp only; first | rw [if_pos (by omega)] | rw [if_neg (by omega)]))), ⟨(show 0 ≤ q1 ∧ q1 ≤ fs from by omega), (show ∀ j, 0 ≤ (psF fb fs 6 0 0 fl fa).2.2.1 j ∧ (psF fb fs 6 0 0 fl fa).2.2.1 j ≤ 999 from by rw [← hV]; assumption), (show ∀ j, 0 ≤ (psF fb fs 6 0 0 fl fa).2.2.2 j ∧ (psF fb fs 6 0 0 fl fa).2.2.2 j ≤ 999 from by rw [← hV]; assumption)⟩⟩, by rw [ht_]; exact hP, va_K.moved hW_.alike hK, hD⟩, hS.F ht_⟩) hS.2.2 dX1_parse_105
        · refine xi_const hx hb dX1_parse_97 ?_
          refine lv_goto (tgt := 105) hx hb dX1_parse_98 (by decide) ?_
          have hV := (psF_0 (fb := fb) (fs := fs) (q := q1) (fl := f1) (fa := f2) n (by omega)).symm.trans hp
          have he0 : (n : Int) = ((psF fb fs 6 0 0 fl fa).2.1) := by rw [← hV]
          have he1 : (f1 : Int → Int) = ((psF fb fs 6 0 0 fl fa).2.2.1) := by first | (rw [← hV]; done) | (rw [← hV]; exact e2)
          have he2 : (f2 : Int → Int) = ((psF fb fs 6 0 0 fl fa).2.2.2) := by first | (rw [← hV]; done) | (rw [← hV]; exact e3)
          have hW8 := congr (congr (congrArg (fun (xv0 : Int) (xv1 : Int → Int) (xv2 : Int → Int) => ([(qF, .inr (1, [.ref qFb, .ref qFl, .ref qFa, .int (iI (fs)), .int (iI (xv0)), .int (iI (q1))])), (qFb, .inl (cyI, 60, .inl (xA (fb)))), (qFl, .inl (cyI, 6, .inl (xA (xv1)))), (qFa, .inl (cyI, 6, .inl (xA (xv2))))] : va_W)) he0) he1) he2
          have hW9 : ([(qF, .inr (1, [.ref qFb, .ref qFl, .ref qFa, .int (iI (fs)), .int (iI (n)), .int (iI (q1))])), (qFb, .inl (cyI, 60, .inl (xA (fb)))), (qFl, .inl (cyI, 6, .inl (xA (f1)))), (qFa, .inl (cyI, 6, .inl (xA (f2))))] : va_W) = [(qF, .inr (1, [.ref qFb, .ref qFl, .ref qFa, .int (iI (fs)), .int (iI ((psF fb fs 6 0 0 fl fa).2.1)), .int (iI (q1))])), (qFb, .inl (cyI, 60, .inl (xA (fb)))), (qFl, .inl (cyI, 6, .inl (xA ((psF fb fs 6 0 0 fl fa).2.2.1)))), (qFa, .inl (cyI, 6, .inl (xA ((psF fb fs 6 0 0 fl fa).2.2.2))))] := hW8
          rw [hW9] at hP hD
          exact W.iret (v := iI (-1)) hx hb hr (fun t_ ht_ hW_ => ⟨⟨_, (q1), rfl, ⟨(congrArg iI (show (-1) = ((psF fb fs 6 0 0 fl fa).1) from by first | (rw [← hV]; done) | (rw [← hV]; exact hps2 (by assumption)) | (rw [← hV]; dsimp only; first | rw [if_pos (by omega)] | rw [if_neg (by omega)]))), ⟨(show 0 ≤ q1 ∧ q1 ≤ fs from by omega), (show ∀ j, 0 ≤ (psF fb fs 6 0 0 fl fa).2.2.1 j ∧ (psF fb fs 6 0 0 fl fa).2.2.1 j ≤ 999 from by rw [← hV]; assumption), (show ∀ j, 0 ≤ (psF fb fs 6 0 0 fl fa).2.2.2 j ∧ (psF fb fs 6 0 0 fl fa).2.2.2 j ≤ 999 from by rw [← hV]; assumption)⟩⟩, by rw [ht_]; exact hP, va_K.moved hW_.alike hK, hD⟩, hS.F ht_⟩) hS.2.2 dX1_parse_105
      · refine lv_aload_n hx hb dX1_parse_19 rfl (lv_at hl 0 rfl) ?_
        refine va_get (D := D) (ci := 1) (C := RX1) (T := TX1) (N := 6) hx hb hts hcX1 hown hK hP 0 rfl rfl 4 (by decide) (hts (.fieldLink RX1 25 "WallMarks$Flows" "pairs" "I") (List.mem_of_getElem? (i := 2) (by decide +kernel))) (fun _ h9 => h9) rfl dX1_parse_20 ?_
        refine xi_const hx hb dX1_parse_23 ?_
        refine xb_icmp_lt (tgt := 40) hx hb dX1_parse_24 (by decide) (by omega) (fun h_3 => ?_) (fun h_3 => ?_)
        · refine lv_aload_n hx hb dX1_parse_40 rfl (lv_at hl 0 rfl) ?_
          refine va_get (D := D) (ci := 1) (C := RX1) (T := TX1) (N := 6) hx hb hts hcX1 hown hK hP 0 rfl rfl 4 (by decide) (hts (.fieldLink RX1 25 "WallMarks$Flows" "pairs" "I") (List.mem_of_getElem? (i := 2) (by decide +kernel))) (fun _ h9 => h9) rfl dX1_parse_41 ?_
          refine xb_if_le (tgt := 61) hx hb dX1_parse_44 (by decide) (by omega) (fun h_4 => ?_) (fun h_4 => ?_)
          · have hq7 : (q1) = if 0 < n then q1 + 1 else q1 := by first | (rw [if_neg (by omega)]; done) | (rw [if_pos (by omega)]; omega)
            refine lv_aload_n hx hb dX1_parse_61 rfl (lv_at hl 0 rfl) ?_
            have hf_5 := ppV_in (fb := fb) n f1 f2 (q := q1) (fs := fs) (by omega)
            have hPc := hP.sub (ws' := [(qF, .inr (1, [.ref qFb, .ref qFl, .ref qFa, .int (iI (fs)), .int (iI (n)), .int (iI (q1))])), (qFb, .inl (cyI, 60, .inl (xA (fb)))), (qFl, .inl (cyI, 6, .inl (xA (f1)))), (qFa, .inl (cyI, 6, .inl (xA (f2))))]) [0, 1, 2, 3] rfl
            have hDc := hD.sub (ws' := [(qF, .inr (1, [.ref qFb, .ref qFl, .ref qFa, .int (iI (fs)), .int (iI (n)), .int (iI (q1))])), (qFb, .inl (cyI, 60, .inl (xA (fb)))), (qFl, .inl (cyI, 6, .inl (xA (f1)))), (qFa, .inl (cyI, 6, .inl (xA (f2))))]) [0, 1, 2, 3] (by decide) rfl
            have hFc := va_free (wc := [(qF, .inr (1, [.ref qFb, .ref qFl, .ref qFa, .int (iI (fs)), .int (iI (n)), .int (iI (q1))])), (qFb, .inl (cyI, 60, .inl (xA (fb)))), (qFl, .inl (cyI, 6, .inl (xA (f1)))), (qFa, .inl (cyI, 6, .inl (xA (f2))))]) hD hS hA [0, 1, 2, 3] rfl
            refine va_calli (va_runV (As := []) (rest := []) ⟨hx, hb, hml, hown, hts⟩ (c_X1_parsePair l D cyI cyJ cyO qF qFb qFl qFa fs n q1 fb f1 f2 H.size (by first | exact h_fs | assumption | omega) (by first | exact h_fb | assumption | omega) (by first | exact h_fq | assumption | omega) (by first | exact h_fp | assumption | omega) (by first | exact h_fl | assumption | omega) (by first | exact h_fa | assumption | omega)) (cwV 0 hts gX1_parse_X1_parsePair rfl rfl rfl (by decide +kernel) ⟨Nat.le_of_ble_eq_true rfl, Nat.le_of_ble_eq_true rfl⟩) (xpVM hPc hK hDc (ci := 1) (q0 := 0) (q := (RX1, TX1, 6)) rfl rfl) rfl rfl hl.1 rfl (lv_room (Nat.le_of_ble_eq_true rfl)) dX1_parse_62 ⟨Nat.le_of_ble_eq_true rfl, Nat.le_of_ble_eq_true rfl⟩) hS (fun q _ h => hFc q h) hFc (fun r_ u_6 t_ H1 locs ht_ hvm hw hB hz1 hk1 hS => ?_)
            obtain ⟨q9_7, l9_8, a9_9⟩ := u_6
            obtain ⟨hP1, hK1, hD1⟩ := hB
            rw [ht_] at hP1
            obtain ⟨hP, hD⟩ := xj (wc := [(qF, .inr (1, [.ref qFb, .ref qFl, .ref qFa, .int (iI (fs)), .int (iI (n)), .int (iI (q1))])), (qFb, .inl (cyI, 60, .inl (xA (fb)))), (qFl, .inl (cyI, 6, .inl (xA (f1)))), (qFa, .inl (cyI, 6, .inl (xA (f2))))]) (w1 := [(qF, .inr (1, [.ref qFb, .ref qFl, .ref qFa, .int (iI (fs)), .int (iI (n)), .int (iI (q9_7))])), (qFb, .inl (cyI, 60, .inl (xA (fb)))), (qFl, .inl (cyI, 6, .inl (xA (l9_8)))), (qFa, .inl (cyI, 6, .inl (xA (a9_9))))]) hP hD [0, 1, 2, 3] rfl rfl hk1 hP1
            generalize H1 = H at hP hS ⊢
            have hP : va_P D vwCl [(qF, .inr (1, [.ref qFb, .ref qFl, .ref qFa, .int (iI (fs)), .int (iI (n)), .int (iI (q9_7))])), (qFb, .inl (cyI, 60, .inl (xA (fb)))), (qFl, .inl (cyI, 6, .inl (xA (l9_8)))), (qFa, .inl (cyI, 6, .inl (xA (a9_9))))] H := hP
            have hD : va_D A [(qF, .inr (1, [.ref qFb, .ref qFl, .ref qFa, .int (iI (fs)), .int (iI (n)), .int (iI (q9_7))])), (qFb, .inl (cyI, 60, .inl (xA (fb)))), (qFl, .inl (cyI, 6, .inl (xA (l9_8)))), (qFa, .inl (cyI, 6, .inl (xA (a9_9))))] := hD
            obtain ⟨hre, hw_10⟩ := hw
            have hw_10 : (q1 ≤ q9_7 ∧ q9_7 ≤ fs) ∧ (ppV fb fs q1 n f1 f2 = -1 → q9_7 = ppQ fb fs q1 ∧ l9_8 = uz f1 n (ppL fb fs q1) ∧ a9_9 = uz f2 n (ppA fb fs q1)) ∧ (ppV fb fs q1 n f1 f2 ≠ -1 → l9_8 = f1 ∧ a9_9 = f2) ∧ (∀ j, 0 ≤ l9_8 j ∧ l9_8 j ≤ 999) ∧ (∀ j, 0 ≤ a9_9 j ∧ a9_9 j ≤ 999) := hw_10
            rw [show r_ = iI (ppV fb fs q1 n f1 f2) from hre]
            obtain ⟨hpp1, hpp2, hpp3, hpp4, hpp5⟩ := hw_10
            refine lv_istore_n (lv' := [(1, .int (iI (ppV fb fs q1 n f1 f2))), (0, .ref qF)]) hx hb dX1_parse_65 rfl hl (by decide) rfl (fun ls hl => ?_)
            refine lv_iload_n hx hb dX1_parse_66 rfl (lv_at hl 0 rfl) ?_
            refine xi_const hx hb dX1_parse_67 ?_
            refine xb_icmp_eq (tgt := 73) hx hb dX1_parse_68 (by decide) (by omega) (fun h_11 => ?_) (fun h_11 => ?_)
            · refine lv_aload_n hx hb dX1_parse_73 rfl (lv_at hl 1 rfl) ?_
              refine lv_dup hx hb dX1_parse_74 rfl ?_
              refine va_get (D := D) (ci := 1) (C := RX1) (T := TX1) (N := 6) hx hb hts hcX1 hown hK hP 0 rfl rfl 4 (by decide) (hts (.fieldLink RX1 25 "WallMarks$Flows" "pairs" "I") (List.mem_of_getElem? (i := 2) (by decide +kernel))) (fun _ h9 => h9) rfl dX1_parse_75 ?_
              refine xi_const hx hb dX1_parse_78 ?_
              refine xi_add hx hb dX1_parse_79 ?_
              refine va_put (D := D) (ci := 1) (v := .int (iI (n + 1))) (ty := .int) (C := RX1) (T := TX1) (N := 6) hx hb hts hcX1 tyX1 tyX1_ok nmX1 hown hK hP hD hS 0 rfl rfl 4 (by decide) (hts (.fieldLink RX1 25 "WallMarks$Flows" "pairs" "I") (List.mem_of_getElem? (i := 2) (by decide +kernel))) (fun _ h9 => h9) rfl (by decide +kernel) rfl rfl (Nat.le_of_ble_eq_true rfl) dX1_parse_80 (fun H locs hP hD hS => ?_)
              have hP : va_P D vwCl [(qF, .inr (1, [.ref qFb, .ref qFl, .ref qFa, .int (iI (fs)), .int (iI (n + 1)), .int (iI (q9_7))])), (qFb, .inl (cyI, 60, .inl (xA (fb)))), (qFl, .inl (cyI, 6, .inl (xA (l9_8)))), (qFa, .inl (cyI, 6, .inl (xA (a9_9))))] H := hP
              have hD : va_D A [(qF, .inr (1, [.ref qFb, .ref qFl, .ref qFa, .int (iI (fs)), .int (iI (n + 1)), .int (iI (q9_7))])), (qFb, .inl (cyI, 60, .inl (xA (fb)))), (qFl, .inl (cyI, 6, .inl (xA (l9_8)))), (qFa, .inl (cyI, 6, .inl (xA (a9_9))))] := hD
              refine lv_goto (tgt := 10) hx hb dX1_parse_83 (by decide) ?_
              exact ih_10 (n + 1) (q9_7) (l9_8) (a9_9) (by first | assumption | omega | (constructor <;> omega)) (by omega) (by first | rfl | (rw [← hp, psF_d (q0 := _) (by omega) (by omega) (by omega) hq7 (by assumption)]; obtain ⟨e1, e2, e3⟩ := hpp2 (by assumption); rw [e1, e2, e3])) (by first | assumption | exact h_fl) (by first | assumption | exact h_fa) (by omega) _ _ hP hD hS ls (lv_sub hl [1] rfl)
            · refine lv_iload_n hx hb dX1_parse_71 rfl (lv_at hl 0 rfl) ?_
              have hV := (psF_c (fb := fb) (fl := f1) (fa := f2) (q := q1) (n := n) (by omega) (by omega) (by omega) hq7 rfl (by assumption)).symm.trans hp
              obtain ⟨e2, e3⟩ := hpp3 (by assumption)
              have he0 : (n : Int) = ((psF fb fs 6 0 0 fl fa).2.1) := by rw [← hV]
              have he1 : (l9_8 : Int → Int) = ((psF fb fs 6 0 0 fl fa).2.2.1) := by first | (rw [← hV]; done) | (rw [← hV]; exact e2)
              have he2 : (a9_9 : Int → Int) = ((psF fb fs 6 0 0 fl fa).2.2.2) := by first | (rw [← hV]; done) | (rw [← hV]; exact e3)
              have hW8 := congr (congr (congrArg (fun (xv0 : Int) (xv1 : Int → Int) (xv2 : Int → Int) => ([(qF, .inr (1, [.ref qFb, .ref qFl, .ref qFa, .int (iI (fs)), .int (iI (xv0)), .int (iI (q9_7))])), (qFb, .inl (cyI, 60, .inl (xA (fb)))), (qFl, .inl (cyI, 6, .inl (xA (xv1)))), (qFa, .inl (cyI, 6, .inl (xA (xv2))))] : va_W)) he0) he1) he2
              have hW9 : ([(qF, .inr (1, [.ref qFb, .ref qFl, .ref qFa, .int (iI (fs)), .int (iI (n)), .int (iI (q9_7))])), (qFb, .inl (cyI, 60, .inl (xA (fb)))), (qFl, .inl (cyI, 6, .inl (xA (l9_8)))), (qFa, .inl (cyI, 6, .inl (xA (a9_9))))] : va_W) = [(qF, .inr (1, [.ref qFb, .ref qFl, .ref qFa, .int (iI (fs)), .int (iI ((psF fb fs 6 0 0 fl fa).2.1)), .int (iI (q9_7))])), (qFb, .inl (cyI, 60, .inl (xA (fb)))), (qFl, .inl (cyI, 6, .inl (xA ((psF fb fs 6 0 0 fl fa).2.2.1)))), (qFa, .inl (cyI, 6, .inl (xA ((psF fb fs 6 0 0 fl fa).2.2.2))))] := hW8
              rw [hW9] at hP hD
              exact W.iret (v := iI (ppV fb fs q1 n f1 f2)) hx hb hr (fun t_ ht_ hW_ => ⟨⟨_, (q9_7), rfl, ⟨(congrArg iI (show (ppV fb fs q1 n f1 f2) = ((psF fb fs 6 0 0 fl fa).1) from by first | (rw [← hV]; done) | (rw [← hV]; exact hps2 (by assumption)) | (rw [← hV]; dsimp only; first | rw [if_pos (by omega)] | rw [if_neg (by omega)]))), ⟨(show 0 ≤ q9_7 ∧ q9_7 ≤ fs from by omega), (show ∀ j, 0 ≤ (psF fb fs 6 0 0 fl fa).2.2.1 j ∧ (psF fb fs 6 0 0 fl fa).2.2.1 j ≤ 999 from by rw [← hV]; assumption), (show ∀ j, 0 ≤ (psF fb fs 6 0 0 fl fa).2.2.2 j ∧ (psF fb fs 6 0 0 fl fa).2.2.2 j ≤ 999 from by rw [← hV]; assumption)⟩⟩, by rw [ht_]; exact hP, va_K.moved hW_.alike hK, hD⟩, hS.F ht_⟩) hS.2.2 dX1_parse_72
          · refine lv_aload_n hx hb dX1_parse_47 rfl (lv_at hl 0 rfl) ?_
            refine xi_bipush hx hb dX1_parse_48 (by decide +kernel) ?_
            have hPc := hP.sub (ws' := [(qF, .inr (1, [.ref qFb, .ref qFl, .ref qFa, .int (iI (fs)), .int (iI (n)), .int (iI (q1))])), (qFb, .inl (cyI, 60, .inl (xA (fb))))]) [0, 1] rfl
            have hDc := hD.sub (ws' := [(qF, .inr (1, [.ref qFb, .ref qFl, .ref qFa, .int (iI (fs)), .int (iI (n)), .int (iI (q1))])), (qFb, .inl (cyI, 60, .inl (xA (fb))))]) [0, 1] (by decide) rfl
            have hFc := va_free (wc := [(qF, .inr (1, [.ref qFb, .ref qFl, .ref qFa, .int (iI (fs)), .int (iI (n)), .int (iI (q1))])), (qFb, .inl (cyI, 60, .inl (xA (fb))))]) hD hS hA [0, 1] rfl
            refine va_calli (va_runV (As := [.int (iI (59))]) (rest := []) ⟨hx, hb, hml, hown, hts⟩ (c_X1_passes l D cyI cyJ cyO qF qFb qFl qFa fs n q1 fb H.size 59 (by first | exact h_fs | assumption | omega) (by first | exact h_fb | assumption | omega) (by first | exact h_fq | assumption | omega) (by first | exact h_sg | assumption | omega)) (cwV 1 hts gX1_parse_X1_passes rfl rfl rfl (by decide +kernel) ⟨Nat.le_of_ble_eq_true rfl, Nat.le_of_ble_eq_true rfl⟩) (xpVM hPc hK hDc (ci := 1) (q0 := 0) (q := (RX1, TX1, 6)) rfl rfl) rfl rfl hl.1 rfl (lv_room (Nat.le_of_ble_eq_true rfl)) dX1_parse_50 ⟨Nat.le_of_ble_eq_true rfl, Nat.le_of_ble_eq_true rfl⟩) hS (fun q _ h => hFc q h) hFc (fun r_ u_12 t_ H1 locs ht_ hvm hw hB hz1 hk1 hS => ?_)
            obtain ⟨q1_13, rfl⟩ : ∃ z, z = u_12 := ⟨_, rfl⟩
            obtain ⟨hP1, hK1, hD1⟩ := hB
            rw [ht_] at hP1
            obtain ⟨hP, hD⟩ := xj (wc := [(qF, .inr (1, [.ref qFb, .ref qFl, .ref qFa, .int (iI (fs)), .int (iI (n)), .int (iI (q1))])), (qFb, .inl (cyI, 60, .inl (xA (fb))))]) (w1 := [(qF, .inr (1, [.ref qFb, .ref qFl, .ref qFa, .int (iI (fs)), .int (iI (n)), .int (iI (q1_13))])), (qFb, .inl (cyI, 60, .inl (xA (fb))))]) hP hD [0, 1] rfl rfl hk1 hP1
            generalize H1 = H at hP hS ⊢
            have hP : va_P D vwCl [(qF, .inr (1, [.ref qFb, .ref qFl, .ref qFa, .int (iI (fs)), .int (iI (n)), .int (iI (q1_13))])), (qFb, .inl (cyI, 60, .inl (xA (fb)))), (qFl, .inl (cyI, 6, .inl (xA (f1)))), (qFa, .inl (cyI, 6, .inl (xA (f2))))] H := hP
            have hD : va_D A [(qF, .inr (1, [.ref qFb, .ref qFl, .ref qFa, .int (iI (fs)), .int (iI (n)), .int (iI (q1_13))])), (qFb, .inl (cyI, 60, .inl (xA (fb)))), (qFl, .inl (cyI, 6, .inl (xA (f1)))), (qFa, .inl (cyI, 6, .inl (xA (f2))))] := hD
            obtain ⟨hre, hw_14⟩ := hw
            have hw_14 : ((q1 < fs ∧ fb q1 = 59 → q1_13 = q1 + 1) ∧ (¬ (q1 < fs ∧ fb q1 = 59) → q1_13 = q1)) := hw_14
            rw [show r_ = iI (b2 (q1 < fs ∧ fb q1 = 59)) from hre]
            obtain ⟨hps1, hps2⟩ := hw_14
            refine xb_if_neB (tgt := 61) hx hb dX1_parse_53 (by decide) (fun h_15 => ?_) (fun h_15 => ?_)
            · have hq7 : (q1_13) = if 0 < n then q1 + 1 else q1 := by first | (rw [if_neg (by omega)]; done) | (rw [if_pos (by omega)]; omega)
              refine lv_aload_n hx hb dX1_parse_61 rfl (lv_at hl 0 rfl) ?_
              have hf_16 := ppV_in (fb := fb) n f1 f2 (q := q1_13) (fs := fs) (by omega)
              have hPc := hP.sub (ws' := [(qF, .inr (1, [.ref qFb, .ref qFl, .ref qFa, .int (iI (fs)), .int (iI (n)), .int (iI (q1_13))])), (qFb, .inl (cyI, 60, .inl (xA (fb)))), (qFl, .inl (cyI, 6, .inl (xA (f1)))), (qFa, .inl (cyI, 6, .inl (xA (f2))))]) [0, 1, 2, 3] rfl
              have hDc := hD.sub (ws' := [(qF, .inr (1, [.ref qFb, .ref qFl, .ref qFa, .int (iI (fs)), .int (iI (n)), .int (iI (q1_13))])), (qFb, .inl (cyI, 60, .inl (xA (fb)))), (qFl, .inl (cyI, 6, .inl (xA (f1)))), (qFa, .inl (cyI, 6, .inl (xA (f2))))]) [0, 1, 2, 3] (by decide) rfl
              have hFc := va_free (wc := [(qF, .inr (1, [.ref qFb, .ref qFl, .ref qFa, .int (iI (fs)), .int (iI (n)), .int (iI (q1_13))])), (qFb, .inl (cyI, 60, .inl (xA (fb)))), (qFl, .inl (cyI, 6, .inl (xA (f1)))), (qFa, .inl (cyI, 6, .inl (xA (f2))))]) hD hS hA [0, 1, 2, 3] rfl
              refine va_calli (va_runV (As := []) (rest := []) ⟨hx, hb, hml, hown, hts⟩ (c_X1_parsePair l D cyI cyJ cyO qF qFb qFl qFa fs n q1_13 fb f1 f2 H.size (by first | exact h_fs | assumption | omega) (by first | exact h_fb | assumption | omega) (by first | exact h_fq | assumption | omega) (by first | exact h_fp | assumption | omega) (by first | exact h_fl | assumption | omega) (by first | exact h_fa | assumption | omega)) (cwV 0 hts gX1_parse_X1_parsePair rfl rfl rfl (by decide +kernel) ⟨Nat.le_of_ble_eq_true rfl, Nat.le_of_ble_eq_true rfl⟩) (xpVM hPc hK hDc (ci := 1) (q0 := 0) (q := (RX1, TX1, 6)) rfl rfl) rfl rfl hl.1 rfl (lv_room (Nat.le_of_ble_eq_true rfl)) dX1_parse_62 ⟨Nat.le_of_ble_eq_true rfl, Nat.le_of_ble_eq_true rfl⟩) hS (fun q _ h => hFc q h) hFc (fun r_ u_17 t_ H1 locs ht_ hvm hw hB hz1 hk1 hS => ?_)
              obtain ⟨q9_18, l9_19, a9_20⟩ := u_17
              obtain ⟨hP1, hK1, hD1⟩ := hB
              rw [ht_] at hP1
              obtain ⟨hP, hD⟩ := xj (wc := [(qF, .inr (1, [.ref qFb, .ref qFl, .ref qFa, .int (iI (fs)), .int (iI (n)), .int (iI (q1_13))])), (qFb, .inl (cyI, 60, .inl (xA (fb)))), (qFl, .inl (cyI, 6, .inl (xA (f1)))), (qFa, .inl (cyI, 6, .inl (xA (f2))))]) (w1 := [(qF, .inr (1, [.ref qFb, .ref qFl, .ref qFa, .int (iI (fs)), .int (iI (n)), .int (iI (q9_18))])), (qFb, .inl (cyI, 60, .inl (xA (fb)))), (qFl, .inl (cyI, 6, .inl (xA (l9_19)))), (qFa, .inl (cyI, 6, .inl (xA (a9_20))))]) hP hD [0, 1, 2, 3] rfl rfl hk1 hP1
              generalize H1 = H at hP hS ⊢
              have hP : va_P D vwCl [(qF, .inr (1, [.ref qFb, .ref qFl, .ref qFa, .int (iI (fs)), .int (iI (n)), .int (iI (q9_18))])), (qFb, .inl (cyI, 60, .inl (xA (fb)))), (qFl, .inl (cyI, 6, .inl (xA (l9_19)))), (qFa, .inl (cyI, 6, .inl (xA (a9_20))))] H := hP
              have hD : va_D A [(qF, .inr (1, [.ref qFb, .ref qFl, .ref qFa, .int (iI (fs)), .int (iI (n)), .int (iI (q9_18))])), (qFb, .inl (cyI, 60, .inl (xA (fb)))), (qFl, .inl (cyI, 6, .inl (xA (l9_19)))), (qFa, .inl (cyI, 6, .inl (xA (a9_20))))] := hD
              obtain ⟨hre, hw_21⟩ := hw
              have hw_21 : (q1_13 ≤ q9_18 ∧ q9_18 ≤ fs) ∧ (ppV fb fs q1_13 n f1 f2 = -1 → q9_18 = ppQ fb fs q1_13 ∧ l9_19 = uz f1 n (ppL fb fs q1_13) ∧ a9_20 = uz f2 n (ppA fb fs q1_13)) ∧ (ppV fb fs q1_13 n f1 f2 ≠ -1 → l9_19 = f1 ∧ a9_20 = f2) ∧ (∀ j, 0 ≤ l9_19 j ∧ l9_19 j ≤ 999) ∧ (∀ j, 0 ≤ a9_20 j ∧ a9_20 j ≤ 999) := hw_21
              rw [show r_ = iI (ppV fb fs q1_13 n f1 f2) from hre]
              obtain ⟨hpp1, hpp2, hpp3, hpp4, hpp5⟩ := hw_21
              refine lv_istore_n (lv' := [(1, .int (iI (ppV fb fs q1_13 n f1 f2))), (0, .ref qF)]) hx hb dX1_parse_65 rfl hl (by decide) rfl (fun ls hl => ?_)
              refine lv_iload_n hx hb dX1_parse_66 rfl (lv_at hl 0 rfl) ?_
              refine xi_const hx hb dX1_parse_67 ?_
              refine xb_icmp_eq (tgt := 73) hx hb dX1_parse_68 (by decide) (by omega) (fun h_22 => ?_) (fun h_22 => ?_)
              · refine lv_aload_n hx hb dX1_parse_73 rfl (lv_at hl 1 rfl) ?_
                refine lv_dup hx hb dX1_parse_74 rfl ?_
                refine va_get (D := D) (ci := 1) (C := RX1) (T := TX1) (N := 6) hx hb hts hcX1 hown hK hP 0 rfl rfl 4 (by decide) (hts (.fieldLink RX1 25 "WallMarks$Flows" "pairs" "I") (List.mem_of_getElem? (i := 2) (by decide +kernel))) (fun _ h9 => h9) rfl dX1_parse_75 ?_
                refine xi_const hx hb dX1_parse_78 ?_
                refine xi_add hx hb dX1_parse_79 ?_
                refine va_put (D := D) (ci := 1) (v := .int (iI (n + 1))) (ty := .int) (C := RX1) (T := TX1) (N := 6) hx hb hts hcX1 tyX1 tyX1_ok nmX1 hown hK hP hD hS 0 rfl rfl 4 (by decide) (hts (.fieldLink RX1 25 "WallMarks$Flows" "pairs" "I") (List.mem_of_getElem? (i := 2) (by decide +kernel))) (fun _ h9 => h9) rfl (by decide +kernel) rfl rfl (Nat.le_of_ble_eq_true rfl) dX1_parse_80 (fun H locs hP hD hS => ?_)
                have hP : va_P D vwCl [(qF, .inr (1, [.ref qFb, .ref qFl, .ref qFa, .int (iI (fs)), .int (iI (n + 1)), .int (iI (q9_18))])), (qFb, .inl (cyI, 60, .inl (xA (fb)))), (qFl, .inl (cyI, 6, .inl (xA (l9_19)))), (qFa, .inl (cyI, 6, .inl (xA (a9_20))))] H := hP
                have hD : va_D A [(qF, .inr (1, [.ref qFb, .ref qFl, .ref qFa, .int (iI (fs)), .int (iI (n + 1)), .int (iI (q9_18))])), (qFb, .inl (cyI, 60, .inl (xA (fb)))), (qFl, .inl (cyI, 6, .inl (xA (l9_19)))), (qFa, .inl (cyI, 6, .inl (xA (a9_20))))] := hD
                refine lv_goto (tgt := 10) hx hb dX1_parse_83 (by decide) ?_
                exact ih_10 (n + 1) (q9_18) (l9_19) (a9_20) (by first | assumption | omega | (constructor <;> omega)) (by omega) (by first | rfl | (rw [← hp, psF_d (q0 := _) (by omega) (by omega) (by omega) hq7 (by assumption)]; obtain ⟨e1, e2, e3⟩ := hpp2 (by assumption); rw [e1, e2, e3])) (by first | assumption | exact h_fl) (by first | assumption | exact h_fa) (by omega) _ _ hP hD hS ls (lv_sub hl [1] rfl)
              · refine lv_iload_n hx hb dX1_parse_71 rfl (lv_at hl 0 rfl) ?_
                have hV := (psF_c (fb := fb) (fl := f1) (fa := f2) (q := q1) (n := n) (by omega) (by omega) (by omega) hq7 rfl (by assumption)).symm.trans hp
                obtain ⟨e2, e3⟩ := hpp3 (by assumption)
                have he0 : (n : Int) = ((psF fb fs 6 0 0 fl fa).2.1) := by rw [← hV]
                have he1 : (l9_19 : Int → Int) = ((psF fb fs 6 0 0 fl fa).2.2.1) := by first | (rw [← hV]; done) | (rw [← hV]; exact e2)
                have he2 : (a9_20 : Int → Int) = ((psF fb fs 6 0 0 fl fa).2.2.2) := by first | (rw [← hV]; done) | (rw [← hV]; exact e3)
                have hW8 := congr (congr (congrArg (fun (xv0 : Int) (xv1 : Int → Int) (xv2 : Int → Int) => ([(qF, .inr (1, [.ref qFb, .ref qFl, .ref qFa, .int (iI (fs)), .int (iI (xv0)), .int (iI (q9_18))])), (qFb, .inl (cyI, 60, .inl (xA (fb)))), (qFl, .inl (cyI, 6, .inl (xA (xv1)))), (qFa, .inl (cyI, 6, .inl (xA (xv2))))] : va_W)) he0) he1) he2
                have hW9 : ([(qF, .inr (1, [.ref qFb, .ref qFl, .ref qFa, .int (iI (fs)), .int (iI (n)), .int (iI (q9_18))])), (qFb, .inl (cyI, 60, .inl (xA (fb)))), (qFl, .inl (cyI, 6, .inl (xA (l9_19)))), (qFa, .inl (cyI, 6, .inl (xA (a9_20))))] : va_W) = [(qF, .inr (1, [.ref qFb, .ref qFl, .ref qFa, .int (iI (fs)), .int (iI ((psF fb fs 6 0 0 fl fa).2.1)), .int (iI (q9_18))])), (qFb, .inl (cyI, 60, .inl (xA (fb)))), (qFl, .inl (cyI, 6, .inl (xA ((psF fb fs 6 0 0 fl fa).2.2.1)))), (qFa, .inl (cyI, 6, .inl (xA ((psF fb fs 6 0 0 fl fa).2.2.2))))] := hW8
                rw [hW9] at hP hD
                exact W.iret (v := iI (ppV fb fs q1_13 n f1 f2)) hx hb hr (fun t_ ht_ hW_ => ⟨⟨_, (q9_18), rfl, ⟨(congrArg iI (show (ppV fb fs q1_13 n f1 f2) = ((psF fb fs 6 0 0 fl fa).1) from by first | (rw [← hV]; done) | (rw [← hV]; exact hps2 (by assumption)) | (rw [← hV]; dsimp only; first | rw [if_pos (by omega)] | rw [if_neg (by omega)]))), ⟨(show 0 ≤ q9_18 ∧ q9_18 ≤ fs from by omega), (show ∀ j, 0 ≤ (psF fb fs 6 0 0 fl fa).2.2.1 j ∧ (psF fb fs 6 0 0 fl fa).2.2.1 j ≤ 999 from by rw [← hV]; assumption), (show ∀ j, 0 ≤ (psF fb fs 6 0 0 fl fa).2.2.2 j ∧ (psF fb fs 6 0 0 fl fa).2.2.2 j ≤ 999 from by rw [← hV]; assumption)⟩⟩, by rw [ht_]; exact hP, va_K.moved hW_.alike hK, hD⟩, hS.F ht_⟩) hS.2.2 dX1_parse_72
            · refine lv_aload_n hx hb dX1_parse_56 rfl (lv_at hl 0 rfl) ?_
              refine va_get (D := D) (ci := 1) (C := RX1) (T := TX1) (N := 6) hx hb hts hcX1 hown hK hP 0 rfl rfl 5 (by decide) (hts (.fieldLink RX1 28 "WallMarks$Flows" "place" "I") (List.mem_of_getElem? (i := 1) (by decide +kernel))) (fun _ h9 => h9) rfl dX1_parse_57 ?_
              have hV := (psF_b (fb := fb) (fl := f1) (fa := f2) (by omega) (by omega) ⟨by omega, by assumption⟩).symm.trans hp
              have he0 : (n : Int) = ((psF fb fs 6 0 0 fl fa).2.1) := by rw [← hV]
              have he1 : (f1 : Int → Int) = ((psF fb fs 6 0 0 fl fa).2.2.1) := by first | (rw [← hV]; done) | (rw [← hV]; exact e2)
              have he2 : (f2 : Int → Int) = ((psF fb fs 6 0 0 fl fa).2.2.2) := by first | (rw [← hV]; done) | (rw [← hV]; exact e3)
              have hW8 := congr (congr (congrArg (fun (xv0 : Int) (xv1 : Int → Int) (xv2 : Int → Int) => ([(qF, .inr (1, [.ref qFb, .ref qFl, .ref qFa, .int (iI (fs)), .int (iI (xv0)), .int (iI (q1_13))])), (qFb, .inl (cyI, 60, .inl (xA (fb)))), (qFl, .inl (cyI, 6, .inl (xA (xv1)))), (qFa, .inl (cyI, 6, .inl (xA (xv2))))] : va_W)) he0) he1) he2
              have hW9 : ([(qF, .inr (1, [.ref qFb, .ref qFl, .ref qFa, .int (iI (fs)), .int (iI (n)), .int (iI (q1_13))])), (qFb, .inl (cyI, 60, .inl (xA (fb)))), (qFl, .inl (cyI, 6, .inl (xA (f1)))), (qFa, .inl (cyI, 6, .inl (xA (f2))))] : va_W) = [(qF, .inr (1, [.ref qFb, .ref qFl, .ref qFa, .int (iI (fs)), .int (iI ((psF fb fs 6 0 0 fl fa).2.1)), .int (iI (q1_13))])), (qFb, .inl (cyI, 60, .inl (xA (fb)))), (qFl, .inl (cyI, 6, .inl (xA ((psF fb fs 6 0 0 fl fa).2.2.1)))), (qFa, .inl (cyI, 6, .inl (xA ((psF fb fs 6 0 0 fl fa).2.2.2))))] := hW8
              rw [hW9] at hP hD
              exact W.iret (v := iI (q1_13)) hx hb hr (fun t_ ht_ hW_ => ⟨⟨_, (q1_13), rfl, ⟨(congrArg iI (show (q1_13) = ((psF fb fs 6 0 0 fl fa).1) from by first | (rw [← hV]; done) | (rw [← hV]; exact hps2 (by assumption)) | (rw [← hV]; dsimp only; first | rw [if_pos (by omega)] | rw [if_neg (by omega)]))), ⟨(show 0 ≤ q1_13 ∧ q1_13 ≤ fs from by omega), (show ∀ j, 0 ≤ (psF fb fs 6 0 0 fl fa).2.2.1 j ∧ (psF fb fs 6 0 0 fl fa).2.2.1 j ≤ 999 from by rw [← hV]; assumption), (show ∀ j, 0 ≤ (psF fb fs 6 0 0 fl fa).2.2.2 j ∧ (psF fb fs 6 0 0 fl fa).2.2.2 j ≤ 999 from by rw [← hV]; assumption)⟩⟩, by rw [ht_]; exact hP, va_K.moved hW_.alike hK, hD⟩, hS.F ht_⟩) hS.2.2 dX1_parse_60
        · refine lv_aload_n hx hb dX1_parse_27 rfl (lv_at hl 0 rfl) ?_
          refine va_get (D := D) (ci := 1) (C := RX1) (T := TX1) (N := 6) hx hb hts hcX1 hown hK hP 0 rfl rfl 5 (by decide) (hts (.fieldLink RX1 28 "WallMarks$Flows" "place" "I") (List.mem_of_getElem? (i := 1) (by decide +kernel))) (fun _ h9 => h9) rfl dX1_parse_28 ?_
          refine lv_aload_n hx hb dX1_parse_31 rfl (lv_at hl 0 rfl) ?_
          refine va_get (D := D) (ci := 1) (C := RX1) (T := TX1) (N := 6) hx hb hts hcX1 hown hK hP 0 rfl rfl 3 (by decide) (hts (.fieldLink RX1 21 "WallMarks$Flows" "size" "I") (List.mem_of_getElem? (i := 3) (by decide +kernel))) (fun _ h9 => h9) rfl dX1_parse_32 ?_
          refine xb_icmp_ne (tgt := 40) hx hb dX1_parse_35 (by decide) (by omega) (fun h_23 => ?_) (fun h_23 => ?_)
          · refine lv_aload_n hx hb dX1_parse_40 rfl (lv_at hl 0 rfl) ?_
            refine va_get (D := D) (ci := 1) (C := RX1) (T := TX1) (N := 6) hx hb hts hcX1 hown hK hP 0 rfl rfl 4 (by decide) (hts (.fieldLink RX1 25 "WallMarks$Flows" "pairs" "I") (List.mem_of_getElem? (i := 2) (by decide +kernel))) (fun _ h9 => h9) rfl dX1_parse_41 ?_
            refine xb_if_le (tgt := 61) hx hb dX1_parse_44 (by decide) (by omega) (fun h_24 => ?_) (fun h_24 => ?_)
            · have hq7 : (q1) = if 0 < n then q1 + 1 else q1 := by first | (rw [if_neg (by omega)]; done) | (rw [if_pos (by omega)]; omega)
              refine lv_aload_n hx hb dX1_parse_61 rfl (lv_at hl 0 rfl) ?_
              have hf_25 := ppV_in (fb := fb) n f1 f2 (q := q1) (fs := fs) (by omega)
              have hPc := hP.sub (ws' := [(qF, .inr (1, [.ref qFb, .ref qFl, .ref qFa, .int (iI (fs)), .int (iI (n)), .int (iI (q1))])), (qFb, .inl (cyI, 60, .inl (xA (fb)))), (qFl, .inl (cyI, 6, .inl (xA (f1)))), (qFa, .inl (cyI, 6, .inl (xA (f2))))]) [0, 1, 2, 3] rfl
              have hDc := hD.sub (ws' := [(qF, .inr (1, [.ref qFb, .ref qFl, .ref qFa, .int (iI (fs)), .int (iI (n)), .int (iI (q1))])), (qFb, .inl (cyI, 60, .inl (xA (fb)))), (qFl, .inl (cyI, 6, .inl (xA (f1)))), (qFa, .inl (cyI, 6, .inl (xA (f2))))]) [0, 1, 2, 3] (by decide) rfl
              have hFc := va_free (wc := [(qF, .inr (1, [.ref qFb, .ref qFl, .ref qFa, .int (iI (fs)), .int (iI (n)), .int (iI (q1))])), (qFb, .inl (cyI, 60, .inl (xA (fb)))), (qFl, .inl (cyI, 6, .inl (xA (f1)))), (qFa, .inl (cyI, 6, .inl (xA (f2))))]) hD hS hA [0, 1, 2, 3] rfl
              refine va_calli (va_runV (As := []) (rest := []) ⟨hx, hb, hml, hown, hts⟩ (c_X1_parsePair l D cyI cyJ cyO qF qFb qFl qFa fs n q1 fb f1 f2 H.size (by first | exact h_fs | assumption | omega) (by first | exact h_fb | assumption | omega) (by first | exact h_fq | assumption | omega) (by first | exact h_fp | assumption | omega) (by first | exact h_fl | assumption | omega) (by first | exact h_fa | assumption | omega)) (cwV 0 hts gX1_parse_X1_parsePair rfl rfl rfl (by decide +kernel) ⟨Nat.le_of_ble_eq_true rfl, Nat.le_of_ble_eq_true rfl⟩) (xpVM hPc hK hDc (ci := 1) (q0 := 0) (q := (RX1, TX1, 6)) rfl rfl) rfl rfl hl.1 rfl (lv_room (Nat.le_of_ble_eq_true rfl)) dX1_parse_62 ⟨Nat.le_of_ble_eq_true rfl, Nat.le_of_ble_eq_true rfl⟩) hS (fun q _ h => hFc q h) hFc (fun r_ u_26 t_ H1 locs ht_ hvm hw hB hz1 hk1 hS => ?_)
              obtain ⟨q9_27, l9_28, a9_29⟩ := u_26
              obtain ⟨hP1, hK1, hD1⟩ := hB
              rw [ht_] at hP1
              obtain ⟨hP, hD⟩ := xj (wc := [(qF, .inr (1, [.ref qFb, .ref qFl, .ref qFa, .int (iI (fs)), .int (iI (n)), .int (iI (q1))])), (qFb, .inl (cyI, 60, .inl (xA (fb)))), (qFl, .inl (cyI, 6, .inl (xA (f1)))), (qFa, .inl (cyI, 6, .inl (xA (f2))))]) (w1 := [(qF, .inr (1, [.ref qFb, .ref qFl, .ref qFa, .int (iI (fs)), .int (iI (n)), .int (iI (q9_27))])), (qFb, .inl (cyI, 60, .inl (xA (fb)))), (qFl, .inl (cyI, 6, .inl (xA (l9_28)))), (qFa, .inl (cyI, 6, .inl (xA (a9_29))))]) hP hD [0, 1, 2, 3] rfl rfl hk1 hP1
              generalize H1 = H at hP hS ⊢
              have hP : va_P D vwCl [(qF, .inr (1, [.ref qFb, .ref qFl, .ref qFa, .int (iI (fs)), .int (iI (n)), .int (iI (q9_27))])), (qFb, .inl (cyI, 60, .inl (xA (fb)))), (qFl, .inl (cyI, 6, .inl (xA (l9_28)))), (qFa, .inl (cyI, 6, .inl (xA (a9_29))))] H := hP
              have hD : va_D A [(qF, .inr (1, [.ref qFb, .ref qFl, .ref qFa, .int (iI (fs)), .int (iI (n)), .int (iI (q9_27))])), (qFb, .inl (cyI, 60, .inl (xA (fb)))), (qFl, .inl (cyI, 6, .inl (xA (l9_28)))), (qFa, .inl (cyI, 6, .inl (xA (a9_29))))] := hD
              obtain ⟨hre, hw_30⟩ := hw
              have hw_30 : (q1 ≤ q9_27 ∧ q9_27 ≤ fs) ∧ (ppV fb fs q1 n f1 f2 = -1 → q9_27 = ppQ fb fs q1 ∧ l9_28 = uz f1 n (ppL fb fs q1) ∧ a9_29 = uz f2 n (ppA fb fs q1)) ∧ (ppV fb fs q1 n f1 f2 ≠ -1 → l9_28 = f1 ∧ a9_29 = f2) ∧ (∀ j, 0 ≤ l9_28 j ∧ l9_28 j ≤ 999) ∧ (∀ j, 0 ≤ a9_29 j ∧ a9_29 j ≤ 999) := hw_30
              rw [show r_ = iI (ppV fb fs q1 n f1 f2) from hre]
              obtain ⟨hpp1, hpp2, hpp3, hpp4, hpp5⟩ := hw_30
              refine lv_istore_n (lv' := [(1, .int (iI (ppV fb fs q1 n f1 f2))), (0, .ref qF)]) hx hb dX1_parse_65 rfl hl (by decide) rfl (fun ls hl => ?_)
              refine lv_iload_n hx hb dX1_parse_66 rfl (lv_at hl 0 rfl) ?_
              refine xi_const hx hb dX1_parse_67 ?_
              refine xb_icmp_eq (tgt := 73) hx hb dX1_parse_68 (by decide) (by omega) (fun h_31 => ?_) (fun h_31 => ?_)
              · refine lv_aload_n hx hb dX1_parse_73 rfl (lv_at hl 1 rfl) ?_
                refine lv_dup hx hb dX1_parse_74 rfl ?_
                refine va_get (D := D) (ci := 1) (C := RX1) (T := TX1) (N := 6) hx hb hts hcX1 hown hK hP 0 rfl rfl 4 (by decide) (hts (.fieldLink RX1 25 "WallMarks$Flows" "pairs" "I") (List.mem_of_getElem? (i := 2) (by decide +kernel))) (fun _ h9 => h9) rfl dX1_parse_75 ?_
                refine xi_const hx hb dX1_parse_78 ?_
                refine xi_add hx hb dX1_parse_79 ?_
                refine va_put (D := D) (ci := 1) (v := .int (iI (n + 1))) (ty := .int) (C := RX1) (T := TX1) (N := 6) hx hb hts hcX1 tyX1 tyX1_ok nmX1 hown hK hP hD hS 0 rfl rfl 4 (by decide) (hts (.fieldLink RX1 25 "WallMarks$Flows" "pairs" "I") (List.mem_of_getElem? (i := 2) (by decide +kernel))) (fun _ h9 => h9) rfl (by decide +kernel) rfl rfl (Nat.le_of_ble_eq_true rfl) dX1_parse_80 (fun H locs hP hD hS => ?_)
                have hP : va_P D vwCl [(qF, .inr (1, [.ref qFb, .ref qFl, .ref qFa, .int (iI (fs)), .int (iI (n + 1)), .int (iI (q9_27))])), (qFb, .inl (cyI, 60, .inl (xA (fb)))), (qFl, .inl (cyI, 6, .inl (xA (l9_28)))), (qFa, .inl (cyI, 6, .inl (xA (a9_29))))] H := hP
                have hD : va_D A [(qF, .inr (1, [.ref qFb, .ref qFl, .ref qFa, .int (iI (fs)), .int (iI (n + 1)), .int (iI (q9_27))])), (qFb, .inl (cyI, 60, .inl (xA (fb)))), (qFl, .inl (cyI, 6, .inl (xA (l9_28)))), (qFa, .inl (cyI, 6, .inl (xA (a9_29))))] := hD
                refine lv_goto (tgt := 10) hx hb dX1_parse_83 (by decide) ?_
                exact ih_10 (n + 1) (q9_27) (l9_28) (a9_29) (by first | assumption | omega | (constructor <;> omega)) (by omega) (by first | rfl | (rw [← hp, psF_d (q0 := _) (by omega) (by omega) (by omega) hq7 (by assumption)]; obtain ⟨e1, e2, e3⟩ := hpp2 (by assumption); rw [e1, e2, e3])) (by first | assumption | exact h_fl) (by first | assumption | exact h_fa) (by omega) _ _ hP hD hS ls (lv_sub hl [1] rfl)
              · refine lv_iload_n hx hb dX1_parse_71 rfl (lv_at hl 0 rfl) ?_
                have hV := (psF_c (fb := fb) (fl := f1) (fa := f2) (q := q1) (n := n) (by omega) (by omega) (by omega) hq7 rfl (by assumption)).symm.trans hp
                obtain ⟨e2, e3⟩ := hpp3 (by assumption)
                have he0 : (n : Int) = ((psF fb fs 6 0 0 fl fa).2.1) := by rw [← hV]
                have he1 : (l9_28 : Int → Int) = ((psF fb fs 6 0 0 fl fa).2.2.1) := by first | (rw [← hV]; done) | (rw [← hV]; exact e2)
                have he2 : (a9_29 : Int → Int) = ((psF fb fs 6 0 0 fl fa).2.2.2) := by first | (rw [← hV]; done) | (rw [← hV]; exact e3)
                have hW8 := congr (congr (congrArg (fun (xv0 : Int) (xv1 : Int → Int) (xv2 : Int → Int) => ([(qF, .inr (1, [.ref qFb, .ref qFl, .ref qFa, .int (iI (fs)), .int (iI (xv0)), .int (iI (q9_27))])), (qFb, .inl (cyI, 60, .inl (xA (fb)))), (qFl, .inl (cyI, 6, .inl (xA (xv1)))), (qFa, .inl (cyI, 6, .inl (xA (xv2))))] : va_W)) he0) he1) he2
                have hW9 : ([(qF, .inr (1, [.ref qFb, .ref qFl, .ref qFa, .int (iI (fs)), .int (iI (n)), .int (iI (q9_27))])), (qFb, .inl (cyI, 60, .inl (xA (fb)))), (qFl, .inl (cyI, 6, .inl (xA (l9_28)))), (qFa, .inl (cyI, 6, .inl (xA (a9_29))))] : va_W) = [(qF, .inr (1, [.ref qFb, .ref qFl, .ref qFa, .int (iI (fs)), .int (iI ((psF fb fs 6 0 0 fl fa).2.1)), .int (iI (q9_27))])), (qFb, .inl (cyI, 60, .inl (xA (fb)))), (qFl, .inl (cyI, 6, .inl (xA ((psF fb fs 6 0 0 fl fa).2.2.1)))), (qFa, .inl (cyI, 6, .inl (xA ((psF fb fs 6 0 0 fl fa).2.2.2))))] := hW8
                rw [hW9] at hP hD
                exact W.iret (v := iI (ppV fb fs q1 n f1 f2)) hx hb hr (fun t_ ht_ hW_ => ⟨⟨_, (q9_27), rfl, ⟨(congrArg iI (show (ppV fb fs q1 n f1 f2) = ((psF fb fs 6 0 0 fl fa).1) from by first | (rw [← hV]; done) | (rw [← hV]; exact hps2 (by assumption)) | (rw [← hV]; dsimp only; first | rw [if_pos (by omega)] | rw [if_neg (by omega)]))), ⟨(show 0 ≤ q9_27 ∧ q9_27 ≤ fs from by omega), (show ∀ j, 0 ≤ (psF fb fs 6 0 0 fl fa).2.2.1 j ∧ (psF fb fs 6 0 0 fl fa).2.2.1 j ≤ 999 from by rw [← hV]; assumption), (show ∀ j, 0 ≤ (psF fb fs 6 0 0 fl fa).2.2.2 j ∧ (psF fb fs 6 0 0 fl fa).2.2.2 j ≤ 999 from by rw [← hV]; assumption)⟩⟩, by rw [ht_]; exact hP, va_K.moved hW_.alike hK, hD⟩, hS.F ht_⟩) hS.2.2 dX1_parse_72
            · refine lv_aload_n hx hb dX1_parse_47 rfl (lv_at hl 0 rfl) ?_
              refine xi_bipush hx hb dX1_parse_48 (by decide +kernel) ?_
              have hPc := hP.sub (ws' := [(qF, .inr (1, [.ref qFb, .ref qFl, .ref qFa, .int (iI (fs)), .int (iI (n)), .int (iI (q1))])), (qFb, .inl (cyI, 60, .inl (xA (fb))))]) [0, 1] rfl
              have hDc := hD.sub (ws' := [(qF, .inr (1, [.ref qFb, .ref qFl, .ref qFa, .int (iI (fs)), .int (iI (n)), .int (iI (q1))])), (qFb, .inl (cyI, 60, .inl (xA (fb))))]) [0, 1] (by decide) rfl
              have hFc := va_free (wc := [(qF, .inr (1, [.ref qFb, .ref qFl, .ref qFa, .int (iI (fs)), .int (iI (n)), .int (iI (q1))])), (qFb, .inl (cyI, 60, .inl (xA (fb))))]) hD hS hA [0, 1] rfl
              refine va_calli (va_runV (As := [.int (iI (59))]) (rest := []) ⟨hx, hb, hml, hown, hts⟩ (c_X1_passes l D cyI cyJ cyO qF qFb qFl qFa fs n q1 fb H.size 59 (by first | exact h_fs | assumption | omega) (by first | exact h_fb | assumption | omega) (by first | exact h_fq | assumption | omega) (by first | exact h_sg | assumption | omega)) (cwV 1 hts gX1_parse_X1_passes rfl rfl rfl (by decide +kernel) ⟨Nat.le_of_ble_eq_true rfl, Nat.le_of_ble_eq_true rfl⟩) (xpVM hPc hK hDc (ci := 1) (q0 := 0) (q := (RX1, TX1, 6)) rfl rfl) rfl rfl hl.1 rfl (lv_room (Nat.le_of_ble_eq_true rfl)) dX1_parse_50 ⟨Nat.le_of_ble_eq_true rfl, Nat.le_of_ble_eq_true rfl⟩) hS (fun q _ h => hFc q h) hFc (fun r_ u_32 t_ H1 locs ht_ hvm hw hB hz1 hk1 hS => ?_)
              obtain ⟨q1_33, rfl⟩ : ∃ z, z = u_32 := ⟨_, rfl⟩
              obtain ⟨hP1, hK1, hD1⟩ := hB
              rw [ht_] at hP1
              obtain ⟨hP, hD⟩ := xj (wc := [(qF, .inr (1, [.ref qFb, .ref qFl, .ref qFa, .int (iI (fs)), .int (iI (n)), .int (iI (q1))])), (qFb, .inl (cyI, 60, .inl (xA (fb))))]) (w1 := [(qF, .inr (1, [.ref qFb, .ref qFl, .ref qFa, .int (iI (fs)), .int (iI (n)), .int (iI (q1_33))])), (qFb, .inl (cyI, 60, .inl (xA (fb))))]) hP hD [0, 1] rfl rfl hk1 hP1
              generalize H1 = H at hP hS ⊢
              have hP : va_P D vwCl [(qF, .inr (1, [.ref qFb, .ref qFl, .ref qFa, .int (iI (fs)), .int (iI (n)), .int (iI (q1_33))])), (qFb, .inl (cyI, 60, .inl (xA (fb)))), (qFl, .inl (cyI, 6, .inl (xA (f1)))), (qFa, .inl (cyI, 6, .inl (xA (f2))))] H := hP
              have hD : va_D A [(qF, .inr (1, [.ref qFb, .ref qFl, .ref qFa, .int (iI (fs)), .int (iI (n)), .int (iI (q1_33))])), (qFb, .inl (cyI, 60, .inl (xA (fb)))), (qFl, .inl (cyI, 6, .inl (xA (f1)))), (qFa, .inl (cyI, 6, .inl (xA (f2))))] := hD
              obtain ⟨hre, hw_34⟩ := hw
              have hw_34 : ((q1 < fs ∧ fb q1 = 59 → q1_33 = q1 + 1) ∧ (¬ (q1 < fs ∧ fb q1 = 59) → q1_33 = q1)) := hw_34
              rw [show r_ = iI (b2 (q1 < fs ∧ fb q1 = 59)) from hre]
              obtain ⟨hps1, hps2⟩ := hw_34
              refine xb_if_neB (tgt := 61) hx hb dX1_parse_53 (by decide) (fun h_35 => ?_) (fun h_35 => ?_)
              · have hq7 : (q1_33) = if 0 < n then q1 + 1 else q1 := by first | (rw [if_neg (by omega)]; done) | (rw [if_pos (by omega)]; omega)
                refine lv_aload_n hx hb dX1_parse_61 rfl (lv_at hl 0 rfl) ?_
                have hf_36 := ppV_in (fb := fb) n f1 f2 (q := q1_33) (fs := fs) (by omega)
                have hPc := hP.sub (ws' := [(qF, .inr (1, [.ref qFb, .ref qFl, .ref qFa, .int (iI (fs)), .int (iI (n)), .int (iI (q1_33))])), (qFb, .inl (cyI, 60, .inl (xA (fb)))), (qFl, .inl (cyI, 6, .inl (xA (f1)))), (qFa, .inl (cyI, 6, .inl (xA (f2))))]) [0, 1, 2, 3] rfl
                have hDc := hD.sub (ws' := [(qF, .inr (1, [.ref qFb, .ref qFl, .ref qFa, .int (iI (fs)), .int (iI (n)), .int (iI (q1_33))])), (qFb, .inl (cyI, 60, .inl (xA (fb)))), (qFl, .inl (cyI, 6, .inl (xA (f1)))), (qFa, .inl (cyI, 6, .inl (xA (f2))))]) [0, 1, 2, 3] (by decide) rfl
                have hFc := va_free (wc := [(qF, .inr (1, [.ref qFb, .ref qFl, .ref qFa, .int (iI (fs)), .int (iI (n)), .int (iI (q1_33))])), (qFb, .inl (cyI, 60, .inl (xA (fb)))), (qFl, .inl (cyI, 6, .inl (xA (f1)))), (qFa, .inl (cyI, 6, .inl (xA (f2))))]) hD hS hA [0, 1, 2, 3] rfl
                refine va_calli (va_runV (As := []) (rest := []) ⟨hx, hb, hml, hown, hts⟩ (c_X1_parsePair l D cyI cyJ cyO qF qFb qFl qFa fs n q1_33 fb f1 f2 H.size (by first | exact h_fs | assumption | omega) (by first | exact h_fb | assumption | omega) (by first | exact h_fq | assumption | omega) (by first | exact h_fp | assumption | omega) (by first | exact h_fl | assumption | omega) (by first | exact h_fa | assumption | omega)) (cwV 0 hts gX1_parse_X1_parsePair rfl rfl rfl (by decide +kernel) ⟨Nat.le_of_ble_eq_true rfl, Nat.le_of_ble_eq_true rfl⟩) (xpVM hPc hK hDc (ci := 1) (q0 := 0) (q := (RX1, TX1, 6)) rfl rfl) rfl rfl hl.1 rfl (lv_room (Nat.le_of_ble_eq_true rfl)) dX1_parse_62 ⟨Nat.le_of_ble_eq_true rfl, Nat.le_of_ble_eq_true rfl⟩) hS (fun q _ h => hFc q h) hFc (fun r_ u_37 t_ H1 locs ht_ hvm hw hB hz1 hk1 hS => ?_)
                obtain ⟨q9_38, l9_39, a9_40⟩ := u_37
                obtain ⟨hP1, hK1, hD1⟩ := hB
                rw [ht_] at hP1
                obtain ⟨hP, hD⟩ := xj (wc := [(qF, .inr (1, [.ref qFb, .ref qFl, .ref qFa, .int (iI (fs)), .int (iI (n)), .int (iI (q1_33))])), (qFb, .inl (cyI, 60, .inl (xA (fb)))), (qFl, .inl (cyI, 6, .inl (xA (f1)))), (qFa, .inl (cyI, 6, .inl (xA (f2))))]) (w1 := [(qF, .inr (1, [.ref qFb, .ref qFl, .ref qFa, .int (iI (fs)), .int (iI (n)), .int (iI (q9_38))])), (qFb, .inl (cyI, 60, .inl (xA (fb)))), (qFl, .inl (cyI, 6, .inl (xA (l9_39)))), (qFa, .inl (cyI, 6, .inl (xA (a9_40))))]) hP hD [0, 1, 2, 3] rfl rfl hk1 hP1
                generalize H1 = H at hP hS ⊢
                have hP : va_P D vwCl [(qF, .inr (1, [.ref qFb, .ref qFl, .ref qFa, .int (iI (fs)), .int (iI (n)), .int (iI (q9_38))])), (qFb, .inl (cyI, 60, .inl (xA (fb)))), (qFl, .inl (cyI, 6, .inl (xA (l9_39)))), (qFa, .inl (cyI, 6, .inl (xA (a9_40))))] H := hP
                have hD : va_D A [(qF, .inr (1, [.ref qFb, .ref qFl, .ref qFa, .int (iI (fs)), .int (iI (n)), .int (iI (q9_38))])), (qFb, .inl (cyI, 60, .inl (xA (fb)))), (qFl, .inl (cyI, 6, .inl (xA (l9_39)))), (qFa, .inl (cyI, 6, .inl (xA (a9_40))))] := hD
                obtain ⟨hre, hw_41⟩ := hw
                have hw_41 : (q1_33 ≤ q9_38 ∧ q9_38 ≤ fs) ∧ (ppV fb fs q1_33 n f1 f2 = -1 → q9_38 = ppQ fb fs q1_33 ∧ l9_39 = uz f1 n (ppL fb fs q1_33) ∧ a9_40 = uz f2 n (ppA fb fs q1_33)) ∧ (ppV fb fs q1_33 n f1 f2 ≠ -1 → l9_39 = f1 ∧ a9_40 = f2) ∧ (∀ j, 0 ≤ l9_39 j ∧ l9_39 j ≤ 999) ∧ (∀ j, 0 ≤ a9_40 j ∧ a9_40 j ≤ 999) := hw_41
                rw [show r_ = iI (ppV fb fs q1_33 n f1 f2) from hre]
                obtain ⟨hpp1, hpp2, hpp3, hpp4, hpp5⟩ := hw_41
                refine lv_istore_n (lv' := [(1, .int (iI (ppV fb fs q1_33 n f1 f2))), (0, .ref qF)]) hx hb dX1_parse_65 rfl hl (by decide) rfl (fun ls hl => ?_)
                refine lv_iload_n hx hb dX1_parse_66 rfl (lv_at hl 0 rfl) ?_
                refine xi_const hx hb dX1_parse_67 ?_
                refine xb_icmp_eq (tgt := 73) hx hb dX1_parse_68 (by decide) (by omega) (fun h_42 => ?_) (fun h_42 => ?_)
                · refine lv_aload_n hx hb dX1_parse_73 rfl (lv_at hl 1 rfl) ?_
                  refine lv_dup hx hb dX1_parse_74 rfl ?_
                  refine va_get (D := D) (ci := 1) (C := RX1) (T := TX1) (N := 6) hx hb hts hcX1 hown hK hP 0 rfl rfl 4 (by decide) (hts (.fieldLink RX1 25 "WallMarks$Flows" "pairs" "I") (List.mem_of_getElem? (i := 2) (by decide +kernel))) (fun _ h9 => h9) rfl dX1_parse_75 ?_
                  refine xi_const hx hb dX1_parse_78 ?_
                  refine xi_add hx hb dX1_parse_79 ?_
                  refine va_put (D := D) (ci := 1) (v := .int (iI (n + 1))) (ty := .int) (C := RX1) (T := TX1) (N := 6) hx hb hts hcX1 tyX1 tyX1_ok nmX1 hown hK hP hD hS 0 rfl rfl 4 (by decide) (hts (.fieldLink RX1 25 "WallMarks$Flows" "pairs" "I") (List.mem_of_getElem? (i := 2) (by decide +kernel))) (fun _ h9 => h9) rfl (by decide +kernel) rfl rfl (Nat.le_of_ble_eq_true rfl) dX1_parse_80 (fun H locs hP hD hS => ?_)
                  have hP : va_P D vwCl [(qF, .inr (1, [.ref qFb, .ref qFl, .ref qFa, .int (iI (fs)), .int (iI (n + 1)), .int (iI (q9_38))])), (qFb, .inl (cyI, 60, .inl (xA (fb)))), (qFl, .inl (cyI, 6, .inl (xA (l9_39)))), (qFa, .inl (cyI, 6, .inl (xA (a9_40))))] H := hP
                  have hD : va_D A [(qF, .inr (1, [.ref qFb, .ref qFl, .ref qFa, .int (iI (fs)), .int (iI (n + 1)), .int (iI (q9_38))])), (qFb, .inl (cyI, 60, .inl (xA (fb)))), (qFl, .inl (cyI, 6, .inl (xA (l9_39)))), (qFa, .inl (cyI, 6, .inl (xA (a9_40))))] := hD
                  refine lv_goto (tgt := 10) hx hb dX1_parse_83 (by decide) ?_
                  exact ih_10 (n + 1) (q9_38) (l9_39) (a9_40) (by first | assumption | omega | (constructor <;> omega)) (by omega) (by first | rfl | (rw [← hp, psF_d (q0 := _) (by omega) (by omega) (by omega) hq7 (by assumption)]; obtain ⟨e1, e2, e3⟩ := hpp2 (by assumption); rw [e1, e2, e3])) (by first | assumption | exact h_fl) (by first | assumption | exact h_fa) (by omega) _ _ hP hD hS ls (lv_sub hl [1] rfl)
                · refine lv_iload_n hx hb dX1_parse_71 rfl (lv_at hl 0 rfl) ?_
                  have hV := (psF_c (fb := fb) (fl := f1) (fa := f2) (q := q1) (n := n) (by omega) (by omega) (by omega) hq7 rfl (by assumption)).symm.trans hp
                  obtain ⟨e2, e3⟩ := hpp3 (by assumption)
                  have he0 : (n : Int) = ((psF fb fs 6 0 0 fl fa).2.1) := by rw [← hV]
                  have he1 : (l9_39 : Int → Int) = ((psF fb fs 6 0 0 fl fa).2.2.1) := by first | (rw [← hV]; done) | (rw [← hV]; exact e2)
                  have he2 : (a9_40 : Int → Int) = ((psF fb fs 6 0 0 fl fa).2.2.2) := by first | (rw [← hV]; done) | (rw [← hV]; exact e3)
                  have hW8 := congr (congr (congrArg (fun (xv0 : Int) (xv1 : Int → Int) (xv2 : Int → Int) => ([(qF, .inr (1, [.ref qFb, .ref qFl, .ref qFa, .int (iI (fs)), .int (iI (xv0)), .int (iI (q9_38))])), (qFb, .inl (cyI, 60, .inl (xA (fb)))), (qFl, .inl (cyI, 6, .inl (xA (xv1)))), (qFa, .inl (cyI, 6, .inl (xA (xv2))))] : va_W)) he0) he1) he2
                  have hW9 : ([(qF, .inr (1, [.ref qFb, .ref qFl, .ref qFa, .int (iI (fs)), .int (iI (n)), .int (iI (q9_38))])), (qFb, .inl (cyI, 60, .inl (xA (fb)))), (qFl, .inl (cyI, 6, .inl (xA (l9_39)))), (qFa, .inl (cyI, 6, .inl (xA (a9_40))))] : va_W) = [(qF, .inr (1, [.ref qFb, .ref qFl, .ref qFa, .int (iI (fs)), .int (iI ((psF fb fs 6 0 0 fl fa).2.1)), .int (iI (q9_38))])), (qFb, .inl (cyI, 60, .inl (xA (fb)))), (qFl, .inl (cyI, 6, .inl (xA ((psF fb fs 6 0 0 fl fa).2.2.1)))), (qFa, .inl (cyI, 6, .inl (xA ((psF fb fs 6 0 0 fl fa).2.2.2))))] := hW8
                  rw [hW9] at hP hD
                  exact W.iret (v := iI (ppV fb fs q1_33 n f1 f2)) hx hb hr (fun t_ ht_ hW_ => ⟨⟨_, (q9_38), rfl, ⟨(congrArg iI (show (ppV fb fs q1_33 n f1 f2) = ((psF fb fs 6 0 0 fl fa).1) from by first | (rw [← hV]; done) | (rw [← hV]; exact hps2 (by assumption)) | (rw [← hV]; dsimp only; first | rw [if_pos (by omega)] | rw [if_neg (by omega)]))), ⟨(show 0 ≤ q9_38 ∧ q9_38 ≤ fs from by omega), (show ∀ j, 0 ≤ (psF fb fs 6 0 0 fl fa).2.2.1 j ∧ (psF fb fs 6 0 0 fl fa).2.2.1 j ≤ 999 from by rw [← hV]; assumption), (show ∀ j, 0 ≤ (psF fb fs 6 0 0 fl fa).2.2.2 j ∧ (psF fb fs 6 0 0 fl fa).2.2.2 j ≤ 999 from by rw [← hV]; assumption)⟩⟩, by rw [ht_]; exact hP, va_K.moved hW_.alike hK, hD⟩, hS.F ht_⟩) hS.2.2 dX1_parse_72
              · refine lv_aload_n hx hb dX1_parse_56 rfl (lv_at hl 0 rfl) ?_
                refine va_get (D := D) (ci := 1) (C := RX1) (T := TX1) (N := 6) hx hb hts hcX1 hown hK hP 0 rfl rfl 5 (by decide) (hts (.fieldLink RX1 28 "WallMarks$Flows" "place" "I") (List.mem_of_getElem? (i := 1) (by decide +kernel))) (fun _ h9 => h9) rfl dX1_parse_57 ?_
                have hV := (psF_b (fb := fb) (fl := f1) (fa := f2) (by omega) (by omega) ⟨by omega, by assumption⟩).symm.trans hp
                have he0 : (n : Int) = ((psF fb fs 6 0 0 fl fa).2.1) := by rw [← hV]
                have he1 : (f1 : Int → Int) = ((psF fb fs 6 0 0 fl fa).2.2.1) := by first | (rw [← hV]; done) | (rw [← hV]; exact e2)
                have he2 : (f2 : Int → Int) = ((psF fb fs 6 0 0 fl fa).2.2.2) := by first | (rw [← hV]; done) | (rw [← hV]; exact e3)
                have hW8 := congr (congr (congrArg (fun (xv0 : Int) (xv1 : Int → Int) (xv2 : Int → Int) => ([(qF, .inr (1, [.ref qFb, .ref qFl, .ref qFa, .int (iI (fs)), .int (iI (xv0)), .int (iI (q1_33))])), (qFb, .inl (cyI, 60, .inl (xA (fb)))), (qFl, .inl (cyI, 6, .inl (xA (xv1)))), (qFa, .inl (cyI, 6, .inl (xA (xv2))))] : va_W)) he0) he1) he2
                have hW9 : ([(qF, .inr (1, [.ref qFb, .ref qFl, .ref qFa, .int (iI (fs)), .int (iI (n)), .int (iI (q1_33))])), (qFb, .inl (cyI, 60, .inl (xA (fb)))), (qFl, .inl (cyI, 6, .inl (xA (f1)))), (qFa, .inl (cyI, 6, .inl (xA (f2))))] : va_W) = [(qF, .inr (1, [.ref qFb, .ref qFl, .ref qFa, .int (iI (fs)), .int (iI ((psF fb fs 6 0 0 fl fa).2.1)), .int (iI (q1_33))])), (qFb, .inl (cyI, 60, .inl (xA (fb)))), (qFl, .inl (cyI, 6, .inl (xA ((psF fb fs 6 0 0 fl fa).2.2.1)))), (qFa, .inl (cyI, 6, .inl (xA ((psF fb fs 6 0 0 fl fa).2.2.2))))] := hW8
                rw [hW9] at hP hD
                exact W.iret (v := iI (q1_33)) hx hb hr (fun t_ ht_ hW_ => ⟨⟨_, (q1_33), rfl, ⟨(congrArg iI (show (q1_33) = ((psF fb fs 6 0 0 fl fa).1) from by first | (rw [← hV]; done) | (rw [← hV]; exact hps2 (by assumption)) | (rw [← hV]; dsimp only; first | rw [if_pos (by omega)] | rw [if_neg (by omega)]))), ⟨(show 0 ≤ q1_33 ∧ q1_33 ≤ fs from by omega), (show ∀ j, 0 ≤ (psF fb fs 6 0 0 fl fa).2.2.1 j ∧ (psF fb fs 6 0 0 fl fa).2.2.1 j ≤ 999 from by rw [← hV]; assumption), (show ∀ j, 0 ≤ (psF fb fs 6 0 0 fl fa).2.2.2 j ∧ (psF fb fs 6 0 0 fl fa).2.2.2 j ≤ 999 from by rw [← hV]; assumption)⟩⟩, by rw [ht_]; exact hP, va_K.moved hW_.alike hK, hD⟩, hS.F ht_⟩) hS.2.2 dX1_parse_60
          · refine xi_const hx hb dX1_parse_38 ?_
            have hV := (psF_a (fb := fb) (fl := f1) (fa := f2) (by omega) (by omega)).symm.trans hp
            have he0 : (n : Int) = ((psF fb fs 6 0 0 fl fa).2.1) := by rw [← hV]
            have he1 : (f1 : Int → Int) = ((psF fb fs 6 0 0 fl fa).2.2.1) := by first | (rw [← hV]; done) | (rw [← hV]; exact e2)
            have he2 : (f2 : Int → Int) = ((psF fb fs 6 0 0 fl fa).2.2.2) := by first | (rw [← hV]; done) | (rw [← hV]; exact e3)
            have hW8 := congr (congr (congrArg (fun (xv0 : Int) (xv1 : Int → Int) (xv2 : Int → Int) => ([(qF, .inr (1, [.ref qFb, .ref qFl, .ref qFa, .int (iI (fs)), .int (iI (xv0)), .int (iI (q1))])), (qFb, .inl (cyI, 60, .inl (xA (fb)))), (qFl, .inl (cyI, 6, .inl (xA (xv1)))), (qFa, .inl (cyI, 6, .inl (xA (xv2))))] : va_W)) he0) he1) he2
            have hW9 : ([(qF, .inr (1, [.ref qFb, .ref qFl, .ref qFa, .int (iI (fs)), .int (iI (n)), .int (iI (q1))])), (qFb, .inl (cyI, 60, .inl (xA (fb)))), (qFl, .inl (cyI, 6, .inl (xA (f1)))), (qFa, .inl (cyI, 6, .inl (xA (f2))))] : va_W) = [(qF, .inr (1, [.ref qFb, .ref qFl, .ref qFa, .int (iI (fs)), .int (iI ((psF fb fs 6 0 0 fl fa).2.1)), .int (iI (q1))])), (qFb, .inl (cyI, 60, .inl (xA (fb)))), (qFl, .inl (cyI, 6, .inl (xA ((psF fb fs 6 0 0 fl fa).2.2.1)))), (qFa, .inl (cyI, 6, .inl (xA ((psF fb fs 6 0 0 fl fa).2.2.2))))] := hW8
            rw [hW9] at hP hD
            exact W.iret (v := iI (-1)) hx hb hr (fun t_ ht_ hW_ => ⟨⟨_, (q1), rfl, ⟨(congrArg iI (show (-1) = ((psF fb fs 6 0 0 fl fa).1) from by first | (rw [← hV]; done) | (rw [← hV]; exact hps2 (by assumption)) | (rw [← hV]; dsimp only; first | rw [if_pos (by omega)] | rw [if_neg (by omega)]))), ⟨(show 0 ≤ q1 ∧ q1 ≤ fs from by omega), (show ∀ j, 0 ≤ (psF fb fs 6 0 0 fl fa).2.2.1 j ∧ (psF fb fs 6 0 0 fl fa).2.2.1 j ≤ 999 from by rw [← hV]; assumption), (show ∀ j, 0 ≤ (psF fb fs 6 0 0 fl fa).2.2.2 j ∧ (psF fb fs 6 0 0 fl fa).2.2.2 j ≤ 999 from by rw [← hV]; assumption)⟩⟩, by rw [ht_]; exact hP, va_K.moved hW_.alike hK, hD⟩, hS.F ht_⟩) hS.2.2 dX1_parse_39
  refine lv_aload_n hx hb dX1_parse_0 rfl (lv_at hl 0 rfl) ?_
  refine xi_const hx hb dX1_parse_1 ?_
  refine va_put (D := D) (ci := 1) (v := .int (iI (0))) (ty := .int) (C := RX1) (T := TX1) (N := 6) hx hb hts hcX1 tyX1 tyX1_ok nmX1 hown hK hP hD hS 0 rfl rfl 5 (by decide) (hts (.fieldLink RX1 28 "WallMarks$Flows" "place" "I") (List.mem_of_getElem? (i := 1) (by decide +kernel))) (fun _ h9 => h9) rfl (by decide +kernel) rfl rfl (Nat.le_of_ble_eq_true rfl) dX1_parse_2 (fun H locs hP hD hS => ?_)
  have hP : va_P D vwCl [(qF, .inr (1, [.ref qFb, .ref qFl, .ref qFa, .int (iI (fs)), .int (iI (fp)), .int (iI (0))])), (qFb, .inl (cyI, 60, .inl (xA (fb)))), (qFl, .inl (cyI, 6, .inl (xA (fl)))), (qFa, .inl (cyI, 6, .inl (xA (fa))))] H := hP
  have hD : va_D A [(qF, .inr (1, [.ref qFb, .ref qFl, .ref qFa, .int (iI (fs)), .int (iI (fp)), .int (iI (0))])), (qFb, .inl (cyI, 60, .inl (xA (fb)))), (qFl, .inl (cyI, 6, .inl (xA (fl)))), (qFa, .inl (cyI, 6, .inl (xA (fa))))] := hD
  refine lv_aload_n hx hb dX1_parse_5 rfl (lv_at hl 0 rfl) ?_
  refine xi_const hx hb dX1_parse_6 ?_
  refine va_put (D := D) (ci := 1) (v := .int (iI (0))) (ty := .int) (C := RX1) (T := TX1) (N := 6) hx hb hts hcX1 tyX1 tyX1_ok nmX1 hown hK hP hD hS 0 rfl rfl 4 (by decide) (hts (.fieldLink RX1 25 "WallMarks$Flows" "pairs" "I") (List.mem_of_getElem? (i := 2) (by decide +kernel))) (fun _ h9 => h9) rfl (by decide +kernel) rfl rfl (Nat.le_of_ble_eq_true rfl) dX1_parse_7 (fun H locs hP hD hS => ?_)
  have hP : va_P D vwCl [(qF, .inr (1, [.ref qFb, .ref qFl, .ref qFa, .int (iI (fs)), .int (iI (0)), .int (iI (0))])), (qFb, .inl (cyI, 60, .inl (xA (fb)))), (qFl, .inl (cyI, 6, .inl (xA (fl)))), (qFa, .inl (cyI, 6, .inl (xA (fa))))] H := hP
  have hD : va_D A [(qF, .inr (1, [.ref qFb, .ref qFl, .ref qFa, .int (iI (fs)), .int (iI (0)), .int (iI (0))])), (qFb, .inl (cyI, 60, .inl (xA (fb)))), (qFl, .inl (cyI, 6, .inl (xA (fl)))), (qFa, .inl (cyI, 6, .inl (xA (fa))))] := hD
  exact cut_10 ((6 - 0 : Int).toNat + 1) (0) (0) (fl) (fa) (by first | assumption | omega | (constructor <;> omega)) (by omega) (by first | rfl | (rw [← hp, psF_d (q0 := _) (by omega) (by omega) (by omega) hq7 (by assumption)]; obtain ⟨e1, e2, e3⟩ := hpp2 (by assumption); rw [e1, e2, e3])) (by first | assumption | exact h_fl) (by first | assumption | exact h_fa) (by exact Nat.lt_succ_self _) _ _ hP hD hS ls (lv_sub hl [0] rfl)
set_option maxHeartbeats 1000000 in
set_option maxRecDepth 100000 in
theorem c_X1_pairBeside (l : Launch) (D : va_G) (cyI cyJ cyO : ClassId) (qF : Nat) (qFb : Nat) (qFl : Nat) (qFa : Nat) (fs : Int) (fp : Int) (fq : Int) (fl : Int → Int) (x : Int) (h_fp : 2 ≤ fp ∧ fp ≤ 6) (h_fl : ∀ j, 0 ≤ fl j ∧ fl j ≤ 999) (h_x : -2147483648 ≤ x ∧ x ≤ 2147483647) : Met l yX1_pairBeside wsX1_pairBeside ({ frames := 0, cells := 0, slots := 0, locals := 0 }) (va_Pc [.ref qF, .int (iI (x))] (xR D vwCl [(qF, .inr (1, [.ref qFb, .ref qFl, .ref qFa, .int (iI (fs)), .int (iI (fp)), .int (iI (fq))])), (qFl, .inl (cyI, 6, .inl (xA (fl))))] (xT cyI cyJ cyO))) (xq (some (.int (iI (pbN fl fp x 6 0))))) 0 0 (fun _ => False) := by
  refine Met.ofW (cc := cX1_pairBeside) (maxL := 3) (ret := (some .int)) (by decide) rfl ?_
  intro p e s m args below meth c s₁ B hml hv
  obtain ⟨rfl, hP, hK⟩ := hv
  have hx := B.exec
  have hb := B.bytes
  have hr := B.returns
  have hts := atoms_spec (ws := wsX1_pairBeside) B.pre
  have hown : s.vm.findClass RX1 = some m.cls := findClass_of_methodNamed B.named
  have hlocks := B.notSynchronized
  have hcX1 : ∀ w ∈ wsX10, w ∈ wsX1_pairBeside := fun _ h => List.mem_cons_of_mem _ (List.mem_append_right _ h)
  have hP : va_P D vwCl [(qF, .inr (1, [.ref qFb, .ref qFl, .ref qFa, .int (iI (fs)), .int (iI (fp)), .int (iI (fq))])), (qFl, .inl (cyI, 6, .inl (xA (fl))))] s.heap := hP
  have hl := lv_entry ([.ref qF, .int (iI (x))]) (n := 3) (Nat.le_of_ble_eq_true rfl)
  rw [lg_entry_eq]
  generalize (lg_sl ([.ref qF, .int (iI (x))]) ++ List.replicate (3 - (lg_sl ([.ref qF, .int (iI (x))])).length) Slot.unset).toArray = ls at hl ⊢
  have hl : lv_has ls 3 [(0, .ref qF), (1, .int (iI (x)))] := hl
  have cut_2 : ∀ (N_ : Nat) (i : Int) (hi : 0 ≤ i ∧ i ≤ fp - 2) (hp : pbN fl fp x (6 - i).toNat i = pbN fl fp x 6 0) (hN_ : (6 - i).toNat < N_) (ls : Array Slot) (hl : lv_has ls 3 [(0, .ref qF), (1, .int (iI (x))), (2, .int (iI (i)))]), W p l e (headSpec wsX1_pairBeside ({ frames := 0, cells := 0, slots := 0, locals := 0 })).room s m ([.ref qF, .int (iI (x))] : List Value).toArray below meth c s.heap [] 0 0 (MQ below (xq (some (.int (iI (pbN fl fp x 6 0))))) ([.ref qF, .int (iI (x))] : List Value).toArray s 0 0 (fun _ => False)) (F0 m 2 ls []) := by
    intro N_
    induction N_ with
    | zero => intro i hi hp hN_ ls hl; exact absurd hN_ (Nat.not_lt_zero _)
    | succ N_ ih_2 =>
      intro i hi hp hN_ ls hl
      refine lv_iload_n hx hb dX1_pairBeside_2 rfl (lv_at hl 2 rfl) ?_
      refine xi_const hx hb dX1_pairBeside_3 ?_
      refine xi_add hx hb dX1_pairBeside_4 ?_
      refine lv_aload_n hx hb dX1_pairBeside_5 rfl (lv_at hl 0 rfl) ?_
      refine va_get (D := D) (ci := 1) (C := RX1) (T := TX1) (N := 6) hx hb hts hcX1 hown hK hP 0 rfl rfl 4 (by decide) (hts (.fieldLink RX1 25 "WallMarks$Flows" "pairs" "I") (List.mem_of_getElem? (i := 1) (by decide +kernel))) (fun _ h9 => h9) rfl dX1_pairBeside_6 ?_
      refine xb_icmp_ge (tgt := 30) hx hb dX1_pairBeside_9 (by decide) (by omega) (fun h_1 => ?_) (fun h_1 => ?_)
      · refine lv_iload_n hx hb dX1_pairBeside_30 rfl (lv_at hl 2 rfl) ?_
        exact W.iret (v := iI (i)) hx hb hr (fun t_ ht_ _ => ⟨congrArg (fun z => Outcome.returned (some (Value.int (iI z)))) (show (i) = (pbN fl fp x 6 0) from by rw [← hp, pbN_f (by omega) (by omega)]), ht_⟩) (fun _ h9 => absurd h9 List.not_mem_nil) dX1_pairBeside_31
      · refine lv_iload_n hx hb dX1_pairBeside_12 rfl (lv_at hl 1 rfl) ?_
        refine lv_aload_n hx hb dX1_pairBeside_13 rfl (lv_at hl 0 rfl) ?_
        refine va_get (D := D) (ci := 1) (C := RX1) (T := TX1) (N := 6) hx hb hts hcX1 hown hK hP 0 rfl rfl 1 (by decide) (hts (.fieldLink RX1 15 "WallMarks$Flows" "levels" "[I") (List.mem_of_getElem? (i := 2) (by decide +kernel))) (fun _ h9 => h9) rfl dX1_pairBeside_14 ?_
        refine lv_iload_n hx hb dX1_pairBeside_17 rfl (lv_at hl 2 rfl) ?_
        refine xi_const hx hb dX1_pairBeside_18 ?_
        refine xi_add hx hb dX1_pairBeside_19 ?_
        refine xi_ald (D := D) hx hb hK hP 1 0 rfl rfl (by decide) (by omega) dX1_pairBeside_20 ?_
        have hr_2 := h_fl (i + 1)
        refine xb_icmp_le (tgt := 30) hx hb dX1_pairBeside_21 (by decide) (by omega) (fun h_3 => ?_) (fun h_3 => ?_)
        · refine lv_iload_n hx hb dX1_pairBeside_30 rfl (lv_at hl 2 rfl) ?_
          exact W.iret (v := iI (i)) hx hb hr (fun t_ ht_ _ => ⟨congrArg (fun z => Outcome.returned (some (Value.int (iI z)))) (show (i) = (pbN fl fp x 6 0) from by rw [← hp, pbN_f (by omega) (by omega)]), ht_⟩) (fun _ h9 => absurd h9 List.not_mem_nil) dX1_pairBeside_31
        · refine xi_inc (k := 2) (lv' := [(2, .int (iI (i + 1))), (0, .ref qF), (1, .int (iI (x)))]) hx hb dX1_pairBeside_24 hl rfl (by decide) rfl (fun ls hl => ?_)
          refine lv_goto (tgt := 2) hx hb dX1_pairBeside_27 (by decide) ?_
          exact ih_2 (i + 1) (by first | assumption | omega | (constructor <;> omega)) (by first | rfl | exact (pbN_t (by omega) (by omega)).symm.trans hp) (by omega) ls (lv_sub hl [1, 2, 0] rfl)
  refine xi_const hx hb dX1_pairBeside_0 ?_
  refine lv_istore_n (lv' := [(2, .int (iI (0))), (0, .ref qF), (1, .int (iI (x)))]) hx hb dX1_pairBeside_1 rfl hl (by decide) rfl (fun ls hl => ?_)
  exact cut_2 ((6 - 0 : Int).toNat + 1) (0) (by first | assumption | omega | (constructor <;> omega)) (by first | rfl | exact (pbN_t (by omega) (by omega)).symm.trans hp) (by exact Nat.lt_succ_self _) ls (lv_sub hl [1, 2, 0] rfl)
set_option maxHeartbeats 1000000 in
set_option maxRecDepth 100000 in
theorem c_X1_lineBelow (l : Launch) (D : va_G) (cyI cyJ cyO : ClassId) (qF : Nat) (qFb : Nat) (qFl : Nat) (qFa : Nat) (fs : Int) (fp : Int) (fq : Int) (fl : Int → Int) (k : Int) (h_fl : ∀ j, 0 ≤ fl j ∧ fl j ≤ 999) (h_k : 0 ≤ k ∧ k ≤ 4) : Met l yX1_lineBelow wsX1_lineBelow ({ frames := 0, cells := 0, slots := 0, locals := 0 }) (va_Pc [.ref qF, .int (iI (k))] (xR D vwCl [(qF, .inr (1, [.ref qFb, .ref qFl, .ref qFa, .int (iI (fs)), .int (iI (fp)), .int (iI (fq))])), (qFl, .inl (cyI, 6, .inl (xA (fl))))] (xT cyI cyJ cyO))) (xq (some (.long (lI (liB fl k))))) 0 0 (fun _ => False) := by
  refine Met.ofW (cc := cX1_lineBelow) (maxL := 2) (ret := (some .long)) (by decide) rfl ?_
  intro p e s m args below meth c s₁ B hml hv
  obtain ⟨rfl, hP, hK⟩ := hv
  have hx := B.exec
  have hb := B.bytes
  have hr := B.returns
  have hts := atoms_spec (ws := wsX1_lineBelow) B.pre
  have hown : s.vm.findClass RX1 = some m.cls := findClass_of_methodNamed B.named
  have hlocks := B.notSynchronized
  have hcX1 : ∀ w ∈ wsX10, w ∈ wsX1_lineBelow := fun _ h => List.mem_cons_of_mem _ (List.mem_append_right _ h)
  have hP : va_P D vwCl [(qF, .inr (1, [.ref qFb, .ref qFl, .ref qFa, .int (iI (fs)), .int (iI (fp)), .int (iI (fq))])), (qFl, .inl (cyI, 6, .inl (xA (fl))))] s.heap := hP
  have hl := lv_entry ([.ref qF, .int (iI (k))]) (n := 2) (Nat.le_of_ble_eq_true rfl)
  rw [lg_entry_eq]
  generalize (lg_sl ([.ref qF, .int (iI (k))]) ++ List.replicate (2 - (lg_sl ([.ref qF, .int (iI (k))])).length) Slot.unset).toArray = ls at hl ⊢
  have hl : lv_has ls 2 [(0, .ref qF), (1, .int (iI (k)))] := hl
  refine lv_aload_n hx hb dX1_lineBelow_0 rfl (lv_at hl 0 rfl) ?_
  refine va_get (D := D) (ci := 1) (C := RX1) (T := TX1) (N := 6) hx hb hts hcX1 hown hK hP 0 rfl rfl 1 (by decide) (hts (.fieldLink RX1 15 "WallMarks$Flows" "levels" "[I") (List.mem_of_getElem? (i := 1) (by decide +kernel))) (fun _ h9 => h9) rfl dX1_lineBelow_1 ?_
  refine lv_iload_n hx hb dX1_lineBelow_4 rfl (lv_at hl 1 rfl) ?_
  refine xi_const hx hb dX1_lineBelow_5 ?_
  refine xi_add hx hb dX1_lineBelow_6 ?_
  refine xi_ald (D := D) hx hb hK hP 1 0 rfl rfl (by decide) (by omega) dX1_lineBelow_7 ?_
  have hr_1 := h_fl (k + 1)
  refine xi_i2l hx hb dX1_lineBelow_8 (by omega) ?_
  refine lv_aload_n hx hb dX1_lineBelow_9 rfl (lv_at hl 0 rfl) ?_
  refine va_get (D := D) (ci := 1) (C := RX1) (T := TX1) (N := 6) hx hb hts hcX1 hown hK hP 0 rfl rfl 1 (by decide) (hts (.fieldLink RX1 15 "WallMarks$Flows" "levels" "[I") (List.mem_of_getElem? (i := 1) (by decide +kernel))) (fun _ h9 => h9) rfl dX1_lineBelow_10 ?_
  refine lv_iload_n hx hb dX1_lineBelow_13 rfl (lv_at hl 1 rfl) ?_
  refine xi_ald (D := D) hx hb hK hP 1 0 rfl rfl (by decide) (by omega) dX1_lineBelow_14 ?_
  have hr_2 := h_fl (k)
  refine xi_i2l hx hb dX1_lineBelow_15 (by omega) ?_
  refine xl_sub hx hb dX1_lineBelow_16 ?_
  exact W.lret (v := lI ((fl (k + 1)) - (fl (k)))) hx hb hr (fun t_ ht_ _ => ⟨congrArg (fun z => Outcome.returned (some (Value.long (lI z)))) (show ((fl (k + 1)) - (fl (k))) = (liB fl k) from by rfl), ht_⟩) (fun _ h9 => absurd h9 List.not_mem_nil) dX1_lineBelow_17
set_option maxHeartbeats 1000000 in
set_option maxRecDepth 100000 in
theorem c_X1_lineAbove (l : Launch) (D : va_G) (cyI cyJ cyO : ClassId) (qF : Nat) (qFb : Nat) (qFl : Nat) (qFa : Nat) (fs : Int) (fp : Int) (fq : Int) (fl : Int → Int) (fa : Int → Int) (k : Int) (x : Int) (h_fl : ∀ j, 0 ≤ fl j ∧ fl j ≤ 999) (h_fa : ∀ j, 0 ≤ fa j ∧ fa j ≤ 999) (h_k : 0 ≤ k ∧ k ≤ 4) (h_x : 0 ≤ x ∧ x ≤ 999) : Met l yX1_lineAbove wsX1_lineAbove ({ frames := 1, cells := 0, slots := 0, locals := 24 }) (va_Pc [.ref qF, .int (iI (k)), .int (iI (x))] (xR D vwCl [(qF, .inr (1, [.ref qFb, .ref qFl, .ref qFa, .int (iI (fs)), .int (iI (fp)), .int (iI (fq))])), (qFl, .inl (cyI, 6, .inl (xA (fl)))), (qFa, .inl (cyI, 6, .inl (xA (fa))))] (xT cyI cyJ cyO))) (xq (some (.long (lI (liA fl fa k x))))) 0 0 (fun _ => False) := by
  refine Met.ofW (cc := cX1_lineAbove) (maxL := 5) (ret := (some .long)) (by decide) rfl ?_
  intro p e s m args below meth c s₁ B hml hv
  obtain ⟨rfl, hP, hK⟩ := hv
  have hx := B.exec
  have hb := B.bytes
  have hr := B.returns
  have hts := atoms_spec (ws := wsX1_lineAbove) B.pre
  have hown : s.vm.findClass RX1 = some m.cls := findClass_of_methodNamed B.named
  have hlocks := B.notSynchronized
  have hcX1 : ∀ w ∈ wsX10, w ∈ wsX1_lineAbove := fun _ h => List.mem_cons_of_mem _ (List.mem_append_right _ h)
  have hP : va_P D vwCl [(qF, .inr (1, [.ref qFb, .ref qFl, .ref qFa, .int (iI (fs)), .int (iI (fp)), .int (iI (fq))])), (qFl, .inl (cyI, 6, .inl (xA (fl)))), (qFa, .inl (cyI, 6, .inl (xA (fa))))] s.heap := hP
  have hl := lv_entry ([.ref qF, .int (iI (k)), .int (iI (x))]) (n := 5) (Nat.le_of_ble_eq_true rfl)
  rw [lg_entry_eq]
  generalize (lg_sl ([.ref qF, .int (iI (k)), .int (iI (x))]) ++ List.replicate (5 - (lg_sl ([.ref qF, .int (iI (k)), .int (iI (x))])).length) Slot.unset).toArray = ls at hl ⊢
  have hl : lv_has ls 5 [(0, .ref qF), (1, .int (iI (k))), (2, .int (iI (x)))] := hl
  refine lv_aload_n hx hb dX1_lineAbove_0 rfl (lv_at hl 0 rfl) ?_
  refine va_get (D := D) (ci := 1) (C := RX1) (T := TX1) (N := 6) hx hb hts hcX1 hown hK hP 0 rfl rfl 2 (by decide) (hts (.fieldLink RX1 18 "WallMarks$Flows" "amounts" "[I") (List.mem_of_getElem? (i := 1) (by decide +kernel))) (fun _ h9 => h9) rfl dX1_lineAbove_1 ?_
  refine lv_iload_n hx hb dX1_lineAbove_4 rfl (lv_at hl 1 rfl) ?_
  refine xi_const hx hb dX1_lineAbove_5 ?_
  refine xi_add hx hb dX1_lineAbove_6 ?_
  refine xi_ald (D := D) hx hb hK hP 2 0 rfl rfl (by decide) (by omega) dX1_lineAbove_7 ?_
  have hr_1 := h_fa (k + 1)
  refine lv_aload_n hx hb dX1_lineAbove_8 rfl (lv_at hl 0 rfl) ?_
  refine va_get (D := D) (ci := 1) (C := RX1) (T := TX1) (N := 6) hx hb hts hcX1 hown hK hP 0 rfl rfl 2 (by decide) (hts (.fieldLink RX1 18 "WallMarks$Flows" "amounts" "[I") (List.mem_of_getElem? (i := 1) (by decide +kernel))) (fun _ h9 => h9) rfl dX1_lineAbove_9 ?_
  refine lv_iload_n hx hb dX1_lineAbove_12 rfl (lv_at hl 1 rfl) ?_
  refine xi_ald (D := D) hx hb hK hP 2 0 rfl rfl (by decide) (by omega) dX1_lineAbove_13 ?_
  have hr_2 := h_fa (k)
  refine xi_sub hx hb dX1_lineAbove_14 ?_
  refine xi_i2l hx hb dX1_lineAbove_15 (by omega) ?_
  refine lv_iload_n hx hb dX1_lineAbove_16 rfl (lv_at hl 2 rfl) ?_
  refine lv_aload_n hx hb dX1_lineAbove_17 rfl (lv_at hl 0 rfl) ?_
  refine va_get (D := D) (ci := 1) (C := RX1) (T := TX1) (N := 6) hx hb hts hcX1 hown hK hP 0 rfl rfl 1 (by decide) (hts (.fieldLink RX1 15 "WallMarks$Flows" "levels" "[I") (List.mem_of_getElem? (i := 2) (by decide +kernel))) (fun _ h9 => h9) rfl dX1_lineAbove_18 ?_
  refine lv_iload_n hx hb dX1_lineAbove_21 rfl (lv_at hl 1 rfl) ?_
  refine xi_ald (D := D) hx hb hK hP 1 0 rfl rfl (by decide) (by omega) dX1_lineAbove_22 ?_
  have hr_3 := h_fl (k)
  refine xi_sub hx hb dX1_lineAbove_23 ?_
  refine xi_i2l hx hb dX1_lineAbove_24 (by omega) ?_
  refine xl_mul hx hb dX1_lineAbove_25 ?_
  refine lv_lstore_n (lv' := [(3, .long (lI (((fa (k + 1)) - (fa (k))) * (x - (fl (k)))))), (0, .ref qF), (1, .int (iI (k))), (2, .int (iI (x)))]) hx hb dX1_lineAbove_26 rfl hl (by decide) rfl (fun ls hl => ?_)
  refine xi_lconst0 hx hb dX1_lineAbove_27 ?_
  refine lv_aload_n hx hb dX1_lineAbove_28 rfl (lv_at hl 1 rfl) ?_
  refine va_get (D := D) (ci := 1) (C := RX1) (T := TX1) (N := 6) hx hb hts hcX1 hown hK hP 0 rfl rfl 2 (by decide) (hts (.fieldLink RX1 18 "WallMarks$Flows" "amounts" "[I") (List.mem_of_getElem? (i := 1) (by decide +kernel))) (fun _ h9 => h9) rfl dX1_lineAbove_29 ?_
  refine lv_iload_n hx hb dX1_lineAbove_32 rfl (lv_at hl 2 rfl) ?_
  refine xi_ald (D := D) hx hb hK hP 2 0 rfl rfl (by decide) (by omega) dX1_lineAbove_33 ?_
  have hr_4 := h_fa (k)
  refine xi_i2l hx hb dX1_lineAbove_34 (by omega) ?_
  refine lv_aload_n hx hb dX1_lineAbove_35 rfl (lv_at hl 1 rfl) ?_
  refine lv_iload_n hx hb dX1_lineAbove_36 rfl (lv_at hl 2 rfl) ?_
  have hf_5 := h_fl k
  have hf_6 := h_fl (k + 1)
  have hPc := hP.sub (ws' := [(qF, .inr (1, [.ref qFb, .ref qFl, .ref qFa, .int (iI (fs)), .int (iI (fp)), .int (iI (fq))])), (qFl, .inl (cyI, 6, .inl (xA (fl))))]) [0, 1] rfl
  refine xc_l (va_runV (As := [.int (iI (k))]) (rest := [.long (lI (fa (k))), .long (lI (0))]) ⟨hx, hb, hml, hown, hts⟩ (c_X1_lineBelow l D cyI cyJ cyO qF qFb qFl qFa fs fp fq fl k (by first | exact h_fl | assumption | omega) (by first | exact h_k | assumption | omega)) (cwV 1 hts gX1_lineAbove_X1_lineBelow rfl rfl rfl (by decide +kernel) ⟨Nat.le_of_ble_eq_true rfl, Nat.le_of_ble_eq_true rfl⟩) (xpV hPc hK (ci := 1) (q0 := 0) (q := (RX1, TX1, 6)) rfl rfl) rfl rfl hl.1 rfl (lv_room (Nat.le_of_ble_eq_true rfl)) dX1_lineAbove_37 ⟨Nat.le_of_ble_eq_true rfl, Nat.le_of_ble_eq_true rfl⟩) ?_
  refine xl_mul hx hb dX1_lineAbove_40 ?_
  refine lv_lload_n hx hb dX1_lineAbove_41 rfl (lv_at hl 0 rfl) ?_
  refine xl_add hx hb dX1_lineAbove_42 ?_
  have hm1 := mul_abs (a := liB fl k) (b := fa k) (A := 999) (B := 999) (by unfold liB; omega) (by omega)
  rw [Int.mul_comm (liB fl k)] at hm1
  have hm2 := mul_abs (a := x - fl k) (b := 999) (A := 999) (B := 999) (by omega) (by omega)
  have hm3 := liA_in (k := k) (x := x) h_fl h_fa h_x
  have ha0 := h_fa k
  have ha1 := h_fa (k + 1)
  refine xm_max_long hx hb (hml.trans hl.1.symm) hown (hts (.methodLink RX1 59 Lib.MathLoose.max_long.x) (List.mem_of_getElem? (i := 3) (by decide +kernel))) (hts (.static Lib.MathLoose.max_long.x) (List.mem_of_getElem? (i := 4) (by decide +kernel))) (hts (.initialized "java/lang/Math") (List.mem_of_getElem? (i := 5) (by decide +kernel))) (hts (.code Lib.MathLoose.max_long.x Lib.MathLoose.max_long.code 4 (some .long)) (List.mem_of_getElem? (i := 6) (by decide +kernel))) (Nat.le_of_ble_eq_true rfl) (Nat.le_of_ble_eq_true rfl) (Nat.le_of_ble_eq_true rfl) (Nat.le_of_ble_eq_true rfl) dX1_lineAbove_43 (by omega) ?_
  exact W.lret (v := lI (zmax (0) (((fa (k)) * (liB fl k)) + (((fa (k + 1)) - (fa (k))) * (x - (fl (k))))))) hx hb hr (fun t_ ht_ _ => ⟨congrArg (fun z => Outcome.returned (some (Value.long (lI z)))) (show (zmax (0) (((fa (k)) * (liB fl k)) + (((fa (k + 1)) - (fa (k))) * (x - (fl (k)))))) = (liA fl fa k x) from by rfl), ht_⟩) (fun _ h9 => absurd h9 List.not_mem_nil) dX1_lineAbove_46
