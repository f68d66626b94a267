/-! class = reference: changes -/
theorem row_lt {P : Int → Prop} {e1 e2 kl : Int → Int} {m : Int} (hm : 0 ≤ m) (h : rowR P e1 e2 kl m) {y : Int} (hy : 0 ≤ y) {j : Int} (h1 : 0 ≤ j) (h2 : j < cntZ P m) : e1 j < y ↔ j < cntZ P y := by
  obtain ⟨k, rfl⟩ : ∃ k : Nat, m = k := ⟨m.toNat, by omega⟩
  obtain ⟨z, a, b, c, d⟩ := cnt_sur k j h1 h2
  have u := (h z a b c).1
  rw [d] at u
  rw [u, ← d]
  constructor
  · intro q; exact cntZ_lt a q c
  · intro q
    rcases Int.lt_or_le z y with r | r
    · exact r
    · have := cntZ_mono (P := P) hy r; omega
theorem cnt_lt (N : Int) (hN : 0 ≤ N) : ∀ n : Nat, cntZ (fun j => j < N) n = if (n : Int) < N then (n : Int) else N
  | 0 => by show (0 : Int) = _; split <;> omega
  | n + 1 => by
    rw [show ((n + 1 : Nat) : Int) = (n : Int) + 1 from rfl]
    by_cases q : (n : Int) < N
    · rw [cntZ_t (P := fun j => j < N) (by omega) q, cnt_lt N hN n, if_pos q]; split <;> omega
    · rw [cntZ_f (P := fun j => j < N) (by omega) q, cnt_lt N hN n, if_neg q, if_neg (by omega)]
theorem ah_y {P : Int → Prop} {e1 e2 kl : Int → Int} (h : rowR P e1 e2 kl 60) {y : Int} (hy : 0 ≤ y ∧ y ≤ 60) : ahZ e1 (cntZ P 60) y = cntZ P y := by
  have hc := cntZ_in P (show (0 : Int) ≤ 60 from by omega)
  have hn := cntZ_in P hy.1
  have hm := cntZ_mono (P := P) hy.1 hy.2
  unfold ahZ
  rw [cnt_e hc.1 (fun j a b => row_lt (by omega) h hy.1 a b)]
  obtain ⟨k, hk⟩ : ∃ k : Nat, cntZ P 60 = k := ⟨(cntZ P 60).toNat, by omega⟩
  rw [hk, cnt_lt _ hn.1 k]; split <;> omega
theorem sum_sp (f : Int → Int) (N : Int) : ∀ n : Nat, sumZ (fun i => if i < N then 0 else f i) n = sumZ f n - sumZ (fun i => if i < N then f i else 0) n
  | 0 => rfl
  | n + 1 => by
    rw [show ((n + 1 : Nat) : Int) = (n : Int) + 1 from rfl, sumZ_s _ (by omega), sumZ_s _ (by omega), sumZ_s _ (by omega), sum_sp f N n]
    by_cases q : (n : Int) < N
    · rw [if_pos q, if_pos q]; omega
    · rw [if_neg q, if_neg q]; omega
theorem es_n (kk kl : Int → Int) (lo hi : Int) : ∀ n : Nat, foldZ (pst (PX kk lo hi 0) (fun _ v s => s + v) kl) n 0 = sumZ (exL kk kl lo hi) n
  | 0 => rfl
  | n + 1 => by
    rw [show ((n + 1 : Nat) : Int) = (n : Int) + 1 from rfl, foldZ_s _ (by omega), sumZ_s _ (by omega), es_n kk kl lo hi n]
    by_cases q : (lo ≤ (n : Int) ∧ (n : Int) ≤ hi) ∧ kk n = 0
    · have q2 : PX kk lo hi 0 n := q
      rw [pst_t q2, exL_t q]
    · have q2 : ¬ PX kk lo hi 0 n := q
      rw [pst_f q2, exL_f q]; omega
theorem es_y {kk kl e1 e2 : Int → Int} {lo hi : Int} (h : rowR (PX kk lo hi 0) e1 e2 kl 60) : sumZ (exL kk kl lo hi) 60 = sumZ e2 (cntZ (PX kk lo hi 0) 60) :=
  ((row_fold (fun _ v s => s + v) 0 60 h).trans (es_n kk kl lo hi 60)).symm
theorem ma_y {P : Int → Prop} {e1 e2 f1 f2 kl : Int → Int} {es : Int} (h : rowR P e1 e2 kl 60) (h2 : rowR P f1 f2 kl 60) (he : es = sumZ e2 (cntZ P 60)) {y : Int} (hy : 0 ≤ y ∧ y ≤ 60) :
    maF e1 e2 (cntZ P 60) es y = dfZ f2 (cntZ P 60) (ahZ f1 (cntZ P 60) y) ∧ mbF e1 (cntZ P 60) y = ahZ f1 (cntZ P 60) y * (cntZ P 60 - ahZ f1 (cntZ P 60) y) := by
  have hc := cntZ_in P (show (0 : Int) ≤ 60 from by omega)
  have hs : ∀ j, 0 ≤ j → j < cntZ P 60 → e2 j = f2 j := fun j a b => (row_uni (by omega) h h2 j a b).2
  have hsa : saZ e1 e2 (cntZ P 60) y = sumZ (fun i => if i < cntZ P y then f2 i else 0) (cntZ P 60) := by
    unfold saZ
    refine sumZ_congr hc.1 (fun j a b => ?_)
    have u := row_lt (by omega) h hy.1 a b
    by_cases q : e1 j < y
    · rw [if_pos q, if_pos (u.mp q), hs j a b]
    · rw [if_neg q, if_neg (fun z => q (u.mpr z))]
  have hes : es = sumZ f2 (cntZ P 60) := by rw [he]; exact sumZ_congr hc.1 hs
  unfold maF mbF dfZ
  rw [ah_y h hy, ah_y h2 hy, hsa, hes]
  obtain ⟨k, hk⟩ : ∃ k : Nat, cntZ P 60 = k := ⟨(cntZ P 60).toNat, by omega⟩
  rw [hk, sum_sp]
  refine ⟨?_, rfl⟩
  rw [Int.mul_comm (cntZ P y), Int.mul_comm ((k : Int) - cntZ P y)]
theorem mb_0 {n k : Int} (h : 0 ≤ k ∧ k ≤ n) : k * (n - k) ≠ 0 ↔ 0 < k ∧ k < n := by
  constructor
  · intro q
    rcases (show k = 0 ∨ k = n ∨ (0 < k ∧ k < n) from by omega) with r | r | r
    · rw [r, Int.zero_mul] at q; exact absurd rfl q
    · rw [r, show n - n = 0 from by omega, Int.mul_zero] at q; exact absurd rfl q
    · exact r
  · intro q
    have := Int.mul_pos q.1 (show 0 < n - k from by omega); omega
theorem cy_n {P : Int → Prop} {e1 e2 f1 f2 kl : Int → Int} {es : Int} (h : rowR P e1 e2 kl 60) (h2 : rowR P f1 f2 kl 60) (he : es = sumZ e2 (cntZ P 60)) : ∀ n : Nat, n ≤ 60 → gcF e1 e2 (cntZ P 60) es n = cyF f1 f2 (cntZ P 60) n
  | 0, _ => rfl
  | n + 1, hn => by
    have ih := cy_n h h2 he n (by omega)
    have hm := ma_y h h2 he (y := n) (by omega)
    have hc := cntZ_in P (show (0 : Int) ≤ 60 from by omega)
    have ha := ahZ_in f1 (cntZ P 60) n hc.1
    have hb := mb_0 (n := cntZ P 60) (k := ahZ f1 (cntZ P 60) n) ha
    unfold gcF cyF at ih ⊢
    rw [show ((n + 1 : Nat) : Int) = (n : Int) + 1 from rfl, foldZ_s _ (by omega), foldZ_s _ (by omega), ih]
    unfold gcS cyS
    rw [hm.1, hm.2]
    rw [propext hb]
theorem gc_y {P : Int → Prop} {e1 e2 f1 f2 kl : Int → Int} {es : Int} (h : rowR P e1 e2 kl 60) (h2 : rowR P f1 f2 kl 60) (he : es = sumZ e2 (cntZ P 60)) : gcF e1 e2 (cntZ P 60) es 60 = cyF f1 f2 (cntZ P 60) 60 := cy_n h h2 he 60 (by omega)
