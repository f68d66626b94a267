/-! answers of both, side by side -/
theorem recF_rc (kk kl : Int → Int) (lo hi : Int) : ∀ n : Nat, 0 ≤ (recF kk kl lo hi n).2.1 ∧ (recF kk kl lo hi n).2.1 ≤ n
  | 0 => ⟨Int.le_refl 0, Int.le_refl 0⟩
  | n + 1 => by
    have ih := recF_rc kk kl lo hi n
    by_cases q : (lo ≤ (n : Int) ∧ (n : Int) ≤ hi) ∧ kk n = 0
    · rw [show ((n + 1 : Nat) : Int) = (n : Int) + 1 from rfl, recF_t (by omega) q]
      unfold recS; split <;> first | omega | (dsimp only; omega)
    · rw [show ((n + 1 : Nat) : Int) = (n : Int) + 1 from rfl, recF_f (by omega) q]; omega
theorem es_in {kk kl : Int → Int} {lo hi : Int} (h : ∀ j, kk j ≠ 2 → 0 ≤ kl j) (h2 : ∀ j, -1 ≤ kl j ∧ kl j ≤ 999) : 0 ≤ sumZ (exL kk kl lo hi) 60 ∧ sumZ (exL kk kl lo hi) 60 ≤ 59940 := by
  have h9 := sumZ_in (f := exL kk kl lo hi) (a := 0) (b := 999) (n := 60) (by omega) (fun j _ _ => by
    by_cases q : (lo ≤ j ∧ j ≤ hi) ∧ kk j = 0
    · rw [exL_t q]; have := h j (by omega); have := h2 j; omega
    · rw [exL_f q]; omega)
  omega
theorem e_change {P : Int → Prop} {e1 e2 f1 f2 kl : Int → Int} {es : Int} (h : rowR P e1 e2 kl 60) (h2 : rowR P f1 f2 kl 60) (he : es = sumZ e2 (cntZ P 60)) {y : Int} (hy : 0 ≤ y ∧ y ≤ 60) (w : Int) :
    (if mbF e1 (cntZ P 60) y = 0 then -9223372036854775805 else frac (maF e1 e2 (cntZ P 60) es y) (mbF e1 (cntZ P 60) y) w) = if 0 < ahZ f1 (cntZ P 60) y ∧ ahZ f1 (cntZ P 60) y < cntZ P 60 then frac (dfZ f2 (cntZ P 60) (ahZ f1 (cntZ P 60) y)) (ahZ f1 (cntZ P 60) y * (cntZ P 60 - ahZ f1 (cntZ P 60) y)) w else -9223372036854775805 := by
  obtain ⟨h8, h9⟩ := ma_y h h2 he hy
  have hc := cntZ_in P (show (0 : Int) ≤ 60 from by omega)
  have hm := mb_0 (ahZ_in f1 (cntZ P 60) y hc.1)
  rw [h8, h9]
  by_cases q : ahZ f1 (cntZ P 60) y * (cntZ P 60 - ahZ f1 (cntZ P 60) y) = 0
  · rw [if_pos q, if_neg (fun z => hm.mpr z q)]
  · rw [if_neg q, if_pos (hm.mp q)]
theorem e_chd {P : Int → Prop} {e1 e2 f1 f2 kl : Int → Int} {es : Int} (h : rowR P e1 e2 kl 60) (h2 : rowR P f1 f2 kl 60) (he : es = sumZ e2 (cntZ P 60)) :
    (if (gcF e1 e2 (cntZ P 60) es 60).1 = -1 then -3 else if 14 < cntZ P 60 then -4 else hlG e1 e2 (cntZ P 60) es (gcF e1 e2 (cntZ P 60) es 60).1) = if (cyF f1 f2 (cntZ P 60) 60).1 = -1 then -3 else if 14 < cntZ P 60 then -4 else lkV f1 f2 (cntZ P 60) (cyF f1 f2 (cntZ P 60) 60).1 := by
  have hcy := cyF_in (ey := f1) (el := f2) (ex := cntZ P 60) 60 (by omega)
  rw [gc_y h h2 he]
  by_cases q1 : (cyF f1 f2 (cntZ P 60) 60).1 = -1
  · rw [if_pos q1, if_pos q1]
  · by_cases q2 : 14 < cntZ P 60
    · rw [if_neg q1, if_neg q1, if_pos q2, if_pos q2]
    · rw [if_neg q1, if_neg q1, if_neg q2, if_neg q2, lk_y h h2 he (by omega) (by omega)]
theorem e_fil {kk si e1 e2 f1 f2 : Int → Int} {n y : Int} (w : Int) (hn : 0 ≤ n) (h : ∀ j, 0 ≤ j → j < n → e1 j = f1 j ∧ e2 j = f2 j) (hel : ∀ j, 0 ≤ f2 j) (hsi : -1 ≤ si y) :
    (if kk y = 0 ∨ si y = -1 then -3 else if w = 0 then fsF si e1 e2 n (si y) else foF si e1 e2 n (si y) (if w = 1 then 1 else 0)) = if kk y = 0 ∨ si y = -1 then -3 else if w = 0 then fsF si f1 f2 n (si y) else flF si f1 f2 n (si y) w := by
  by_cases q : kk y = 0 ∨ si y = -1
  · rw [if_pos q, if_pos q]
  · rw [if_neg q, if_neg q, fs_c (si y) hn h, fo_c (si y) _ hn h]
    obtain ⟨N, rfl⟩ : ∃ N : Nat, n = N := ⟨n.toNat, by omega⟩
    rw [(fo_n (si := si) (ey := f1) (el := f2) (w := w) (v := si y) (by omega) hel N).2]
theorem e_dg {cn kA kB fl cn' kA' kB' fl' : Int → Int} {ov ov' : Int → Int → Int} {ra rb re ra' rb' re' : Int → Int} {so so' ri ri' ch ch' c0 c0' c1 c1' fa fa' be be' su su' : Int}
    (h1 : ∀ i, 0 ≤ i → i < 8 → cn i = cn' i) (h2 : ∀ y, 0 ≤ y → y < 60 → kA y = kA' y ∧ kB y = kB' y ∧ fl y = fl' y) (h3 : ∀ x, 0 ≤ x → x ≤ 999 → (∀ k, 0 ≤ k → k < 3 → ov x k = ov' x k) ∧ ra x = ra' x ∧ rb x = rb' x) (h4 : so = so') (h5 : ∀ i, 0 ≤ i → i < 3 → re i = re' i)
    (e1 : ri = ri') (e2 : ch = ch') (e3 : c0 = c0') (e4 : c1 = c1') (e5 : fa = fa') (e6 : be = be') (e7 : su = su') : dgF cn kA kB fl ov ra rb so re ri ch c0 c1 fa be su = dgF cn' kA' kB' fl' ov' ra' rb' so' re' ri' ch' c0' c1' fa' be' su' := by
  subst e1 e2 e3 e4 e5 e6 e7 h4
  have a1 : d1F cn 8 = d1F cn' 8 := foldZ_congr 17 8 (fun i h a b => by rw [h1 i a b]) 8 (by omega) (by omega)
  have a2 : ∀ h0, d2F kA kB fl 60 h0 = d2F kA' kB' fl' 60 h0 := fun h0 => foldZ_congr h0 60 (fun i h a b => by rw [(h2 i a b).1, (h2 i a b).2.1, (h2 i a b).2.2]) 60 (by omega) (by omega)
  have a3 : ∀ x h0, 0 ≤ x → x ≤ 999 → d3K ov x 3 h0 = d3K ov' x 3 h0 := fun x h0 q1 q2 => foldZ_congr h0 3 (fun i h a b => by rw [(h3 x q1 q2).1 i a b]) 3 (by omega) (by omega)
  have a4 : ∀ h0, d3F ov ra rb 3 h0 = d3F ov' ra' rb' 3 h0 := fun h0 => foldZ_congr h0 3 (fun i h a b => by rw [a3 (100 + 200 * i) h (by omega) (by omega), (h3 (100 + 200 * i) (by omega) (by omega)).2.1, (h3 (100 + 200 * i) (by omega) (by omega)).2.2]) 3 (by omega) (by omega)
  have a5 : ∀ h0, d5F re 3 h0 = d5F re' 3 h0 := fun h0 => foldZ_congr h0 3 (fun i h a b => by rw [h5 i a b]) 3 (by omega) (by omega)
  unfold dgF
  rw [a1, a2, a4, a5]
/-! sheets -/
def shR (mi : Int → Int) (k sz : Int) (it : Int → Int) : Prop := ∀ a, 0 ≤ a → a < sz → mi (60 * k + a) = it a
theorem shR_o {mi f it : Int → Int} {k sz y B n : Int} (h : shR mi k sz it) (hs : sz ≤ 60) (h1 : 60 * y ≤ B) (h2 : B + n ≤ 60 * y + 60) (hk : k ≠ y) : shR (rgU mi B n f) k sz it := by
  intro a q1 q2
  unfold rgU
  rw [if_neg (by omega)]
  exact h a q1 q2
theorem shR_u {mi it : Int → Int} {k sz y B v : Int} (h : shR mi k sz it) (hs : sz ≤ 60) (h1 : 60 * y ≤ B) (h2 : B < 60 * y + 60) (hk : k ≠ y) : shR (uz mi B v) k sz it := by
  intro a q1 q2
  rw [uz_n _ _ (by omega)]
  exact h a q1 q2
theorem shR_z {mi : Int → Int} {k y n : Int} (hk : y = k) : shR (rgU mi (60 * y) n (fun _ => 0)) k n (fun _ => 0) := by
  intro a q1 q2
  unfold rgU
  rw [if_pos (by omega)]
theorem shR_p {mi it : Int → Int} {k y sz i v v2 : Int} (h : shR mi k sz it) (hk : y = k) (hv : v2 = v) : shR (uz mi (60 * y + i) v) k sz (uz it i v2) := by
  intro a q1 q2
  subst hk hv
  by_cases q : a = i
  · subst q; rw [uz_s, uz_s]
  · rw [uz_n _ _ (by omega), uz_n _ _ q]; exact h a q1 q2
theorem shR_w {mi it f g : Int → Int} {k y sz n : Int} (h : shR mi k sz it) (hk : y = k) (hf : ∀ a, 0 ≤ a → a < n → f a = g a) : shR (rgU mi (60 * y) n f) k sz (rgU it 0 n g) := by
  intro a q1 q2
  subst hk
  unfold rgU
  by_cases q : a < n
  · rw [if_pos (by omega), if_pos (by omega), show 60 * y + a - 60 * y = a from by omega, show a - 0 = a from by omega, hf a q1 q]
  · rw [if_neg (by omega), if_neg (by omega)]; exact h a q1 q2
theorem shR_c {mi it it2 : Int → Int} {ks k y t sz sz2 i j n : Int} (h : shR mi k sz2 it2) (hs : shR mi ks sz it) (hk : t = k) (hks : y = ks) (hi : 0 ≤ i ∧ i + n ≤ sz) : shR (rgU mi (60 * t + j) n (fun a => mi (60 * y + i + a))) k sz2 (cpZ it it2 i j n) := by
  intro a q1 q2
  subst hk hks
  unfold rgU cpZ
  by_cases q : j ≤ a ∧ a < j + n
  · rw [if_pos (by omega), if_pos q]; dsimp only; rw [show 60 * y + i + (60 * t + a - (60 * t + j)) = 60 * y + (i + (a - j)) from by omega]; exact hs _ (by omega) (by omega)
  · rw [if_neg (by omega), if_neg q]; exact h a q1 q2
theorem fd_lk {sl sf sz y : Int} {mf mz : Int → Int} (f i : Int) (hs : sl = 0 ∨ sl = 1) (hf : 0 ≤ sf) (h1 : mf y = if sl = 1 then -1 else sf) (h2 : mz y = sz) : fdF sl sf sz f i = lkN mf mz y f i := by
  unfold fdF lkN
  rw [h2]
  rcases hs with rfl | rfl
  · rw [if_neg (by omega)] at h1
    rw [h1]; (repeat' split) <;> omega
  · rw [if_pos rfl] at h1
    rw [h1]; (repeat' split) <;> omega
theorem cp_cp {sl sf sz sl2 sf2 sz2 y t : Int} {mf mz : Int → Int} (i j n : Int) (hs : sl = 0 ∨ sl = 1) (hf : 0 ≤ sf) (h1 : mf y = if sl = 1 then -1 else sf) (h2 : mz y = sz) (hs2 : sl2 = 0 ∨ sl2 = 1) (hf2 : 0 ≤ sf2) (h3 : mf t = if sl2 = 1 then -1 else sf2) (h4 : mz t = sz2) : cpF sl sl2 sf sf2 sz sz2 i j n = cpR mf mz y i t j n := by
  unfold cpF cpR
  rw [h2, h4]
  rcases hs with rfl | rfl
  · rw [if_neg (by omega)] at h1
    rw [h1]
    rcases hs2 with rfl | rfl
    · rw [if_neg (by omega)] at h3
      rw [h3]; (repeat' split) <;> omega
    · rw [if_pos rfl] at h3
      rw [h3]; (repeat' split) <;> omega
  · rw [if_pos rfl] at h1
    rw [h1]; (repeat' split) <;> omega
theorem rd_c {it it2 : Int → Int} {z y tn : Int} (h : ∀ a, 0 ≤ a → a < z → it a = it2 a) : ∀ (k : Nat) (i : Int), 0 ≤ i → rdN it z y tn k i = rdN it2 z y tn k i
  | 0, _, _ => rfl
  | k + 1, i, hi => by
    by_cases q : rdC it z y tn i
    · have q2 : rdC it2 z y tn i := by unfold rdC at q ⊢; rw [← h i hi q.1]; exact q
      exact (if_pos q).trans ((rd_c h k (i + 1) (by omega)).trans (if_pos q2).symm)
    · have q2 : ¬ rdC it2 z y tn i := fun z2 => q (by unfold rdC at z2 ⊢; rw [h i hi z2.1]; exact z2)
      exact (if_neg q).trans (if_neg q2).symm
theorem rd_all (it : Int → Int) (z y tn : Int) : ∀ (k : Nat) (i : Int), i ≤ rdN it z y tn k i ∧ ∀ a, i ≤ a → a < rdN it z y tn k i → rdC it z y tn a
  | 0, i => ⟨Int.le_refl i, fun a h1 h2 => by have h3 : a < i := h2; omega⟩
  | k + 1, i => by
    by_cases q : rdC it z y tn i
    · have e : rdN it z y tn (k + 1) i = rdN it z y tn k (i + 1) := if_pos q
      have ih := rd_all it z y tn k (i + 1)
      rw [e]
      refine ⟨by omega, fun a h1 h2 => ?_⟩
      by_cases h3 : a = i
      · rw [h3]; exact q
      · exact ih.2 a (by omega) h2
    · have e : rdN it z y tn (k + 1) i = i := if_neg q
      rw [e]
      exact ⟨Int.le_refl i, fun a h1 h2 => by omega⟩
theorem rgU_c {g f f2 : Int → Int} {a n : Int} (h : ∀ j, 0 ≤ j → j < n → f j = f2 j) : rgU g a n f = rgU g a n f2 := by
  funext j
  unfold rgU
  by_cases q : a ≤ j ∧ j < a + n
  · rw [if_pos q, if_pos q, h (j - a) (by omega) (by omega)]
  · rw [if_neg q, if_neg q]
theorem tm_r {tt : Int → Int} {tn tm t R : Int} (hR : 0 ≤ R) (hn : 0 ≤ tn) (h : (0 < tn ∧ tm = tt (tn - 1)) ∨ (tn = 0 ∧ tm = 0)) : (0 < tn + R ∧ (if R = 0 then tm else t) = rgU tt tn R (fun _ => t) (tn + R - 1)) ∨ (tn + R = 0 ∧ (if R = 0 then tm else t) = 0) := by
  by_cases q : R = 0
  · subst q
    rw [if_pos rfl]
    unfold rgU
    rw [if_neg (by omega), Int.add_zero]
    exact h
  · left
    rw [if_neg q]
    unfold rgU
    rw [if_pos (by omega)]
    exact ⟨by omega, rfl⟩
theorem s_uz {se : Int → Int} {i v k lo hi : Int} (h : lo ≤ se k ∧ se k ≤ hi) (hv : i = k → lo ≤ v ∧ v ≤ hi) : lo ≤ uz se i v k ∧ uz se i v k ≤ hi := by
  by_cases q : k = i
  · rw [q, uz_s]; exact hv q.symm
  · rw [uz_n _ _ q]; exact h
theorem wr_n {mz : Int → Int} {y s sz : Int} (h : mz s = sz) : zmin sz (60 - y) = wrN mz y s := by
  unfold zmin wrN; rw [h]; (repeat' split) <;> omega
/-! rows of the law -/
section LW
variable {p : Program} {l : Launch} {e : Env} {R : Room} {s : State} {m : MethodId} {args : Array Value} {below : List Frame} {meth : Method} {c : Code} {H : Heap} {locs : List Loc} {cells slots : Nat} {Q : State → Prop}
variable {pc : Nat} {ls : Array Slot} {rest : List Value} {cc : ByteArray} {a a2 : Int}
theorem xi_sld (hx : p.tables.exec = Jvm.exec) (hb : c.code = cc) {A : Nat → Prop} {H0 : Heap} {b L : Nat} {xs : Nat → Int32} (hX : va_X b L xs s H0) (hbl : b < H0.size) (hbA : ¬ A b) (hS : va_S A H0 H locs) (hin : 0 ≤ a ∧ a < L) (hL : L ≤ 3072) {v : Int} (hv : xs a.toNat = iI v) (hdg : decode cc pc = .ok (.iaload, 1))
    (kk : W p l e R s m args below meth c H locs cells slots Q (F0 m (pc + 1) ls (.int (iI v) :: rest))) : W p l e R s m args below meth c H locs cells slots Q (F0 m pc ls (.int (iI a) :: .ref b :: rest)) :=
  va_sld hx hb hX hbl hbA hS (xin hin (by omega)) hdg (by rw [iI_cl (by omega), hv]; exact kk)
theorem xb_same (hx : p.tables.exec = Jvm.exec) (hb : c.code = cc) {off : Int} {tgt : Nat} (hdg : decode cc pc = .ok (.if_icmp .eq off, 3)) (ht : (pc : Int) + off = (tgt : Int)) (he : a = a2) (k : W p l e R s m args below meth c H locs cells slots Q (F0 m tgt ls rest)) : W p l e R s m args below meth c H locs cells slots Q (F0 m pc ls (.int (iI a2) :: .int (iI a) :: rest)) :=
  lv_icmp_eq hx hb hdg ht (fun _ => k) (fun q => absurd (by rw [he]) q)
theorem xl_same (hx : p.tables.exec = Jvm.exec) (hb : c.code = cc) {off : Int} {tgt : Nat} (hdg : decode cc pc = .ok (.lcmp, 1)) (hdg2 : decode cc (pc + 1) = .ok (.ifCond .eq off, 3)) (ht : ((pc + 1 : Nat) : Int) + off = (tgt : Int)) (he : a = a2) (k : W p l e R s m args below meth c H locs cells slots Q (F0 m tgt ls rest)) : W p l e R s m args below meth c H locs cells slots Q (F0 m pc ls (.long (lI a2) :: .long (lI a) :: rest)) := by
  subst he
  have h1 := (lI a).le_toInt
  have h2 := (lI a).toInt_lt
  have e9 : lI a = lI ((lI a).toInt) := (Int64.ofInt_toInt _).symm
  generalize (lI a).toInt = z at h1 h2 e9
  rw [e9]
  exact xl_if_eq hx hb hdg hdg2 ht ⟨⟨by omega, by omega⟩, by omega, by omega⟩ (fun _ => k) (fun q => absurd rfl q)
theorem xi_and (hx : p.tables.exec = Jvm.exec) (hb : c.code = cc) {v w : Int32} (hdg : decode cc pc = .ok (.iand, 1)) (k : ∀ d : Int, -2147483648 ≤ d ∧ d ≤ 2147483647 → W p l e R s m args below meth c H locs cells slots Q (F0 m (pc + 1) ls (.int (iI d) :: rest))) : W p l e R s m args below meth c H locs cells slots Q (F0 m pc ls (.int w :: .int v :: rest)) := by
  obtain ⟨d, h1, h2⟩ := iI_of (v &&& w)
  exact lv_iand hx hb hdg (by rw [h2]; exact k d h1)
end LW
theorem xS_go {A A1 : Nat → Prop} {tL tG : Nat} {s U : State} {H : Heap} {locs : List Loc} (hZ : xS A tL tG s s.heap) (hS : va_S A s.heap H locs) (hA1 : ∀ q, A1 q → A q) (hU : U.heap = H) (hW : s.WarmedH U.vm) : xS A1 tL tG U U.heap := by
  rw [hU]
  exact ⟨va_Z.moved hW.alike ((hZ.1.kept hS.2.1).narrow hA1), va_T.moved hW.alike ((hZ.2.1.kept hS.2.1).narrow hA1), va_Z.moved hW.alike ((hZ.2.2.1.kept hS.2.1).narrow hA1), va_T.moved hW.alike ((hZ.2.2.2.kept hS.2.1).narrow hA1)⟩
theorem xF_go {A A1 : Nat → Prop} {tF : Nat} {s U : State} {H : Heap} {locs : List Loc} (hZ : xF A tF s s.heap) (hS : va_S A s.heap H locs) (hA1 : ∀ q, A1 q → A q) (hU : U.heap = H) (hW : s.WarmedH U.vm) : xF A1 tF U U.heap := by
  obtain ⟨h0, cell, h1, h2, h3, h4, h5, h6, h7⟩ := hZ
  have hlt : tF < s.heap.size := (Array.getElem?_eq_some_iff.mp h1).1
  rw [hU]
  exact ⟨va_Z.moved hW.alike ((h0.kept hS.2.1).narrow hA1), cell, (hS.2.1 tF hlt h7).trans h1, by rw [hW.alike.findClass]; exact h2, h3, h4, h5, h6, fun z => h7 (hA1 _ z)⟩
