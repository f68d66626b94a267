/-! the binomial sum's bound -/
def tN (a b : Int) (n k : Nat) : Int := (chz n k : Int) * a ^ k * b ^ (n - k)
theorem chz_gt : ∀ n k : Nat, n < k → chz n k = 0
  | 0, k + 1, _ => rfl
  | n + 1, k + 1, h => by rw [chz_s, chz_gt n k (by omega), chz_gt n (k + 1) (by omega)]
theorem tN_s (a b : Int) (n k : Nat) : tN a b (n + 1) (k + 1) = a * tN a b n k + b * tN a b n (k + 1) := by
  unfold tN
  rw [chz_s, show n + 1 - (k + 1) = n - k from by omega]
  rcases Nat.lt_or_ge k n with h | h
  · obtain ⟨d, rfl⟩ : ∃ d, n = k + 1 + d := ⟨n - (k + 1), by omega⟩
    rw [show k + 1 + d - k = d + 1 from by omega, show k + 1 + d - (k + 1) = d from by omega, Int.pow_succ, Int.pow_succ]
    push_cast
    grind
  · rw [chz_gt n (k + 1) (by omega), Int.pow_succ]
    push_cast
    grind
theorem tN_0 (a b : Int) (n : Nat) : tN a b (n + 1) 0 = b * tN a b n 0 := by
  unfold tN
  rw [chz_0, chz_0, Nat.sub_zero, Nat.sub_zero, Int.pow_succ]
  grind
def gN (a b : Int) (n : Nat) : Nat → Int
  | 0 => 0
  | m + 1 => gN a b n m + tN a b n m
theorem gN_s (a b : Int) (n : Nat) : ∀ m : Nat, gN a b (n + 1) (m + 1) = a * gN a b n m + b * gN a b n (m + 1)
  | 0 => by
    show 0 + tN a b (n + 1) 0 = a * 0 + b * (0 + tN a b n 0)
    rw [tN_0]; grind
  | m + 1 => by
    show gN a b (n + 1) (m + 1) + tN a b (n + 1) (m + 1) = a * (gN a b n m + tN a b n m) + b * (gN a b n (m + 1) + tN a b n (m + 1))
    rw [gN_s a b n m, tN_s]; grind
theorem gN_tot (a b : Int) : ∀ n : Nat, gN a b n (n + 1) = (a + b) ^ n
  | 0 => by
    show 0 + tN a b 0 0 = _
    unfold tN; rw [chz_0]; simp
  | n + 1 => by
    rw [gN_s a b n (n + 1)]
    show a * gN a b n (n + 1) + b * (gN a b n (n + 1) + tN a b n (n + 1)) = _
    have h : tN a b n (n + 1) = 0 := by unfold tN; rw [chz_gt n (n + 1) (by omega)]; simp
    rw [h, gN_tot a b n, Int.pow_succ]; grind
theorem tN_nn {a b : Int} (ha : 0 ≤ a) (hb : 0 ≤ b) (n k : Nat) : 0 ≤ tN a b n k := by
  unfold tN
  exact Int.mul_nonneg (Int.mul_nonneg (by omega) (Int.pow_nonneg ha)) (Int.pow_nonneg hb)
theorem gN_mono {a b : Int} (ha : 0 ≤ a) (hb : 0 ≤ b) (n i d : Nat) : 0 ≤ gN a b n i ∧ gN a b n i ≤ gN a b n (i + d) := by
  have h0 : ∀ i, 0 ≤ gN a b n i := by
    intro i
    induction i with
    | zero => exact Int.le_refl 0
    | succ i ih => have := tN_nn ha hb n i; show 0 ≤ gN a b n i + tN a b n i; omega
  refine ⟨h0 i, ?_⟩
  induction d with
  | zero => exact Int.le_refl _
  | succ d ih => have := tN_nn ha hb n (i + d); show _ ≤ gN a b n (i + d) + tN a b n (i + d); omega
theorem goS_N {n a k : Int} (hn : 0 ≤ n) (hk : 0 ≤ k) : goS n a k = tN a (16 - a) n.toNat k.toNat := by
  unfold goS tN chI
  rw [show (n - k).toNat = n.toNat - k.toNat from by omega]
theorem goF_N {n a lo : Int} (hn : 0 ≤ n) (hl : 0 ≤ lo) (d : Nat) : sumZ (fun j => goS n a (lo + j)) d = gN a (16 - a) n.toNat (lo.toNat + d) - gN a (16 - a) n.toNat lo.toNat := by
  induction d with
  | zero => show (0 : Int) = gN a (16 - a) n.toNat lo.toNat - gN a (16 - a) n.toNat lo.toNat; omega
  | succ d ih =>
    rw [show ((d + 1 : Nat) : Int) = (d : Int) + 1 from rfl, sumZ_s _ (by omega), ih, goS_N hn (by omega)]
    rw [show (lo + (d : Int)).toNat = lo.toNat + d from by omega]
    show _ = gN a (16 - a) n.toNat (lo.toNat + d) + tN a (16 - a) n.toNat (lo.toNat + d) - _
    omega
theorem goF_in {n a lo : Int} (hi : Int) (hn : 0 ≤ n ∧ n ≤ 15) (ha : 0 ≤ a ∧ a ≤ 16) (hl : 0 ≤ lo) : 0 ≤ goF n a lo hi ∧ goF n a lo hi ≤ 1152921504606846976 := by
  unfold goF
  have hz : zmin hi (n + 1) ≤ n + 1 := by unfold zmin; split <;> omega
  rcases Int.le_total (zmin hi (n + 1) - lo) 0 with h | h
  · rw [sumZ_neg _ h]; omega
  · obtain ⟨d, hd⟩ : ∃ d : Nat, zmin hi (n + 1) - lo = d := ⟨(zmin hi (n + 1) - lo).toNat, by omega⟩
    rw [hd, goF_N hn.1 hl]
    have h1 := gN_mono (a := a) (b := 16 - a) (by omega) (by omega) n.toNat lo.toNat d
    have h2 := gN_mono (a := a) (b := 16 - a) (by omega) (by omega) n.toNat (lo.toNat + d) (n.toNat + 1 - (lo.toNat + d))
    rw [show lo.toNat + d + (n.toNat + 1 - (lo.toNat + d)) = n.toNat + 1 from by omega, gN_tot, show a + (16 - a) = 16 from by omega] at h2
    have h3 := pow_in (b := 16) (n := n) (by omega) (by omega)
    omega
theorem chI_le {n k : Int} (hn : 0 ≤ n) : 0 ≤ chI n k ∧ chI n k ≤ 2 ^ n.toNat := by
  unfold chI
  have h1 := chz_le n.toNat k.toNat
  have h2 : ((2 ^ n.toNat : Nat) : Int) = 2 ^ n.toNat := by push_cast; rfl
  omega
theorem chI_mul {n1 k1 n2 k2 : Int} (h1 : 0 ≤ n1) (h2 : 0 ≤ n2) (h : n1 + n2 ≤ 39) : 0 ≤ chI n1 k1 * chI n2 k2 ∧ chI n1 k1 * chI n2 k2 ≤ 549755813888 := by
  have e := mul_in (chI_le (n := n1) (k := k1) h1) (chI_le (n := n2) (k := k2) h2)
  rw [← Int.pow_add] at e
  have h3 : (2 : Int) ^ (n1.toNat + n2.toNat) ≤ 2 ^ 39 := by
    have h4 := pow_mono (n1.toNat + n2.toNat) 39 (by omega)
    exact_mod_cast h4
  rw [show (2 : Int) ^ 39 = 549755813888 from by decide] at h3
  omega
/-! the class's answers -/
noncomputable def rbZ (bl : Int → Int) (ex be x : Int) : Int := ex + buZ bl be x + 1
noncomputable def dkZ (bl : Int → Int) (be op x : Int) : Int := op + be - buZ bl be x
noncomputable def soS (el bl : Int → Int) (ex be p : Int) (i g : Int) : Int := @ite _ (g < el i ∧ p * rbZ bl ex be (el i) ≤ 100 * ovZ el ex (el i)) (Classical.propDecidable _) (el i) g
noncomputable def risF (el : Int → Int) (ex : Int) : Int := sumZ (fun b => sumZ (fun a => zsg (el a) (el b)) b) ex
noncomputable def gcS (ey el : Int → Int) (ex es : Int) (y : Int) (st : Int × Int × Int) : Int × Int × Int := @ite _ (mbF ey ex y ≠ 0 ∧ (st.1 = -1 ∨ st.2.1 * mbF ey ex y < zabs (maF ey el ex es y) * st.2.2)) (Classical.propDecidable _) (y, zabs (maF ey el ex es y), mbF ey ex y) st
noncomputable def gcF (ey el : Int → Int) (ex es n : Int) : Int × Int × Int := foldZ (gcS ey el ex es) n (-1, 0, 1)
theorem gcF_t {ey el : Int → Int} {ex es n : Int} (hn : 0 ≤ n) {a b c : Int} (h : (a, b, c) = gcF ey el ex es n) (q1 : ¬ mbF ey ex n = 0) (q2 : a = -1 ∨ b * mbF ey ex n < zabs (maF ey el ex es n) * c) : (n, zabs (maF ey el ex es n), mbF ey ex n) = gcF ey el ex es (n + 1) := by
  unfold gcF at h ⊢
  rw [foldZ_s _ hn, ← h]; unfold gcS; rw [if_pos ⟨q1, q2⟩]
theorem gcF_f {ey el : Int → Int} {ex es n : Int} (hn : 0 ≤ n) {a b c : Int} (h : (a, b, c) = gcF ey el ex es n) (q : mbF ey ex n = 0 ∨ (¬ a = -1 ∧ ¬ b * mbF ey ex n < zabs (maF ey el ex es n) * c)) : (a, b, c) = gcF ey el ex es (n + 1) := by
  unfold gcF at h ⊢
  rw [foldZ_s _ hn, ← h]; unfold gcS; rw [if_neg]; dsimp only
  rintro ⟨h1, h2⟩
  rcases q with q | q
  · exact h1 q
  · rcases h2 with h2 | h2
    · exact q.1 h2
    · exact q.2 h2
theorem soS_t {el bl : Int → Int} {ex be p i g : Int} (q1 : g < el i) (q2 : p * rbZ bl ex be (el i) ≤ 100 * ovZ el ex (el i)) : soS el bl ex be p i g = el i := if_pos ⟨q1, q2⟩
theorem soS_f {el bl : Int → Int} {ex be p i g : Int} (q : ¬ g < el i ∨ ¬ p * rbZ bl ex be (el i) ≤ 100 * ovZ el ex (el i)) : soS el bl ex be p i g = g := if_neg (fun h => q.elim (fun z => z h.1) (fun z => z h.2))
def tieF (si ey el : Int → Int) (a b : Int) : Int := if si (ey a) = -1 ∨ si (ey b) = -1 then 0 else zsg (el a) (el b) * zsg (si (ey a)) (si (ey b))
def tieT (si ey el : Int → Int) (ex : Int) : Int := sumZ (fun b => sumZ (fun a => tieF si ey el a b) b) ex
def cmO (si ey el : Int → Int) (ex : Int) : Int := sumZ (fun j => if si (ey j) = -1 then 0 else el j) ex
def cmS (si ey : Int → Int) (ex : Int) : Int := sumZ (fun j => if si (ey j) = -1 then 0 else si (ey j)) ex
def fsF (si ey el : Int → Int) (ex v : Int) : Int := if cmS si ey ex = 0 then -3 else v * cmO si ey el ex / cmS si ey ex
def foS (si ey el : Int → Int) (v w : Int) (j b : Int) : Int := if 0 < si (ey j) ∧ (b = -3 ∨ (w ≠ 0 ∧ v * el j / si (ey j) < b) ∨ (w = 0 ∧ b < v * el j / si (ey j))) then v * el j / si (ey j) else b
def foF (si ey el : Int → Int) (ex v w : Int) : Int := foldZ (foS si ey el v w) ex (-3)
noncomputable def dkA (se el bl : Int → Int) (ex be h : Int) : Int := se 3 * h * rbZ bl ex be h + se 4 * se 5 * ovZ el ex h
noncomputable def btP (se el bl : Int → Int) (ex be h t : Int) : Prop := dkA se el bl ex be h * rbZ bl ex be t < dkA se el bl ex be t * rbZ bl ex be h ∨ (dkA se el bl ex be h * rbZ bl ex be t = dkA se el bl ex be t * rbZ bl ex be h ∧ h < t)
noncomputable def bestS (se el bl : Int → Int) (ex be : Int) (i b : Int) : Int := @ite _ (stepf ex be el bl i ≤ 999 ∧ btP se el bl ex be (stepf ex be el bl i) b) (Classical.propDecidable _) (stepf ex be el bl i) b
noncomputable def suP (el bl : Int → Int) (ex be op h p : Int) : Prop := 100 * (ovZ el ex h + dkZ bl be op h) ≤ p * (ex + be + op + 1)
noncomputable def suS (el bl : Int → Int) (ex be op p : Int) (i b : Int) : Int := @ite _ (stepf ex be el bl i ≤ 999 ∧ (b = -1 ∨ stepf ex be el bl i < b) ∧ suP el bl ex be op (stepf ex be el bl i) p) (Classical.propDecidable _) (stepf ex be el bl i) b
theorem dkA_in {se el bl : Int → Int} {ex be h : Int} (hx : 0 ≤ ex ∧ ex ≤ 60) (hb : 0 ≤ be ∧ be ≤ 60) (h3 : 0 ≤ se 3 ∧ se 3 ≤ 99) (h4 : 0 ≤ se 4 ∧ se 4 ≤ 9999) (h5 : 0 ≤ se 5 ∧ se 5 ≤ 99) (hh : 0 ≤ h ∧ h ≤ 1000) : 0 ≤ dkA se el bl ex be h ∧ dkA se el bl ex be h ≤ 71373060 ∧ 1 ≤ rbZ bl ex be h ∧ rbZ bl ex be h ≤ 121 := by
  have h6 := ovZ_in el ex h hx.1
  have h7 := buZ_in bl be h hb.1
  have e1 := mul_in h3 hh
  have e2 := mul_in (a := se 3 * h) (b := rbZ bl ex be h) (A := 99000) (B := 121) (by omega) (by unfold rbZ; omega)
  have e3 := mul_in h4 h5
  have e4 := mul_in (a := se 4 * se 5) (b := ovZ el ex h) (A := 989901) (B := 60) (by omega) (by omega)
  unfold dkA
  refine ⟨by omega, by omega, ?_, ?_⟩ <;> (unfold rbZ; omega)
theorem stepf_in {ex be i : Int} {el bl : Int → Int} (h1 : ∀ j, 0 ≤ el j ∧ el j ≤ 999) (h2 : ∀ j, 0 ≤ bl j ∧ bl j ≤ 999) : 0 ≤ stepf ex be el bl i ∧ stepf ex be el bl i ≤ 1000 := by
  unfold stepf
  have := h1 i; have := h2 (i - ex)
  split
  · omega
  · split <;> omega
theorem cmO_in {si ey el : Int → Int} {ex : Int} (hx : 0 ≤ ex) (h : ∀ j, 0 ≤ el j ∧ el j ≤ 999) : 0 ≤ cmO si ey el ex ∧ cmO si ey el ex ≤ 999 * ex := by
  have := sumZ_in (f := fun j => if si (ey j) = -1 then 0 else el j) (a := 0) (b := 999) hx (fun j _ _ => by have := h j; split <;> omega)
  unfold cmO; omega
theorem cmS_in {si ey : Int → Int} {ex : Int} (hx : 0 ≤ ex) (h : ∀ j, -1 ≤ si j ∧ si j ≤ 999) : 0 ≤ cmS si ey ex ∧ cmS si ey ex ≤ 999 * ex := by
  have := sumZ_in (f := fun j => if si (ey j) = -1 then 0 else si (ey j)) (a := 0) (b := 999) hx (fun j _ _ => by have := h (ey j); split <;> omega)
  unfold cmS; omega
noncomputable def suB (el bl : Int → Int) (ex be op p : Int) : Int := @ite _ (suP el bl ex be op 0 p) (Classical.propDecidable _) 0 (-1)
def cntV (tn wn ex be op ge fs fi sy w : Int) : Int := if w = 0 then tn else if w = 1 then wn else if w = 2 then ex else if w = 3 then be else if w = 4 then op else if w = 5 then ge else if w = 6 then sy else if w = 7 then fs else if w = 8 then fi else -2
theorem bestS_t {se el bl : Int → Int} {ex be i b : Int} (h1 : stepf ex be el bl i ≤ 999) (h2 : btP se el bl ex be (stepf ex be el bl i) b) : bestS se el bl ex be i b = stepf ex be el bl i := if_pos ⟨h1, h2⟩
theorem bestS_f {se el bl : Int → Int} {ex be i b : Int} (h : ¬ stepf ex be el bl i ≤ 999 ∨ ¬ btP se el bl ex be (stepf ex be el bl i) b) : bestS se el bl ex be i b = b := if_neg (fun z => h.elim (fun q => q z.1) (fun q => q z.2))
theorem suS_t {el bl : Int → Int} {ex be op y i b : Int} (h1 : stepf ex be el bl i ≤ 999) (h2 : b = -1 ∨ stepf ex be el bl i < b) (h3 : suP el bl ex be op (stepf ex be el bl i) y) : suS el bl ex be op y i b = stepf ex be el bl i := if_pos ⟨h1, h2, h3⟩
theorem suS_f {el bl : Int → Int} {ex be op y i b : Int} (h : ¬ (stepf ex be el bl i ≤ 999 ∧ (b = -1 ∨ stepf ex be el bl i < b)) ∨ ¬ suP el bl ex be op (stepf ex be el bl i) y) : suS el bl ex be op y i b = b := if_neg (fun z => h.elim (fun q => q ⟨z.1, z.2.1⟩) (fun q => q z.2.2))
theorem suB_t {el bl : Int → Int} {ex be op y : Int} (h : suP el bl ex be op 0 y) : suB el bl ex be op y = 0 := if_pos h
theorem suB_f {el bl : Int → Int} {ex be op y : Int} (h : ¬ suP el bl ex be op 0 y) : suB el bl ex be op y = -1 := if_neg h
set_option maxHeartbeats 1000000 in
set_option maxRecDepth 100000 in
theorem c_X6_known (l : Launch) (D : va_G) (cyI cyJ cyO : ClassId) (qW : Nat) (qT : Nat) (qA : Nat) (qK : Nat) (qC : Nat) (qE : Nat) (qI : Nat) (qF : Nat) (qH : Nat) (qO : Nat) (fi : Int) (qKk : Nat) (qKl : Nat) (kk : Int → Int) (kl : Int → Int) (y : Int) (w : Int) (h_kk : ∀ j, 0 ≤ kk j ∧ kk j ≤ 2) (h_kl : ∀ j, -1 ≤ kl j ∧ kl j ≤ 999) (h_y : -2147483648 ≤ y ∧ y ≤ 2147483647) (h_w : -2147483648 ≤ w ∧ w ≤ 2147483647) : Met l yX6_known wsX6_known ({ frames := 1, cells := 0, slots := 0, locals := 20 }) (va_Pc [.ref qW, .int (iI (y)), .int (iI (w))] (xR D vwCl [(qW, .inr (6, [.ref qT, .ref qA, .ref qK, .ref qC, .ref qE, .ref qI, .ref qF, .ref qH, .ref qO, .int (iI (fi))])), (qK, .inr (2, [.ref qKk, .ref qKl])), (qKk, .inl (cyI, 60, .inl (xA (kk)))), (qKl, .inl (cyI, 60, .inl (xA (kl))))] (xT cyI cyJ cyO))) (xq (some (.int (iI (if (0 ≤ y ∧ y < 60) ∧ (w = 0 ∨ w = 1) then (if w = 0 then kk y else kl y) else -2))))) 0 0 (fun _ => False) := by
  refine Met.ofW (cc := cX6_known) (maxL := 3) (ret := (some .int)) (by decide) rfl ?_
  intro p e s m args below meth c s₁ B hml hv
  obtain ⟨rfl, hP, hK⟩ := hv
  have hx := B.exec
  have hb := B.bytes
  have hr := B.returns
  have hts := atoms_spec (ws := wsX6_known) B.pre
  have hown : s.vm.findClass RX6 = some m.cls := findClass_of_methodNamed B.named
  have hlocks := B.notSynchronized
  have hcX2 : ∀ w ∈ wsX20, w ∈ wsX6_known := fun _ h => List.mem_cons_of_mem _ (List.mem_append_right _ h)
  have hcX6 : ∀ w ∈ wsX60, w ∈ wsX6_known := fun _ h => List.mem_cons_of_mem _ (List.mem_append_left _ (List.mem_append_right _ h))
  have hP : va_P D vwCl [(qW, .inr (6, [.ref qT, .ref qA, .ref qK, .ref qC, .ref qE, .ref qI, .ref qF, .ref qH, .ref qO, .int (iI (fi))])), (qK, .inr (2, [.ref qKk, .ref qKl])), (qKk, .inl (cyI, 60, .inl (xA (kk)))), (qKl, .inl (cyI, 60, .inl (xA (kl))))] s.heap := hP
  have hl := lv_entry ([.ref qW, .int (iI (y)), .int (iI (w))]) (n := 3) (Nat.le_of_ble_eq_true rfl)
  rw [lg_entry_eq]
  generalize (lg_sl ([.ref qW, .int (iI (y)), .int (iI (w))]) ++ List.replicate (3 - (lg_sl ([.ref qW, .int (iI (y)), .int (iI (w))])).length) Slot.unset).toArray = ls at hl ⊢
  have hl : lv_has ls 3 [(0, .ref qW), (1, .int (iI (y))), (2, .int (iI (w)))] := hl
  refine lv_iload_n hx hb dX6_known_0 rfl (lv_at hl 1 rfl) ?_
  have hPc := hP.sub (ws' := []) [] rfl
  refine xc_i (va_runS (As := [.int (iI (y))]) (rest := []) ⟨hx, hb, hml, hown, hts⟩ (c_X6_isYear l D cyI cyJ cyO y (by first | exact h_y | assumption | omega)) (va_cwS 1 hts gX6_known_X6_isYear rfl rfl rfl (by decide +kernel) ⟨Nat.le_of_ble_eq_true rfl, Nat.le_of_ble_eq_true rfl⟩) (xpS hPc hK) rfl rfl hl.1 rfl (lv_room (Nat.le_of_ble_eq_true rfl)) dX6_known_1 ⟨Nat.le_of_ble_eq_true rfl, Nat.le_of_ble_eq_true rfl⟩) ?_
  refine xb_if_eqB (tgt := 14) hx hb dX6_known_4 (by decide) (fun h_1 => ?_) (fun h_1 => ?_)
  · refine xi_bipush hx hb dX6_known_14 (by decide +kernel) ?_
    exact W.iret (v := iI (-2)) hx hb hr (fun t_ ht_ _ => ⟨congrArg (fun z => Outcome.returned (some (Value.int (iI z)))) (show (-2) = (if (0 ≤ y ∧ y < 60) ∧ (w = 0 ∨ w = 1) then (if w = 0 then kk y else kl y) else -2) from by first | rfl | ((repeat (first | rw [if_pos (by omega)] | rw [if_neg (by omega)])); done) | ((repeat (first | rw [if_pos (by omega)] | rw [if_neg (by omega)])); rfl) | omega), ht_⟩) (fun _ h9 => absurd h9 List.not_mem_nil) dX6_known_16
  · refine lv_iload_n hx hb dX6_known_7 rfl (lv_at hl 2 rfl) ?_
    have hPc := hP.sub (ws' := []) [] rfl
    refine xc_i (va_runS (As := [.int (iI (w))]) (rest := []) ⟨hx, hb, hml, hown, hts⟩ (c_X6_isEither l D cyI cyJ cyO w (by first | exact h_y | assumption | omega)) (va_cwS 1 hts gX6_known_X6_isEither rfl rfl rfl (by decide +kernel) ⟨Nat.le_of_ble_eq_true rfl, Nat.le_of_ble_eq_true rfl⟩) (xpS hPc hK) rfl rfl hl.1 rfl (lv_room (Nat.le_of_ble_eq_true rfl)) dX6_known_8 ⟨Nat.le_of_ble_eq_true rfl, Nat.le_of_ble_eq_true rfl⟩) ?_
    refine xb_if_neB (tgt := 17) hx hb dX6_known_11 (by decide) (fun h_2 => ?_) (fun h_2 => ?_)
    · refine lv_iload_n hx hb dX6_known_17 rfl (lv_at hl 2 rfl) ?_
      refine xb_if_ne (tgt := 33) hx hb dX6_known_18 (by decide) (by omega) (fun h_3 => ?_) (fun h_3 => ?_)
      · refine lv_aload_n hx hb dX6_known_33 rfl (lv_at hl 0 rfl) ?_
        refine va_get (D := D) (ci := 6) (C := RX6) (T := TX6) (N := 10) hx hb hts hcX6 hown hK hP 0 rfl rfl 2 (by decide) (hts (.fieldLink RX6 26 "WallMarks" "knowledge" "LWallMarks$Known;") (List.mem_of_getElem? (i := 1) (by decide +kernel))) (fun _ h9 => h9) rfl dX6_known_34 ?_
        refine va_get (D := D) (ci := 2) (C := RX2) (T := TX2) (N := 2) hx hb hts hcX2 hown hK hP 1 rfl rfl 1 (by decide) (hts (.fieldLink RX6 140 "WallMarks$Known" "levels" "[I") (List.mem_of_getElem? (i := 3) (by decide +kernel))) (fun _ h9 => h9) rfl dX6_known_37 ?_
        refine lv_iload_n hx hb dX6_known_40 rfl (lv_at hl 1 rfl) ?_
        refine xi_ald (D := D) hx hb hK hP 3 0 rfl rfl (by decide) (by omega) dX6_known_41 ?_
        have hr_4 := h_kl (y)
        exact W.iret (v := iI (kl (y))) hx hb hr (fun t_ ht_ _ => ⟨congrArg (fun z => Outcome.returned (some (Value.int (iI z)))) (show (kl (y)) = (if (0 ≤ y ∧ y < 60) ∧ (w = 0 ∨ w = 1) then (if w = 0 then kk y else kl y) else -2) from by first | rfl | ((repeat (first | rw [if_pos (by omega)] | rw [if_neg (by omega)])); done) | ((repeat (first | rw [if_pos (by omega)] | rw [if_neg (by omega)])); rfl) | omega), ht_⟩) (fun _ h9 => absurd h9 List.not_mem_nil) dX6_known_42
      · refine lv_aload_n hx hb dX6_known_21 rfl (lv_at hl 0 rfl) ?_
        refine va_get (D := D) (ci := 6) (C := RX6) (T := TX6) (N := 10) hx hb hts hcX6 hown hK hP 0 rfl rfl 2 (by decide) (hts (.fieldLink RX6 26 "WallMarks" "knowledge" "LWallMarks$Known;") (List.mem_of_getElem? (i := 1) (by decide +kernel))) (fun _ h9 => h9) rfl dX6_known_22 ?_
        refine va_get (D := D) (ci := 2) (C := RX2) (T := TX2) (N := 2) hx hb hts hcX2 hown hK hP 1 rfl rfl 0 (by decide) (hts (.fieldLink RX6 137 "WallMarks$Known" "kinds" "[I") (List.mem_of_getElem? (i := 2) (by decide +kernel))) (fun _ h9 => h9) rfl dX6_known_25 ?_
        refine lv_iload_n hx hb dX6_known_28 rfl (lv_at hl 1 rfl) ?_
        refine xi_ald (D := D) hx hb hK hP 2 0 rfl rfl (by decide) (by omega) dX6_known_29 ?_
        have hr_5 := h_kk (y)
        refine lv_goto (tgt := 42) hx hb dX6_known_30 (by decide) ?_
        exact W.iret (v := iI (kk (y))) hx hb hr (fun t_ ht_ _ => ⟨congrArg (fun z => Outcome.returned (some (Value.int (iI z)))) (show (kk (y)) = (if (0 ≤ y ∧ y < 60) ∧ (w = 0 ∨ w = 1) then (if w = 0 then kk y else kl y) else -2) from by first | rfl | ((repeat (first | rw [if_pos (by omega)] | rw [if_neg (by omega)])); done) | ((repeat (first | rw [if_pos (by omega)] | rw [if_neg (by omega)])); rfl) | omega), ht_⟩) (fun _ h9 => absurd h9 List.not_mem_nil) dX6_known_42
    · refine xi_bipush hx hb dX6_known_14 (by decide +kernel) ?_
      exact W.iret (v := iI (-2)) hx hb hr (fun t_ ht_ _ => ⟨congrArg (fun z => Outcome.returned (some (Value.int (iI z)))) (show (-2) = (if (0 ≤ y ∧ y < 60) ∧ (w = 0 ∨ w = 1) then (if w = 0 then kk y else kl y) else -2) from by first | rfl | ((repeat (first | rw [if_pos (by omega)] | rw [if_neg (by omega)])); done) | ((repeat (first | rw [if_pos (by omega)] | rw [if_neg (by omega)])); rfl) | omega), ht_⟩) (fun _ h9 => absurd h9 List.not_mem_nil) dX6_known_16
set_option maxHeartbeats 1000000 in
set_option maxRecDepth 100000 in
theorem c_X6_over (l : Launch) (D : va_G) (cyI cyJ cyO : ClassId) (qW : Nat) (qT : Nat) (qA : Nat) (qK : Nat) (qC : Nat) (qE : Nat) (qI : Nat) (qF : Nat) (qH : Nat) (qO : Nat) (fi : Int) (qCy : Nat) (qCl : Nat) (qCb : Nat) (ex : Int) (be : Int) (op : Int) (es : Int) (ge : Int) (rc : Int) (lr : Int) (lw : Int) (el : Int → Int) (bl : Int → Int) (x : Int) (w : Int) (h_ex : 0 ≤ ex ∧ ex ≤ 60) (h_be : 0 ≤ be ∧ be ≤ 60) (h_op : 0 ≤ op ∧ op ≤ 60) (h_el : ∀ j, 0 ≤ el j ∧ el j ≤ 999) (h_bl : ∀ j, 0 ≤ bl j ∧ bl j ≤ 999) (h_x : -2147483648 ≤ x ∧ x ≤ 2147483647) (h_w : -2147483648 ≤ w ∧ w ≤ 2147483647) : Met l yX6_over wsX6_over ({ frames := 2, cells := 0, slots := 0, locals := 44 }) (va_Pc [.ref qW, .int (iI (x)), .int (iI (w))] (xR D vwCl [(qW, .inr (6, [.ref qT, .ref qA, .ref qK, .ref qC, .ref qE, .ref qI, .ref qF, .ref qH, .ref qO, .int (iI (fi))])), (qC, .inr (0, [.ref qCy, .ref qCl, .ref qCb, .int (iI (ex)), .int (iI (be)), .int (iI (op)), .int (iI (es)), .int (iI (ge)), .int (iI (rc)), .int (iI (lr)), .int (iI (lw))])), (qCl, .inl (cyI, 60, .inl (xA (el)))), (qCb, .inl (cyI, 60, .inl (xA (bl))))] (xT cyI cyJ cyO))) (xq (some (.int (iI (if (0 ≤ x ∧ x ≤ 999) ∧ 0 ≤ w ∧ w ≤ 2 then (if w = 0 then ovZ el ex x else if w = 1 then ex - ovZ el ex x + buZ bl be x else dkZ bl be op x) else -2))))) 0 0 (fun _ => False) := by
  refine Met.ofW (cc := cX6_over) (maxL := 3) (ret := (some .int)) (by decide) rfl ?_
  intro p e s m args below meth c s₁ B hml hv
  obtain ⟨rfl, hP, hK⟩ := hv
  have hx := B.exec
  have hb := B.bytes
  have hr := B.returns
  have hts := atoms_spec (ws := wsX6_over) B.pre
  have hown : s.vm.findClass RX6 = some m.cls := findClass_of_methodNamed B.named
  have hlocks := B.notSynchronized
  have hcX6 : ∀ w ∈ wsX60, w ∈ wsX6_over := fun _ h => List.mem_cons_of_mem _ (List.mem_append_left _ (List.mem_append_right _ h))
  have hP : va_P D vwCl [(qW, .inr (6, [.ref qT, .ref qA, .ref qK, .ref qC, .ref qE, .ref qI, .ref qF, .ref qH, .ref qO, .int (iI (fi))])), (qC, .inr (0, [.ref qCy, .ref qCl, .ref qCb, .int (iI (ex)), .int (iI (be)), .int (iI (op)), .int (iI (es)), .int (iI (ge)), .int (iI (rc)), .int (iI (lr)), .int (iI (lw))])), (qCl, .inl (cyI, 60, .inl (xA (el)))), (qCb, .inl (cyI, 60, .inl (xA (bl))))] s.heap := hP
  have hl := lv_entry ([.ref qW, .int (iI (x)), .int (iI (w))]) (n := 3) (Nat.le_of_ble_eq_true rfl)
  rw [lg_entry_eq]
  generalize (lg_sl ([.ref qW, .int (iI (x)), .int (iI (w))]) ++ List.replicate (3 - (lg_sl ([.ref qW, .int (iI (x)), .int (iI (w))])).length) Slot.unset).toArray = ls at hl ⊢
  have hl : lv_has ls 3 [(0, .ref qW), (1, .int (iI (x))), (2, .int (iI (w)))] := hl
  refine lv_iload_n hx hb dX6_over_0 rfl (lv_at hl 1 rfl) ?_
  have hPc := hP.sub (ws' := []) [] rfl
  refine xc_i (va_runS (As := [.int (iI (x))]) (rest := []) ⟨hx, hb, hml, hown, hts⟩ (c_X6_isLevel l D cyI cyJ cyO x (by first | exact h_y | assumption | omega)) (va_cwS 1 hts gX6_over_X6_isLevel rfl rfl rfl (by decide +kernel) ⟨Nat.le_of_ble_eq_true rfl, Nat.le_of_ble_eq_true rfl⟩) (xpS hPc hK) rfl rfl hl.1 rfl (lv_room (Nat.le_of_ble_eq_true rfl)) dX6_over_1 ⟨Nat.le_of_ble_eq_true rfl, Nat.le_of_ble_eq_true rfl⟩) ?_
  refine xb_if_eqB (tgt := 16) hx hb dX6_over_4 (by decide) (fun h_1 => ?_) (fun h_1 => ?_)
  · refine xi_bipush hx hb dX6_over_16 (by decide +kernel) ?_
    exact W.iret (v := iI (-2)) hx hb hr (fun t_ ht_ _ => ⟨congrArg (fun z => Outcome.returned (some (Value.int (iI z)))) (show (-2) = (if (0 ≤ x ∧ x ≤ 999) ∧ 0 ≤ w ∧ w ≤ 2 then (if w = 0 then ovZ el ex x else if w = 1 then ex - ovZ el ex x + buZ bl be x else dkZ bl be op x) else -2) from by first | rfl | ((repeat (first | rw [if_pos (by omega)] | rw [if_neg (by omega)])); done) | ((repeat (first | rw [if_pos (by omega)] | rw [if_neg (by omega)])); rfl) | omega), ht_⟩) (fun _ h9 => absurd h9 List.not_mem_nil) dX6_over_18
  · refine lv_iload_n hx hb dX6_over_7 rfl (lv_at hl 2 rfl) ?_
    refine xb_if_lt (tgt := 16) hx hb dX6_over_8 (by decide) (by omega) (fun h_2 => ?_) (fun h_2 => ?_)
    · refine xi_bipush hx hb dX6_over_16 (by decide +kernel) ?_
      exact W.iret (v := iI (-2)) hx hb hr (fun t_ ht_ _ => ⟨congrArg (fun z => Outcome.returned (some (Value.int (iI z)))) (show (-2) = (if (0 ≤ x ∧ x ≤ 999) ∧ 0 ≤ w ∧ w ≤ 2 then (if w = 0 then ovZ el ex x else if w = 1 then ex - ovZ el ex x + buZ bl be x else dkZ bl be op x) else -2) from by first | rfl | ((repeat (first | rw [if_pos (by omega)] | rw [if_neg (by omega)])); done) | ((repeat (first | rw [if_pos (by omega)] | rw [if_neg (by omega)])); rfl) | omega), ht_⟩) (fun _ h9 => absurd h9 List.not_mem_nil) dX6_over_18
    · refine lv_iload_n hx hb dX6_over_11 rfl (lv_at hl 2 rfl) ?_
      refine xi_const hx hb dX6_over_12 ?_
      refine xb_icmp_le (tgt := 19) hx hb dX6_over_13 (by decide) (by omega) (fun h_3 => ?_) (fun h_3 => ?_)
      · refine lv_iload_n hx hb dX6_over_19 rfl (lv_at hl 2 rfl) ?_
        refine xb_if_ne (tgt := 32) hx hb dX6_over_20 (by decide) (by omega) (fun h_4 => ?_) (fun h_4 => ?_)
        · refine lv_iload_n hx hb dX6_over_32 rfl (lv_at hl 2 rfl) ?_
          refine xi_const hx hb dX6_over_33 ?_
          refine xb_icmp_ne (tgt := 48) hx hb dX6_over_34 (by decide) (by omega) (fun h_5 => ?_) (fun h_5 => ?_)
          · refine lv_aload_n hx hb dX6_over_48 rfl (lv_at hl 0 rfl) ?_
            refine va_get (D := D) (ci := 6) (C := RX6) (T := TX6) (N := 10) hx hb hts hcX6 hown hK hP 0 rfl rfl 3 (by decide) (hts (.fieldLink RX6 33 "WallMarks" "counted" "LWallMarks$Counted;") (List.mem_of_getElem? (i := 1) (by decide +kernel))) (fun _ h9 => h9) rfl dX6_over_49 ?_
            refine lv_iload_n hx hb dX6_over_52 rfl (lv_at hl 1 rfl) ?_
            have hf_6 := buZ_in bl be x (by omega)
            have hPc := hP.sub (ws' := [(qC, .inr (0, [.ref qCy, .ref qCl, .ref qCb, .int (iI (ex)), .int (iI (be)), .int (iI (op)), .int (iI (es)), .int (iI (ge)), .int (iI (rc)), .int (iI (lr)), .int (iI (lw))])), (qCb, .inl (cyI, 60, .inl (xA (bl))))]) [1, 3] rfl
            refine xc_i (va_runV (As := [.int (iI (x))]) (rest := []) ⟨hx, hb, hml, hown, hts⟩ (c_X0_darks l D cyI cyJ cyO qC qCy qCl qCb ex be op es ge rc lr lw bl x (by first | exact h_ex | assumption | omega) (by first | exact h_be | assumption | omega) (by first | exact h_op | assumption | omega) (by first | exact h_bl | assumption | omega) (by first | exact h_x | assumption | omega)) (cwV 1 hts gX6_over_X0_darks rfl rfl rfl (by decide +kernel) ⟨Nat.le_of_ble_eq_true rfl, Nat.le_of_ble_eq_true rfl⟩) (xpV hPc hK (ci := 0) (q0 := 0) (q := (RX0, TX0, 11)) rfl rfl) rfl rfl hl.1 rfl (lv_room (Nat.le_of_ble_eq_true rfl)) dX6_over_53 ⟨Nat.le_of_ble_eq_true rfl, Nat.le_of_ble_eq_true rfl⟩) ?_
            exact W.iret (v := iI (op + be - buZ bl be x)) hx hb hr (fun t_ ht_ _ => ⟨congrArg (fun z => Outcome.returned (some (Value.int (iI z)))) (show (op + be - buZ bl be x) = (if (0 ≤ x ∧ x ≤ 999) ∧ 0 ≤ w ∧ w ≤ 2 then (if w = 0 then ovZ el ex x else if w = 1 then ex - ovZ el ex x + buZ bl be x else dkZ bl be op x) else -2) from by first | rfl | ((repeat (first | rw [if_pos (by omega)] | rw [if_neg (by omega)])); done) | ((repeat (first | rw [if_pos (by omega)] | rw [if_neg (by omega)])); rfl) | omega), ht_⟩) (fun _ h9 => absurd h9 List.not_mem_nil) dX6_over_56
          · refine lv_aload_n hx hb dX6_over_37 rfl (lv_at hl 0 rfl) ?_
            refine va_get (D := D) (ci := 6) (C := RX6) (T := TX6) (N := 10) hx hb hts hcX6 hown hK hP 0 rfl rfl 3 (by decide) (hts (.fieldLink RX6 33 "WallMarks" "counted" "LWallMarks$Counted;") (List.mem_of_getElem? (i := 1) (by decide +kernel))) (fun _ h9 => h9) rfl dX6_over_38 ?_
            refine lv_iload_n hx hb dX6_over_41 rfl (lv_at hl 1 rfl) ?_
            have hf_7 := ovZ_in el ex x (by omega)
            have hf_8 := buZ_in bl be x (by omega)
            have hPc := hP.sub (ws' := [(qC, .inr (0, [.ref qCy, .ref qCl, .ref qCb, .int (iI (ex)), .int (iI (be)), .int (iI (op)), .int (iI (es)), .int (iI (ge)), .int (iI (rc)), .int (iI (lr)), .int (iI (lw))])), (qCl, .inl (cyI, 60, .inl (xA (el)))), (qCb, .inl (cyI, 60, .inl (xA (bl))))]) [1, 2, 3] rfl
            refine xc_i (va_runV (As := [.int (iI (x))]) (rest := []) ⟨hx, hb, hml, hown, hts⟩ (c_X0_unders l D cyI cyJ cyO qC qCy qCl qCb ex be op es ge rc lr lw el bl x (by first | exact h_ex | assumption | omega) (by first | exact h_be | assumption | omega) (by first | exact h_op | assumption | omega) (by first | exact h_el | assumption | omega) (by first | exact h_bl | assumption | omega) (by first | exact h_x | assumption | omega)) (cwV 1 hts gX6_over_X0_unders rfl rfl rfl (by decide +kernel) ⟨Nat.le_of_ble_eq_true rfl, Nat.le_of_ble_eq_true rfl⟩) (xpV hPc hK (ci := 0) (q0 := 0) (q := (RX0, TX0, 11)) rfl rfl) rfl rfl hl.1 rfl (lv_room (Nat.le_of_ble_eq_true rfl)) dX6_over_42 ⟨Nat.le_of_ble_eq_true rfl, Nat.le_of_ble_eq_true rfl⟩) ?_
            refine lv_goto (tgt := 56) hx hb dX6_over_45 (by decide) ?_
            exact W.iret (v := iI (ex - ovZ el ex x + buZ bl be x)) hx hb hr (fun t_ ht_ _ => ⟨congrArg (fun z => Outcome.returned (some (Value.int (iI z)))) (show (ex - ovZ el ex x + buZ bl be x) = (if (0 ≤ x ∧ x ≤ 999) ∧ 0 ≤ w ∧ w ≤ 2 then (if w = 0 then ovZ el ex x else if w = 1 then ex - ovZ el ex x + buZ bl be x else dkZ bl be op x) else -2) from by first | rfl | ((repeat (first | rw [if_pos (by omega)] | rw [if_neg (by omega)])); done) | ((repeat (first | rw [if_pos (by omega)] | rw [if_neg (by omega)])); rfl) | omega), ht_⟩) (fun _ h9 => absurd h9 List.not_mem_nil) dX6_over_56
        · refine lv_aload_n hx hb dX6_over_23 rfl (lv_at hl 0 rfl) ?_
          refine va_get (D := D) (ci := 6) (C := RX6) (T := TX6) (N := 10) hx hb hts hcX6 hown hK hP 0 rfl rfl 3 (by decide) (hts (.fieldLink RX6 33 "WallMarks" "counted" "LWallMarks$Counted;") (List.mem_of_getElem? (i := 1) (by decide +kernel))) (fun _ h9 => h9) rfl dX6_over_24 ?_
          refine lv_iload_n hx hb dX6_over_27 rfl (lv_at hl 1 rfl) ?_
          have hf_9 := ovZ_in el ex x (by omega)
          have hPc := hP.sub (ws' := [(qC, .inr (0, [.ref qCy, .ref qCl, .ref qCb, .int (iI (ex)), .int (iI (be)), .int (iI (op)), .int (iI (es)), .int (iI (ge)), .int (iI (rc)), .int (iI (lr)), .int (iI (lw))])), (qCl, .inl (cyI, 60, .inl (xA (el))))]) [1, 2] rfl
          refine xc_i (va_runV (As := [.int (iI (x))]) (rest := []) ⟨hx, hb, hml, hown, hts⟩ (c_X0_overs l D cyI cyJ cyO qC qCy qCl qCb ex be op es ge rc lr lw el x (by first | exact h_ex | assumption | omega) (by first | exact h_be | assumption | omega) (by first | exact h_op | assumption | omega) (by first | exact h_el | assumption | omega) (by first | exact h_x | assumption | omega)) (cwV 1 hts gX6_over_X0_overs rfl rfl rfl (by decide +kernel) ⟨Nat.le_of_ble_eq_true rfl, Nat.le_of_ble_eq_true rfl⟩) (xpV hPc hK (ci := 0) (q0 := 0) (q := (RX0, TX0, 11)) rfl rfl) rfl rfl hl.1 rfl (lv_room (Nat.le_of_ble_eq_true rfl)) dX6_over_28 ⟨Nat.le_of_ble_eq_true rfl, Nat.le_of_ble_eq_true rfl⟩) ?_
          exact W.iret (v := iI (ovZ el ex x)) hx hb hr (fun t_ ht_ _ => ⟨congrArg (fun z => Outcome.returned (some (Value.int (iI z)))) (show (ovZ el ex x) = (if (0 ≤ x ∧ x ≤ 999) ∧ 0 ≤ w ∧ w ≤ 2 then (if w = 0 then ovZ el ex x else if w = 1 then ex - ovZ el ex x + buZ bl be x else dkZ bl be op x) else -2) from by first | rfl | ((repeat (first | rw [if_pos (by omega)] | rw [if_neg (by omega)])); done) | ((repeat (first | rw [if_pos (by omega)] | rw [if_neg (by omega)])); rfl) | omega), ht_⟩) (fun _ h9 => absurd h9 List.not_mem_nil) dX6_over_31
      · refine xi_bipush hx hb dX6_over_16 (by decide +kernel) ?_
        exact W.iret (v := iI (-2)) hx hb hr (fun t_ ht_ _ => ⟨congrArg (fun z => Outcome.returned (some (Value.int (iI z)))) (show (-2) = (if (0 ≤ x ∧ x ≤ 999) ∧ 0 ≤ w ∧ w ≤ 2 then (if w = 0 then ovZ el ex x else if w = 1 then ex - ovZ el ex x + buZ bl be x else dkZ bl be op x) else -2) from by first | rfl | ((repeat (first | rw [if_pos (by omega)] | rw [if_neg (by omega)])); done) | ((repeat (first | rw [if_pos (by omega)] | rw [if_neg (by omega)])); rfl) | omega), ht_⟩) (fun _ h9 => absurd h9 List.not_mem_nil) dX6_over_18
set_option maxHeartbeats 1000000 in
set_option maxRecDepth 100000 in
theorem c_X6_rare (l : Launch) (D : va_G) (cyI cyJ cyO : ClassId) (qW : Nat) (qT : Nat) (qA : Nat) (qK : Nat) (qC : Nat) (qE : Nat) (qI : Nat) (qF : Nat) (qH : Nat) (qO : Nat) (fi : Int) (qCy : Nat) (qCl : Nat) (qCb : Nat) (ex : Int) (be : Int) (op : Int) (es : Int) (ge : Int) (rc : Int) (lr : Int) (lw : Int) (el : Int → Int) (bl : Int → Int) (x : Int) (k : Int) (w : Int) (h_ex : 0 ≤ ex ∧ ex ≤ 60) (h_be : 0 ≤ be ∧ be ≤ 60) (h_op : 0 ≤ op ∧ op ≤ 60) (h_el : ∀ j, 0 ≤ el j ∧ el j ≤ 999) (h_bl : ∀ j, 0 ≤ bl j ∧ bl j ≤ 999) (h_x : -2147483648 ≤ x ∧ x ≤ 2147483647) (h_k : -2147483648 ≤ k ∧ k ≤ 2147483647) (h_w : -2147483648 ≤ w ∧ w ≤ 2147483647) : Met l yX6_rare wsX6_rare ({ frames := 2, cells := 0, slots := 0, locals := 56 }) (va_Pc [.ref qW, .int (iI (x)), .int (iI (k)), .int (iI (w))] (xR D vwCl [(qW, .inr (6, [.ref qT, .ref qA, .ref qK, .ref qC, .ref qE, .ref qI, .ref qF, .ref qH, .ref qO, .int (iI (fi))])), (qC, .inr (0, [.ref qCy, .ref qCl, .ref qCb, .int (iI (ex)), .int (iI (be)), .int (iI (op)), .int (iI (es)), .int (iI (ge)), .int (iI (rc)), .int (iI (lr)), .int (iI (lw))])), (qCl, .inl (cyI, 60, .inl (xA (el)))), (qCb, .inl (cyI, 60, .inl (xA (bl))))] (xT cyI cyJ cyO))) (xq (some (.long (lI (if (0 ≤ x ∧ x ≤ 999) ∧ (0 ≤ k ∧ k ≤ 3) ∧ (w = 0 ∨ w = 1) then (if k = 0 then frac (ovZ el ex x) (rbZ bl ex be x) w else if k = 1 then frac (ovZ el ex x) (ex + be + op + 1) w else if k = 2 then frac (ovZ el ex x + dkZ bl be op x) (ex + be + op + 1) w else if ovZ el ex x = 0 then -9223372036854775805 else frac (rbZ bl ex be x) (ovZ el ex x) w) else -9223372036854775806))))) 0 0 (fun _ => False) := by
  refine Met.ofW (cc := cX6_rare) (maxL := 5) (ret := (some .long)) (by decide) rfl ?_
  intro p e s m args below meth c s₁ B hml hv
  obtain ⟨rfl, hP, hK⟩ := hv
  have hx := B.exec
  have hb := B.bytes
  have hr := B.returns
  have hts := atoms_spec (ws := wsX6_rare) B.pre
  have hown : s.vm.findClass RX6 = some m.cls := findClass_of_methodNamed B.named
  have hlocks := B.notSynchronized
  have hcX6 : ∀ w ∈ wsX60, w ∈ wsX6_rare := fun _ h => List.mem_cons_of_mem _ (List.mem_append_left _ (List.mem_append_right _ h))
  have hP : va_P D vwCl [(qW, .inr (6, [.ref qT, .ref qA, .ref qK, .ref qC, .ref qE, .ref qI, .ref qF, .ref qH, .ref qO, .int (iI (fi))])), (qC, .inr (0, [.ref qCy, .ref qCl, .ref qCb, .int (iI (ex)), .int (iI (be)), .int (iI (op)), .int (iI (es)), .int (iI (ge)), .int (iI (rc)), .int (iI (lr)), .int (iI (lw))])), (qCl, .inl (cyI, 60, .inl (xA (el)))), (qCb, .inl (cyI, 60, .inl (xA (bl))))] s.heap := hP
  have hl := lv_entry ([.ref qW, .int (iI (x)), .int (iI (k)), .int (iI (w))]) (n := 5) (Nat.le_of_ble_eq_true rfl)
  rw [lg_entry_eq]
  generalize (lg_sl ([.ref qW, .int (iI (x)), .int (iI (k)), .int (iI (w))]) ++ List.replicate (5 - (lg_sl ([.ref qW, .int (iI (x)), .int (iI (k)), .int (iI (w))])).length) Slot.unset).toArray = ls at hl ⊢
  have hl : lv_has ls 5 [(0, .ref qW), (1, .int (iI (x))), (2, .int (iI (k))), (3, .int (iI (w)))] := hl
  refine lv_iload_n hx hb dX6_rare_0 rfl (lv_at hl 1 rfl) ?_
  have hPc := hP.sub (ws' := []) [] rfl
  refine xc_i (va_runS (As := [.int (iI (x))]) (rest := []) ⟨hx, hb, hml, hown, hts⟩ (c_X6_isLevel l D cyI cyJ cyO x (by first | exact h_y | assumption | omega)) (va_cwS 1 hts gX6_rare_X6_isLevel rfl rfl rfl (by decide +kernel) ⟨Nat.le_of_ble_eq_true rfl, Nat.le_of_ble_eq_true rfl⟩) (xpS hPc hK) rfl rfl hl.1 rfl (lv_room (Nat.le_of_ble_eq_true rfl)) dX6_rare_1 ⟨Nat.le_of_ble_eq_true rfl, Nat.le_of_ble_eq_true rfl⟩) ?_
  refine xb_if_eqB (tgt := 23) hx hb dX6_rare_4 (by decide) (fun h_1 => ?_) (fun h_1 => ?_)
  · refine xi_bipush hx hb dX6_rare_23 (by decide +kernel) ?_
    have hPc := hP.sub (ws' := []) [] rfl
    refine xc_l (va_runS (As := [.int (iI (-2))]) (rest := []) ⟨hx, hb, hml, hown, hts⟩ (c_X6_longRefusal l D cyI cyJ cyO (-2) (by first | exact h_x | assumption | omega)) (va_cwS 1 hts gX6_rare_X6_longRefusal rfl rfl rfl (by decide +kernel) ⟨Nat.le_of_ble_eq_true rfl, Nat.le_of_ble_eq_true rfl⟩) (xpS hPc hK) rfl rfl hl.1 rfl (lv_room (Nat.le_of_ble_eq_true rfl)) dX6_rare_25 ⟨Nat.le_of_ble_eq_true rfl, Nat.le_of_ble_eq_true rfl⟩) ?_
    exact W.lret (v := lI (-9223372036854775808 - (-2))) hx hb hr (fun t_ ht_ _ => ⟨congrArg (fun z => Outcome.returned (some (Value.long (lI z)))) (show (-9223372036854775808 - (-2)) = (if (0 ≤ x ∧ x ≤ 999) ∧ (0 ≤ k ∧ k ≤ 3) ∧ (w = 0 ∨ w = 1) then (if k = 0 then frac (ovZ el ex x) (rbZ bl ex be x) w else if k = 1 then frac (ovZ el ex x) (ex + be + op + 1) w else if k = 2 then frac (ovZ el ex x + dkZ bl be op x) (ex + be + op + 1) w else if ovZ el ex x = 0 then -9223372036854775805 else frac (rbZ bl ex be x) (ovZ el ex x) w) else -9223372036854775806) from by first | rfl | ((repeat (first | rw [if_pos (by omega)] | rw [if_neg (by omega)])); done) | ((repeat (first | rw [if_pos (by omega)] | rw [if_neg (by omega)])); rfl) | omega), ht_⟩) (fun _ h9 => absurd h9 List.not_mem_nil) dX6_rare_28
  · refine lv_iload_n hx hb dX6_rare_7 rfl (lv_at hl 2 rfl) ?_
    refine xb_if_lt (tgt := 23) hx hb dX6_rare_8 (by decide) (by omega) (fun h_2 => ?_) (fun h_2 => ?_)
    · refine xi_bipush hx hb dX6_rare_23 (by decide +kernel) ?_
      have hPc := hP.sub (ws' := []) [] rfl
      refine xc_l (va_runS (As := [.int (iI (-2))]) (rest := []) ⟨hx, hb, hml, hown, hts⟩ (c_X6_longRefusal l D cyI cyJ cyO (-2) (by first | exact h_x | assumption | omega)) (va_cwS 1 hts gX6_rare_X6_longRefusal rfl rfl rfl (by decide +kernel) ⟨Nat.le_of_ble_eq_true rfl, Nat.le_of_ble_eq_true rfl⟩) (xpS hPc hK) rfl rfl hl.1 rfl (lv_room (Nat.le_of_ble_eq_true rfl)) dX6_rare_25 ⟨Nat.le_of_ble_eq_true rfl, Nat.le_of_ble_eq_true rfl⟩) ?_
      exact W.lret (v := lI (-9223372036854775808 - (-2))) hx hb hr (fun t_ ht_ _ => ⟨congrArg (fun z => Outcome.returned (some (Value.long (lI z)))) (show (-9223372036854775808 - (-2)) = (if (0 ≤ x ∧ x ≤ 999) ∧ (0 ≤ k ∧ k ≤ 3) ∧ (w = 0 ∨ w = 1) then (if k = 0 then frac (ovZ el ex x) (rbZ bl ex be x) w else if k = 1 then frac (ovZ el ex x) (ex + be + op + 1) w else if k = 2 then frac (ovZ el ex x + dkZ bl be op x) (ex + be + op + 1) w else if ovZ el ex x = 0 then -9223372036854775805 else frac (rbZ bl ex be x) (ovZ el ex x) w) else -9223372036854775806) from by first | rfl | ((repeat (first | rw [if_pos (by omega)] | rw [if_neg (by omega)])); done) | ((repeat (first | rw [if_pos (by omega)] | rw [if_neg (by omega)])); rfl) | omega), ht_⟩) (fun _ h9 => absurd h9 List.not_mem_nil) dX6_rare_28
    · refine lv_iload_n hx hb dX6_rare_11 rfl (lv_at hl 2 rfl) ?_
      refine xi_const hx hb dX6_rare_12 ?_
      refine xb_icmp_gt (tgt := 23) hx hb dX6_rare_13 (by decide) (by omega) (fun h_3 => ?_) (fun h_3 => ?_)
      · refine xi_bipush hx hb dX6_rare_23 (by decide +kernel) ?_
        have hPc := hP.sub (ws' := []) [] rfl
        refine xc_l (va_runS (As := [.int (iI (-2))]) (rest := []) ⟨hx, hb, hml, hown, hts⟩ (c_X6_longRefusal l D cyI cyJ cyO (-2) (by first | exact h_x | assumption | omega)) (va_cwS 1 hts gX6_rare_X6_longRefusal rfl rfl rfl (by decide +kernel) ⟨Nat.le_of_ble_eq_true rfl, Nat.le_of_ble_eq_true rfl⟩) (xpS hPc hK) rfl rfl hl.1 rfl (lv_room (Nat.le_of_ble_eq_true rfl)) dX6_rare_25 ⟨Nat.le_of_ble_eq_true rfl, Nat.le_of_ble_eq_true rfl⟩) ?_
        exact W.lret (v := lI (-9223372036854775808 - (-2))) hx hb hr (fun t_ ht_ _ => ⟨congrArg (fun z => Outcome.returned (some (Value.long (lI z)))) (show (-9223372036854775808 - (-2)) = (if (0 ≤ x ∧ x ≤ 999) ∧ (0 ≤ k ∧ k ≤ 3) ∧ (w = 0 ∨ w = 1) then (if k = 0 then frac (ovZ el ex x) (rbZ bl ex be x) w else if k = 1 then frac (ovZ el ex x) (ex + be + op + 1) w else if k = 2 then frac (ovZ el ex x + dkZ bl be op x) (ex + be + op + 1) w else if ovZ el ex x = 0 then -9223372036854775805 else frac (rbZ bl ex be x) (ovZ el ex x) w) else -9223372036854775806) from by first | rfl | ((repeat (first | rw [if_pos (by omega)] | rw [if_neg (by omega)])); done) | ((repeat (first | rw [if_pos (by omega)] | rw [if_neg (by omega)])); rfl) | omega), ht_⟩) (fun _ h9 => absurd h9 List.not_mem_nil) dX6_rare_28
      · refine lv_iload_n hx hb dX6_rare_16 rfl (lv_at hl 3 rfl) ?_
        have hPc := hP.sub (ws' := []) [] rfl
        refine xc_i (va_runS (As := [.int (iI (w))]) (rest := []) ⟨hx, hb, hml, hown, hts⟩ (c_X6_isEither l D cyI cyJ cyO w (by first | exact h_y | assumption | omega)) (va_cwS 1 hts gX6_rare_X6_isEither rfl rfl rfl (by decide +kernel) ⟨Nat.le_of_ble_eq_true rfl, Nat.le_of_ble_eq_true rfl⟩) (xpS hPc hK) rfl rfl hl.1 rfl (lv_room (Nat.le_of_ble_eq_true rfl)) dX6_rare_17 ⟨Nat.le_of_ble_eq_true rfl, Nat.le_of_ble_eq_true rfl⟩) ?_
        refine xb_if_neB (tgt := 29) hx hb dX6_rare_20 (by decide) (fun h_4 => ?_) (fun h_4 => ?_)
        · refine lv_aload_n hx hb dX6_rare_29 rfl (lv_at hl 0 rfl) ?_
          refine va_get (D := D) (ci := 6) (C := RX6) (T := TX6) (N := 10) hx hb hts hcX6 hown hK hP 0 rfl rfl 3 (by decide) (hts (.fieldLink RX6 33 "WallMarks" "counted" "LWallMarks$Counted;") (List.mem_of_getElem? (i := 1) (by decide +kernel))) (fun _ h9 => h9) rfl dX6_rare_30 ?_
          refine lv_iload_n hx hb dX6_rare_33 rfl (lv_at hl 1 rfl) ?_
          have hf_5 := ovZ_in el ex x (by omega)
          have hPc := hP.sub (ws' := [(qC, .inr (0, [.ref qCy, .ref qCl, .ref qCb, .int (iI (ex)), .int (iI (be)), .int (iI (op)), .int (iI (es)), .int (iI (ge)), .int (iI (rc)), .int (iI (lr)), .int (iI (lw))])), (qCl, .inl (cyI, 60, .inl (xA (el))))]) [1, 2] rfl
          refine xc_i (va_runV (As := [.int (iI (x))]) (rest := []) ⟨hx, hb, hml, hown, hts⟩ (c_X0_overs l D cyI cyJ cyO qC qCy qCl qCb ex be op es ge rc lr lw el x (by first | exact h_ex | assumption | omega) (by first | exact h_be | assumption | omega) (by first | exact h_op | assumption | omega) (by first | exact h_el | assumption | omega) (by first | exact h_x | assumption | omega)) (cwV 1 hts gX6_rare_X0_overs rfl rfl rfl (by decide +kernel) ⟨Nat.le_of_ble_eq_true rfl, Nat.le_of_ble_eq_true rfl⟩) (xpV hPc hK (ci := 0) (q0 := 0) (q := (RX0, TX0, 11)) rfl rfl) rfl rfl hl.1 rfl (lv_room (Nat.le_of_ble_eq_true rfl)) dX6_rare_34 ⟨Nat.le_of_ble_eq_true rfl, Nat.le_of_ble_eq_true rfl⟩) ?_
          refine lv_istore (lv' := [(4, .int (iI (ovZ el ex x))), (0, .ref qW), (1, .int (iI (x))), (2, .int (iI (k))), (3, .int (iI (w)))]) hx hb dX6_rare_37 hl (by decide) rfl (fun ls hl => ?_)
          refine lv_iload_n hx hb dX6_rare_39 rfl (lv_at hl 3 rfl) ?_
          rcases (show k = 0 ∨ k = 1 ∨ k = 2 ∨ (k < 0 ∨ 2 < k) from by omega) with h_6 | h_6 | h_6 | h_6
          · refine xi_tab (k := 0) (tgt := 68) (off := 28) hx hb dX6_rare_40 h_6 (by decide) (by decide) (by decide) rfl (by decide) ?_
            refine lv_iload hx hb dX6_rare_68 (lv_at hl 0 rfl) ?_
            refine xi_i2l hx hb dX6_rare_70 (by omega) ?_
            refine lv_aload_n hx hb dX6_rare_71 rfl (lv_at hl 1 rfl) ?_
            refine va_get (D := D) (ci := 6) (C := RX6) (T := TX6) (N := 10) hx hb hts hcX6 hown hK hP 0 rfl rfl 3 (by decide) (hts (.fieldLink RX6 33 "WallMarks" "counted" "LWallMarks$Counted;") (List.mem_of_getElem? (i := 1) (by decide +kernel))) (fun _ h9 => h9) rfl dX6_rare_72 ?_
            refine lv_iload_n hx hb dX6_rare_75 rfl (lv_at hl 2 rfl) ?_
            have hf_7 := buZ_in bl be x (by omega)
            have hPc := hP.sub (ws' := [(qC, .inr (0, [.ref qCy, .ref qCl, .ref qCb, .int (iI (ex)), .int (iI (be)), .int (iI (op)), .int (iI (es)), .int (iI (ge)), .int (iI (rc)), .int (iI (lr)), .int (iI (lw))])), (qCb, .inl (cyI, 60, .inl (xA (bl))))]) [1, 3] rfl
            refine xc_i (va_runV (As := [.int (iI (x))]) (rest := [.long (lI (ovZ el ex x))]) ⟨hx, hb, hml, hown, hts⟩ (c_X0_rareBelow l D cyI cyJ cyO qC qCy qCl qCb ex be op es ge rc lr lw bl x (by first | exact h_ex | assumption | omega) (by first | exact h_be | assumption | omega) (by first | exact h_op | assumption | omega) (by first | exact h_bl | assumption | omega) (by first | exact h_x | assumption | omega)) (cwV 1 hts gX6_rare_X0_rareBelow rfl rfl rfl (by decide +kernel) ⟨Nat.le_of_ble_eq_true rfl, Nat.le_of_ble_eq_true rfl⟩) (xpV hPc hK (ci := 0) (q0 := 0) (q := (RX0, TX0, 11)) rfl rfl) rfl rfl hl.1 rfl (lv_room (Nat.le_of_ble_eq_true rfl)) dX6_rare_76 ⟨Nat.le_of_ble_eq_true rfl, Nat.le_of_ble_eq_true rfl⟩) ?_
            refine xi_i2l hx hb dX6_rare_79 (by omega) ?_
            refine lv_iload_n hx hb dX6_rare_80 rfl (lv_at hl 4 rfl) ?_
            have hPc := hP.sub (ws' := []) [] rfl
            refine xc_l (va_runS (As := [.long (lI (ovZ el ex x)), .long (lI (ex + buZ bl be x + 1)), .int (iI (w))]) (rest := []) ⟨hx, hb, hml, hown, hts⟩ (c_X6_fraction l D cyI cyJ cyO (ovZ el ex x) (ex + buZ bl be x + 1) w (by first | exact h_a | assumption | omega) (by first | exact h_b | assumption | omega) (by first | exact h_w | assumption | omega)) (va_cwS 3 hts gX6_rare_X6_fraction rfl rfl rfl (by decide +kernel) ⟨Nat.le_of_ble_eq_true rfl, Nat.le_of_ble_eq_true rfl⟩) (xpS hPc hK) rfl rfl hl.1 rfl (lv_room (Nat.le_of_ble_eq_true rfl)) dX6_rare_81 ⟨Nat.le_of_ble_eq_true rfl, Nat.le_of_ble_eq_true rfl⟩) ?_
            exact W.lret (v := lI (frac (ovZ el ex x) (ex + buZ bl be x + 1) w)) hx hb hr (fun t_ ht_ _ => ⟨congrArg (fun z => Outcome.returned (some (Value.long (lI z)))) (show (frac (ovZ el ex x) (ex + buZ bl be x + 1) w) = (if (0 ≤ x ∧ x ≤ 999) ∧ (0 ≤ k ∧ k ≤ 3) ∧ (w = 0 ∨ w = 1) then (if k = 0 then frac (ovZ el ex x) (rbZ bl ex be x) w else if k = 1 then frac (ovZ el ex x) (ex + be + op + 1) w else if k = 2 then frac (ovZ el ex x + dkZ bl be op x) (ex + be + op + 1) w else if ovZ el ex x = 0 then -9223372036854775805 else frac (rbZ bl ex be x) (ovZ el ex x) w) else -9223372036854775806) from by first | rfl | ((repeat (first | rw [if_pos (by omega)] | rw [if_neg (by omega)])); done) | ((repeat (first | rw [if_pos (by omega)] | rw [if_neg (by omega)])); rfl) | omega), ht_⟩) (fun _ h9 => absurd h9 List.not_mem_nil) dX6_rare_84
          · refine xi_tab (k := 1) (tgt := 85) (off := 45) hx hb dX6_rare_40 h_6 (by decide) (by decide) (by decide) rfl (by decide) ?_
            refine lv_iload hx hb dX6_rare_85 (lv_at hl 0 rfl) ?_
            refine xi_i2l hx hb dX6_rare_87 (by omega) ?_
            refine lv_aload_n hx hb dX6_rare_88 rfl (lv_at hl 1 rfl) ?_
            refine va_get (D := D) (ci := 6) (C := RX6) (T := TX6) (N := 10) hx hb hts hcX6 hown hK hP 0 rfl rfl 3 (by decide) (hts (.fieldLink RX6 33 "WallMarks" "counted" "LWallMarks$Counted;") (List.mem_of_getElem? (i := 1) (by decide +kernel))) (fun _ h9 => h9) rfl dX6_rare_89 ?_
            have hPc := hP.sub (ws' := [(qC, .inr (0, [.ref qCy, .ref qCl, .ref qCb, .int (iI (ex)), .int (iI (be)), .int (iI (op)), .int (iI (es)), .int (iI (ge)), .int (iI (rc)), .int (iI (lr)), .int (iI (lw))]))]) [1] rfl
            refine xc_i (va_runV (As := []) (rest := [.long (lI (ovZ el ex x))]) ⟨hx, hb, hml, hown, hts⟩ (c_X0_all l D cyI cyJ cyO qC qCy qCl qCb ex be op es ge rc lr lw (by first | exact h_ex | assumption | omega) (by first | exact h_be | assumption | omega) (by first | exact h_op | assumption | omega)) (cwV 0 hts gX6_rare_X0_all rfl rfl rfl (by decide +kernel) ⟨Nat.le_of_ble_eq_true rfl, Nat.le_of_ble_eq_true rfl⟩) (xpV hPc hK (ci := 0) (q0 := 0) (q := (RX0, TX0, 11)) rfl rfl) rfl rfl hl.1 rfl (lv_room (Nat.le_of_ble_eq_true rfl)) dX6_rare_92 ⟨Nat.le_of_ble_eq_true rfl, Nat.le_of_ble_eq_true rfl⟩) ?_
            refine xi_const hx hb dX6_rare_95 ?_
            refine xi_add hx hb dX6_rare_96 ?_
            refine xi_i2l hx hb dX6_rare_97 (by omega) ?_
            refine lv_iload_n hx hb dX6_rare_98 rfl (lv_at hl 4 rfl) ?_
            have hPc := hP.sub (ws' := []) [] rfl
            refine xc_l (va_runS (As := [.long (lI (ovZ el ex x)), .long (lI ((ex + be + op) + 1)), .int (iI (w))]) (rest := []) ⟨hx, hb, hml, hown, hts⟩ (c_X6_fraction l D cyI cyJ cyO (ovZ el ex x) ((ex + be + op) + 1) w (by first | exact h_a | assumption | omega) (by first | exact h_b | assumption | omega) (by first | exact h_w | assumption | omega)) (va_cwS 3 hts gX6_rare_X6_fraction rfl rfl rfl (by decide +kernel) ⟨Nat.le_of_ble_eq_true rfl, Nat.le_of_ble_eq_true rfl⟩) (xpS hPc hK) rfl rfl hl.1 rfl (lv_room (Nat.le_of_ble_eq_true rfl)) dX6_rare_99 ⟨Nat.le_of_ble_eq_true rfl, Nat.le_of_ble_eq_true rfl⟩) ?_
            exact W.lret (v := lI (frac (ovZ el ex x) ((ex + be + op) + 1) w)) hx hb hr (fun t_ ht_ _ => ⟨congrArg (fun z => Outcome.returned (some (Value.long (lI z)))) (show (frac (ovZ el ex x) ((ex + be + op) + 1) w) = (if (0 ≤ x ∧ x ≤ 999) ∧ (0 ≤ k ∧ k ≤ 3) ∧ (w = 0 ∨ w = 1) then (if k = 0 then frac (ovZ el ex x) (rbZ bl ex be x) w else if k = 1 then frac (ovZ el ex x) (ex + be + op + 1) w else if k = 2 then frac (ovZ el ex x + dkZ bl be op x) (ex + be + op + 1) w else if ovZ el ex x = 0 then -9223372036854775805 else frac (rbZ bl ex be x) (ovZ el ex x) w) else -9223372036854775806) from by first | rfl | ((repeat (first | rw [if_pos (by omega)] | rw [if_neg (by omega)])); done) | ((repeat (first | rw [if_pos (by omega)] | rw [if_neg (by omega)])); rfl) | omega), ht_⟩) (fun _ h9 => absurd h9 List.not_mem_nil) dX6_rare_102
          · refine xi_tab (k := 2) (tgt := 103) (off := 63) hx hb dX6_rare_40 h_6 (by decide) (by decide) (by decide) rfl (by decide) ?_
            refine lv_iload hx hb dX6_rare_103 (lv_at hl 0 rfl) ?_
            refine lv_aload_n hx hb dX6_rare_105 rfl (lv_at hl 1 rfl) ?_
            refine va_get (D := D) (ci := 6) (C := RX6) (T := TX6) (N := 10) hx hb hts hcX6 hown hK hP 0 rfl rfl 3 (by decide) (hts (.fieldLink RX6 33 "WallMarks" "counted" "LWallMarks$Counted;") (List.mem_of_getElem? (i := 1) (by decide +kernel))) (fun _ h9 => h9) rfl dX6_rare_106 ?_
            refine lv_iload_n hx hb dX6_rare_109 rfl (lv_at hl 2 rfl) ?_
            have hf_8 := buZ_in bl be x (by omega)
            have hPc := hP.sub (ws' := [(qC, .inr (0, [.ref qCy, .ref qCl, .ref qCb, .int (iI (ex)), .int (iI (be)), .int (iI (op)), .int (iI (es)), .int (iI (ge)), .int (iI (rc)), .int (iI (lr)), .int (iI (lw))])), (qCb, .inl (cyI, 60, .inl (xA (bl))))]) [1, 3] rfl
            refine xc_i (va_runV (As := [.int (iI (x))]) (rest := [.int (iI (ovZ el ex x))]) ⟨hx, hb, hml, hown, hts⟩ (c_X0_darks l D cyI cyJ cyO qC qCy qCl qCb ex be op es ge rc lr lw bl x (by first | exact h_ex | assumption | omega) (by first | exact h_be | assumption | omega) (by first | exact h_op | assumption | omega) (by first | exact h_bl | assumption | omega) (by first | exact h_x | assumption | omega)) (cwV 1 hts gX6_rare_X0_darks rfl rfl rfl (by decide +kernel) ⟨Nat.le_of_ble_eq_true rfl, Nat.le_of_ble_eq_true rfl⟩) (xpV hPc hK (ci := 0) (q0 := 0) (q := (RX0, TX0, 11)) rfl rfl) rfl rfl hl.1 rfl (lv_room (Nat.le_of_ble_eq_true rfl)) dX6_rare_110 ⟨Nat.le_of_ble_eq_true rfl, Nat.le_of_ble_eq_true rfl⟩) ?_
            refine xi_add hx hb dX6_rare_113 ?_
            refine xi_i2l hx hb dX6_rare_114 (by omega) ?_
            refine lv_aload_n hx hb dX6_rare_115 rfl (lv_at hl 1 rfl) ?_
            refine va_get (D := D) (ci := 6) (C := RX6) (T := TX6) (N := 10) hx hb hts hcX6 hown hK hP 0 rfl rfl 3 (by decide) (hts (.fieldLink RX6 33 "WallMarks" "counted" "LWallMarks$Counted;") (List.mem_of_getElem? (i := 1) (by decide +kernel))) (fun _ h9 => h9) rfl dX6_rare_116 ?_
            have hPc := hP.sub (ws' := [(qC, .inr (0, [.ref qCy, .ref qCl, .ref qCb, .int (iI (ex)), .int (iI (be)), .int (iI (op)), .int (iI (es)), .int (iI (ge)), .int (iI (rc)), .int (iI (lr)), .int (iI (lw))]))]) [1] rfl
            refine xc_i (va_runV (As := []) (rest := [.long (lI ((ovZ el ex x) + (op + be - buZ bl be x)))]) ⟨hx, hb, hml, hown, hts⟩ (c_X0_all l D cyI cyJ cyO qC qCy qCl qCb ex be op es ge rc lr lw (by first | exact h_ex | assumption | omega) (by first | exact h_be | assumption | omega) (by first | exact h_op | assumption | omega)) (cwV 0 hts gX6_rare_X0_all rfl rfl rfl (by decide +kernel) ⟨Nat.le_of_ble_eq_true rfl, Nat.le_of_ble_eq_true rfl⟩) (xpV hPc hK (ci := 0) (q0 := 0) (q := (RX0, TX0, 11)) rfl rfl) rfl rfl hl.1 rfl (lv_room (Nat.le_of_ble_eq_true rfl)) dX6_rare_119 ⟨Nat.le_of_ble_eq_true rfl, Nat.le_of_ble_eq_true rfl⟩) ?_
            refine xi_const hx hb dX6_rare_122 ?_
            refine xi_add hx hb dX6_rare_123 ?_
            refine xi_i2l hx hb dX6_rare_124 (by omega) ?_
            refine lv_iload_n hx hb dX6_rare_125 rfl (lv_at hl 4 rfl) ?_
            have hPc := hP.sub (ws' := []) [] rfl
            refine xc_l (va_runS (As := [.long (lI ((ovZ el ex x) + (op + be - buZ bl be x))), .long (lI ((ex + be + op) + 1)), .int (iI (w))]) (rest := []) ⟨hx, hb, hml, hown, hts⟩ (c_X6_fraction l D cyI cyJ cyO ((ovZ el ex x) + (op + be - buZ bl be x)) ((ex + be + op) + 1) w (by first | exact h_a | assumption | omega) (by first | exact h_b | assumption | omega) (by first | exact h_w | assumption | omega)) (va_cwS 3 hts gX6_rare_X6_fraction rfl rfl rfl (by decide +kernel) ⟨Nat.le_of_ble_eq_true rfl, Nat.le_of_ble_eq_true rfl⟩) (xpS hPc hK) rfl rfl hl.1 rfl (lv_room (Nat.le_of_ble_eq_true rfl)) dX6_rare_126 ⟨Nat.le_of_ble_eq_true rfl, Nat.le_of_ble_eq_true rfl⟩) ?_
            exact W.lret (v := lI (frac ((ovZ el ex x) + (op + be - buZ bl be x)) ((ex + be + op) + 1) w)) hx hb hr (fun t_ ht_ _ => ⟨congrArg (fun z => Outcome.returned (some (Value.long (lI z)))) (show (frac ((ovZ el ex x) + (op + be - buZ bl be x)) ((ex + be + op) + 1) w) = (if (0 ≤ x ∧ x ≤ 999) ∧ (0 ≤ k ∧ k ≤ 3) ∧ (w = 0 ∨ w = 1) then (if k = 0 then frac (ovZ el ex x) (rbZ bl ex be x) w else if k = 1 then frac (ovZ el ex x) (ex + be + op + 1) w else if k = 2 then frac (ovZ el ex x + dkZ bl be op x) (ex + be + op + 1) w else if ovZ el ex x = 0 then -9223372036854775805 else frac (rbZ bl ex be x) (ovZ el ex x) w) else -9223372036854775806) from by first | rfl | ((repeat (first | rw [if_pos (by omega)] | rw [if_neg (by omega)])); done) | ((repeat (first | rw [if_pos (by omega)] | rw [if_neg (by omega)])); rfl) | omega), ht_⟩) (fun _ h9 => absurd h9 List.not_mem_nil) dX6_rare_129
          · refine xi_tabO (tgt := 130) hx hb dX6_rare_40 (by omega) h_6 (by decide) ?_
            refine lv_iload hx hb dX6_rare_130 (lv_at hl 0 rfl) ?_
            refine xb_if_ne (tgt := 143) hx hb dX6_rare_132 (by decide) (by omega) (fun h_9 => ?_) (fun h_9 => ?_)
            · refine lv_aload_n hx hb dX6_rare_143 rfl (lv_at hl 1 rfl) ?_
              refine va_get (D := D) (ci := 6) (C := RX6) (T := TX6) (N := 10) hx hb hts hcX6 hown hK hP 0 rfl rfl 3 (by decide) (hts (.fieldLink RX6 33 "WallMarks" "counted" "LWallMarks$Counted;") (List.mem_of_getElem? (i := 1) (by decide +kernel))) (fun _ h9 => h9) rfl dX6_rare_144 ?_
              refine lv_iload_n hx hb dX6_rare_147 rfl (lv_at hl 2 rfl) ?_
              have hf_10 := buZ_in bl be x (by omega)
              have hPc := hP.sub (ws' := [(qC, .inr (0, [.ref qCy, .ref qCl, .ref qCb, .int (iI (ex)), .int (iI (be)), .int (iI (op)), .int (iI (es)), .int (iI (ge)), .int (iI (rc)), .int (iI (lr)), .int (iI (lw))])), (qCb, .inl (cyI, 60, .inl (xA (bl))))]) [1, 3] rfl
              refine xc_i (va_runV (As := [.int (iI (x))]) (rest := []) ⟨hx, hb, hml, hown, hts⟩ (c_X0_rareBelow l D cyI cyJ cyO qC qCy qCl qCb ex be op es ge rc lr lw bl x (by first | exact h_ex | assumption | omega) (by first | exact h_be | assumption | omega) (by first | exact h_op | assumption | omega) (by first | exact h_bl | assumption | omega) (by first | exact h_x | assumption | omega)) (cwV 1 hts gX6_rare_X0_rareBelow rfl rfl rfl (by decide +kernel) ⟨Nat.le_of_ble_eq_true rfl, Nat.le_of_ble_eq_true rfl⟩) (xpV hPc hK (ci := 0) (q0 := 0) (q := (RX0, TX0, 11)) rfl rfl) rfl rfl hl.1 rfl (lv_room (Nat.le_of_ble_eq_true rfl)) dX6_rare_148 ⟨Nat.le_of_ble_eq_true rfl, Nat.le_of_ble_eq_true rfl⟩) ?_
              refine xi_i2l hx hb dX6_rare_151 (by omega) ?_
              refine lv_iload hx hb dX6_rare_152 (lv_at hl 0 rfl) ?_
              refine xi_i2l hx hb dX6_rare_154 (by omega) ?_
              refine lv_iload_n hx hb dX6_rare_155 rfl (lv_at hl 4 rfl) ?_
              have hPc := hP.sub (ws' := []) [] rfl
              refine xc_l (va_runS (As := [.long (lI (ex + buZ bl be x + 1)), .long (lI (ovZ el ex x)), .int (iI (w))]) (rest := []) ⟨hx, hb, hml, hown, hts⟩ (c_X6_fraction l D cyI cyJ cyO (ex + buZ bl be x + 1) (ovZ el ex x) w (by first | exact h_a | assumption | omega) (by first | exact h_b | assumption | omega) (by first | exact h_w | assumption | omega)) (va_cwS 3 hts gX6_rare_X6_fraction rfl rfl rfl (by decide +kernel) ⟨Nat.le_of_ble_eq_true rfl, Nat.le_of_ble_eq_true rfl⟩) (xpS hPc hK) rfl rfl hl.1 rfl (lv_room (Nat.le_of_ble_eq_true rfl)) dX6_rare_156 ⟨Nat.le_of_ble_eq_true rfl, Nat.le_of_ble_eq_true rfl⟩) ?_
              exact W.lret (v := lI (frac (ex + buZ bl be x + 1) (ovZ el ex x) w)) hx hb hr (fun t_ ht_ _ => ⟨congrArg (fun z => Outcome.returned (some (Value.long (lI z)))) (show (frac (ex + buZ bl be x + 1) (ovZ el ex x) w) = (if (0 ≤ x ∧ x ≤ 999) ∧ (0 ≤ k ∧ k ≤ 3) ∧ (w = 0 ∨ w = 1) then (if k = 0 then frac (ovZ el ex x) (rbZ bl ex be x) w else if k = 1 then frac (ovZ el ex x) (ex + be + op + 1) w else if k = 2 then frac (ovZ el ex x + dkZ bl be op x) (ex + be + op + 1) w else if ovZ el ex x = 0 then -9223372036854775805 else frac (rbZ bl ex be x) (ovZ el ex x) w) else -9223372036854775806) from by first | rfl | ((repeat (first | rw [if_pos (by omega)] | rw [if_neg (by omega)])); done) | ((repeat (first | rw [if_pos (by omega)] | rw [if_neg (by omega)])); rfl) | omega), ht_⟩) (fun _ h9 => absurd h9 List.not_mem_nil) dX6_rare_159
            · refine xi_bipush hx hb dX6_rare_135 (by decide +kernel) ?_
              have hPc := hP.sub (ws' := []) [] rfl
              refine xc_l (va_runS (As := [.int (iI (-3))]) (rest := []) ⟨hx, hb, hml, hown, hts⟩ (c_X6_longRefusal l D cyI cyJ cyO (-3) (by first | exact h_x | assumption | omega)) (va_cwS 1 hts gX6_rare_X6_longRefusal rfl rfl rfl (by decide +kernel) ⟨Nat.le_of_ble_eq_true rfl, Nat.le_of_ble_eq_true rfl⟩) (xpS hPc hK) rfl rfl hl.1 rfl (lv_room (Nat.le_of_ble_eq_true rfl)) dX6_rare_137 ⟨Nat.le_of_ble_eq_true rfl, Nat.le_of_ble_eq_true rfl⟩) ?_
              refine lv_goto (tgt := 159) hx hb dX6_rare_140 (by decide) ?_
              exact W.lret (v := lI (-9223372036854775808 - (-3))) hx hb hr (fun t_ ht_ _ => ⟨congrArg (fun z => Outcome.returned (some (Value.long (lI z)))) (show (-9223372036854775808 - (-3)) = (if (0 ≤ x ∧ x ≤ 999) ∧ (0 ≤ k ∧ k ≤ 3) ∧ (w = 0 ∨ w = 1) then (if k = 0 then frac (ovZ el ex x) (rbZ bl ex be x) w else if k = 1 then frac (ovZ el ex x) (ex + be + op + 1) w else if k = 2 then frac (ovZ el ex x + dkZ bl be op x) (ex + be + op + 1) w else if ovZ el ex x = 0 then -9223372036854775805 else frac (rbZ bl ex be x) (ovZ el ex x) w) else -9223372036854775806) from by first | rfl | ((repeat (first | rw [if_pos (by omega)] | rw [if_neg (by omega)])); done) | ((repeat (first | rw [if_pos (by omega)] | rw [if_neg (by omega)])); rfl) | omega), ht_⟩) (fun _ h9 => absurd h9 List.not_mem_nil) dX6_rare_159
        · refine xi_bipush hx hb dX6_rare_23 (by decide +kernel) ?_
          have hPc := hP.sub (ws' := []) [] rfl
          refine xc_l (va_runS (As := [.int (iI (-2))]) (rest := []) ⟨hx, hb, hml, hown, hts⟩ (c_X6_longRefusal l D cyI cyJ cyO (-2) (by first | exact h_x | assumption | omega)) (va_cwS 1 hts gX6_rare_X6_longRefusal rfl rfl rfl (by decide +kernel) ⟨Nat.le_of_ble_eq_true rfl, Nat.le_of_ble_eq_true rfl⟩) (xpS hPc hK) rfl rfl hl.1 rfl (lv_room (Nat.le_of_ble_eq_true rfl)) dX6_rare_25 ⟨Nat.le_of_ble_eq_true rfl, Nat.le_of_ble_eq_true rfl⟩) ?_
          exact W.lret (v := lI (-9223372036854775808 - (-2))) hx hb hr (fun t_ ht_ _ => ⟨congrArg (fun z => Outcome.returned (some (Value.long (lI z)))) (show (-9223372036854775808 - (-2)) = (if (0 ≤ x ∧ x ≤ 999) ∧ (0 ≤ k ∧ k ≤ 3) ∧ (w = 0 ∨ w = 1) then (if k = 0 then frac (ovZ el ex x) (rbZ bl ex be x) w else if k = 1 then frac (ovZ el ex x) (ex + be + op + 1) w else if k = 2 then frac (ovZ el ex x + dkZ bl be op x) (ex + be + op + 1) w else if ovZ el ex x = 0 then -9223372036854775805 else frac (rbZ bl ex be x) (ovZ el ex x) w) else -9223372036854775806) from by first | rfl | ((repeat (first | rw [if_pos (by omega)] | rw [if_neg (by omega)])); done) | ((repeat (first | rw [if_pos (by omega)] | rw [if_neg (by omega)])); rfl) | omega), ht_⟩) (fun _ h9 => absurd h9 List.not_mem_nil) dX6_rare_28
set_option maxHeartbeats 1000000 in
set_option maxRecDepth 100000 in
theorem c_X6_soRare (l : Launch) (D : va_G) (cyI cyJ cyO : ClassId) (qW : Nat) (qT : Nat) (qA : Nat) (qK : Nat) (qC : Nat) (qE : Nat) (qI : Nat) (qF : Nat) (qH : Nat) (qO : Nat) (fi : Int) (qCy : Nat) (qCl : Nat) (qCb : Nat) (ex : Int) (be : Int) (op : Int) (es : Int) (ge : Int) (rc : Int) (lr : Int) (lw : Int) (el : Int → Int) (bl : Int → Int) (y : Int) (h_ex : 0 ≤ ex ∧ ex ≤ 60) (h_be : 0 ≤ be ∧ be ≤ 60) (h_op : 0 ≤ op ∧ op ≤ 60) (h_el : ∀ j, 0 ≤ el j ∧ el j ≤ 999) (h_bl : ∀ j, 0 ≤ bl j ∧ bl j ≤ 999) (h_y : -2147483648 ≤ y ∧ y ≤ 2147483647) : Met l yX6_soRare wsX6_soRare ({ frames := 2, cells := 0, slots := 0, locals := 44 }) (va_Pc [.ref qW, .int (iI (y))] (xR D vwCl [(qW, .inr (6, [.ref qT, .ref qA, .ref qK, .ref qC, .ref qE, .ref qI, .ref qF, .ref qH, .ref qO, .int (iI (fi))])), (qC, .inr (0, [.ref qCy, .ref qCl, .ref qCb, .int (iI (ex)), .int (iI (be)), .int (iI (op)), .int (iI (es)), .int (iI (ge)), .int (iI (rc)), .int (iI (lr)), .int (iI (lw))])), (qCl, .inl (cyI, 60, .inl (xA (el)))), (qCb, .inl (cyI, 60, .inl (xA (bl))))] (xT cyI cyJ cyO))) (xq (some (.int (iI (if 0 ≤ y ∧ y ≤ 100 then foldZ (soS el bl ex be y) ex (-1) else -2))))) 0 0 (fun _ => False) := by
  refine Met.ofW (cc := cX6_soRare) (maxL := 5) (ret := (some .int)) (by decide) rfl ?_
  intro p e s m args below meth c s₁ B hml hv
  obtain ⟨rfl, hP, hK⟩ := hv
  have hx := B.exec
  have hb := B.bytes
  have hr := B.returns
  have hts := atoms_spec (ws := wsX6_soRare) B.pre
  have hown : s.vm.findClass RX6 = some m.cls := findClass_of_methodNamed B.named
  have hlocks := B.notSynchronized
  have hcX0 : ∀ w ∈ wsX00, w ∈ wsX6_soRare := fun _ h => List.mem_cons_of_mem _ (List.mem_append_right _ h)
  have hcX6 : ∀ w ∈ wsX60, w ∈ wsX6_soRare := fun _ h => List.mem_cons_of_mem _ (List.mem_append_left _ (List.mem_append_right _ h))
  have hP : va_P D vwCl [(qW, .inr (6, [.ref qT, .ref qA, .ref qK, .ref qC, .ref qE, .ref qI, .ref qF, .ref qH, .ref qO, .int (iI (fi))])), (qC, .inr (0, [.ref qCy, .ref qCl, .ref qCb, .int (iI (ex)), .int (iI (be)), .int (iI (op)), .int (iI (es)), .int (iI (ge)), .int (iI (rc)), .int (iI (lr)), .int (iI (lw))])), (qCl, .inl (cyI, 60, .inl (xA (el)))), (qCb, .inl (cyI, 60, .inl (xA (bl))))] s.heap := hP
  have hl := lv_entry ([.ref qW, .int (iI (y))]) (n := 5) (Nat.le_of_ble_eq_true rfl)
  rw [lg_entry_eq]
  generalize (lg_sl ([.ref qW, .int (iI (y))]) ++ List.replicate (5 - (lg_sl ([.ref qW, .int (iI (y))])).length) Slot.unset).toArray = ls at hl ⊢
  have hl : lv_has ls 5 [(0, .ref qW), (1, .int (iI (y)))] := hl
  have cut_14 : ∀ (N_ : Nat) (i : Int) (g : Int) (hi : 0 ≤ i ∧ i ≤ ex) (hy : 0 ≤ y ∧ y ≤ 100) (hg : g = foldZ (soS el bl ex be y) i (-1)) (hg2 : -1 ≤ g ∧ g ≤ 999) (hN_ : (ex - i).toNat < N_) (ls : Array Slot) (hl : lv_has ls 5 [(0, .ref qW), (1, .int (iI (y))), (2, .int (iI (g))), (3, .int (iI (i)))]), W p l e (headSpec wsX6_soRare ({ frames := 2, cells := 0, slots := 0, locals := 44 })).room s m ([.ref qW, .int (iI (y))] : List Value).toArray below meth c s.heap [] 0 0 (MQ below (xq (some (.int (iI (if 0 ≤ y ∧ y ≤ 100 then foldZ (soS el bl ex be y) ex (-1) else -2))))) ([.ref qW, .int (iI (y))] : List Value).toArray s 0 0 (fun _ => False)) (F0 m 14 ls []) := by
    intro N_
    induction N_ with
    | zero => intro i g hi hy hg hg2 hN_ ls hl; exact absurd hN_ (Nat.not_lt_zero _)
    | succ N_ ih_14 =>
      intro i g hi hy hg hg2 hN_ ls hl
      refine lv_iload_n hx hb dX6_soRare_14 rfl (lv_at hl 3 rfl) ?_
      refine lv_aload_n hx hb dX6_soRare_15 rfl (lv_at hl 0 rfl) ?_
      refine va_get (D := D) (ci := 6) (C := RX6) (T := TX6) (N := 10) hx hb hts hcX6 hown hK hP 0 rfl rfl 3 (by decide) (hts (.fieldLink RX6 33 "WallMarks" "counted" "LWallMarks$Counted;") (List.mem_of_getElem? (i := 1) (by decide +kernel))) (fun _ h9 => h9) rfl dX6_soRare_16 ?_
      refine va_get (D := D) (ci := 0) (C := RX0) (T := TX0) (N := 11) hx hb hts hcX0 hown hK hP 1 rfl rfl 3 (by decide) (hts (.fieldLink RX6 170 "WallMarks$Counted" "exacts" "I") (List.mem_of_getElem? (i := 2) (by decide +kernel))) (fun _ h9 => h9) rfl dX6_soRare_19 ?_
      refine xb_icmp_ge (tgt := 77) hx hb dX6_soRare_22 (by decide) (by omega) (fun h_1 => ?_) (fun h_1 => ?_)
      · refine lv_iload_n hx hb dX6_soRare_77 rfl (lv_at hl 2 rfl) ?_
        exact W.iret (v := iI (g)) hx hb hr (fun t_ ht_ _ => ⟨congrArg (fun z => Outcome.returned (some (Value.int (iI z)))) (show (g) = (if 0 ≤ y ∧ y ≤ 100 then foldZ (soS el bl ex be y) ex (-1) else -2) from by first | rw [if_neg (by omega)] | (rw [if_pos (by omega), hg, show i = ex from by omega])), ht_⟩) (fun _ h9 => absurd h9 List.not_mem_nil) dX6_soRare_78
      · refine lv_aload_n hx hb dX6_soRare_25 rfl (lv_at hl 0 rfl) ?_
        refine va_get (D := D) (ci := 6) (C := RX6) (T := TX6) (N := 10) hx hb hts hcX6 hown hK hP 0 rfl rfl 3 (by decide) (hts (.fieldLink RX6 33 "WallMarks" "counted" "LWallMarks$Counted;") (List.mem_of_getElem? (i := 1) (by decide +kernel))) (fun _ h9 => h9) rfl dX6_soRare_26 ?_
        refine va_get (D := D) (ci := 0) (C := RX0) (T := TX0) (N := 11) hx hb hts hcX0 hown hK hP 1 rfl rfl 1 (by decide) (hts (.fieldLink RX6 173 "WallMarks$Counted" "exactLevels" "[I") (List.mem_of_getElem? (i := 3) (by decide +kernel))) (fun _ h9 => h9) rfl dX6_soRare_29 ?_
        refine lv_iload_n hx hb dX6_soRare_32 rfl (lv_at hl 3 rfl) ?_
        refine xi_ald (D := D) hx hb hK hP 2 0 rfl rfl (by decide) (by omega) dX6_soRare_33 ?_
        have hr_2 := h_el (i)
        refine lv_istore (lv' := [(4, .int (iI (el (i)))), (0, .ref qW), (1, .int (iI (y))), (2, .int (iI (g))), (3, .int (iI (i)))]) hx hb dX6_soRare_34 hl (by decide) rfl (fun ls hl => ?_)
        refine lv_iload hx hb dX6_soRare_36 (lv_at hl 0 rfl) ?_
        refine lv_iload_n hx hb dX6_soRare_38 rfl (lv_at hl 3 rfl) ?_
        refine xb_icmp_le (tgt := 71) hx hb dX6_soRare_39 (by decide) (by omega) (fun h_3 => ?_) (fun h_3 => ?_)
        · refine xi_inc (k := 4) (lv' := [(3, .int (iI (i + 1))), (4, .int (iI (el (i)))), (0, .ref qW), (1, .int (iI (y))), (2, .int (iI (g)))]) hx hb dX6_soRare_71 hl rfl (by decide) rfl (fun ls hl => ?_)
          refine lv_goto (tgt := 14) hx hb dX6_soRare_74 (by decide) ?_
          exact ih_14 (i + 1) (g) (by first | assumption | omega | (constructor <;> omega)) (by first | assumption | omega | (constructor <;> omega)) (by first | rfl | (rw [foldZ_s _ (by omega), ← hg]; symm; refine soS_t (by omega) ?_; unfold rbZ; omega) | (rw [foldZ_s _ (by omega), ← hg]; symm; refine soS_f ?_; unfold rbZ; omega)) (by first | assumption | omega | (constructor <;> omega)) (by omega) ls (lv_sub hl [2, 3, 4, 0] rfl)
        · refine xi_bipush hx hb dX6_soRare_42 (by decide +kernel) ?_
          refine lv_aload_n hx hb dX6_soRare_44 rfl (lv_at hl 1 rfl) ?_
          refine va_get (D := D) (ci := 6) (C := RX6) (T := TX6) (N := 10) hx hb hts hcX6 hown hK hP 0 rfl rfl 3 (by decide) (hts (.fieldLink RX6 33 "WallMarks" "counted" "LWallMarks$Counted;") (List.mem_of_getElem? (i := 1) (by decide +kernel))) (fun _ h9 => h9) rfl dX6_soRare_45 ?_
          refine lv_iload hx hb dX6_soRare_48 (lv_at hl 0 rfl) ?_
          have hf_4 := ovZ_in el ex (el (i)) (by omega)
          have hPc := hP.sub (ws' := [(qC, .inr (0, [.ref qCy, .ref qCl, .ref qCb, .int (iI (ex)), .int (iI (be)), .int (iI (op)), .int (iI (es)), .int (iI (ge)), .int (iI (rc)), .int (iI (lr)), .int (iI (lw))])), (qCl, .inl (cyI, 60, .inl (xA (el))))]) [1, 2] rfl
          refine xc_i (va_runV (As := [.int (iI (el (i)))]) (rest := [.int (iI (100))]) ⟨hx, hb, hml, hown, hts⟩ (c_X0_overs l D cyI cyJ cyO qC qCy qCl qCb ex be op es ge rc lr lw el (el (i)) (by first | exact h_ex | assumption | omega) (by first | exact h_be | assumption | omega) (by first | exact h_op | assumption | omega) (by first | exact h_el | assumption | omega) (by first | exact h_x | assumption | omega)) (cwV 1 hts gX6_soRare_X0_overs rfl rfl rfl (by decide +kernel) ⟨Nat.le_of_ble_eq_true rfl, Nat.le_of_ble_eq_true rfl⟩) (xpV hPc hK (ci := 0) (q0 := 0) (q := (RX0, TX0, 11)) rfl rfl) rfl rfl hl.1 rfl (lv_room (Nat.le_of_ble_eq_true rfl)) dX6_soRare_50 ⟨Nat.le_of_ble_eq_true rfl, Nat.le_of_ble_eq_true rfl⟩) ?_
          refine xi_mul hx hb dX6_soRare_53 ?_
          refine lv_iload_n hx hb dX6_soRare_54 rfl (lv_at hl 2 rfl) ?_
          refine lv_aload_n hx hb dX6_soRare_55 rfl (lv_at hl 1 rfl) ?_
          refine va_get (D := D) (ci := 6) (C := RX6) (T := TX6) (N := 10) hx hb hts hcX6 hown hK hP 0 rfl rfl 3 (by decide) (hts (.fieldLink RX6 33 "WallMarks" "counted" "LWallMarks$Counted;") (List.mem_of_getElem? (i := 1) (by decide +kernel))) (fun _ h9 => h9) rfl dX6_soRare_56 ?_
          refine lv_iload hx hb dX6_soRare_59 (lv_at hl 0 rfl) ?_
          have hf_5 := buZ_in bl be (el (i)) (by omega)
          have hPc := hP.sub (ws' := [(qC, .inr (0, [.ref qCy, .ref qCl, .ref qCb, .int (iI (ex)), .int (iI (be)), .int (iI (op)), .int (iI (es)), .int (iI (ge)), .int (iI (rc)), .int (iI (lr)), .int (iI (lw))])), (qCb, .inl (cyI, 60, .inl (xA (bl))))]) [1, 3] rfl
          refine xc_i (va_runV (As := [.int (iI (el (i)))]) (rest := [.int (iI (y)), .int (iI (100 * (ovZ el ex (el (i)))))]) ⟨hx, hb, hml, hown, hts⟩ (c_X0_rareBelow l D cyI cyJ cyO qC qCy qCl qCb ex be op es ge rc lr lw bl (el (i)) (by first | exact h_ex | assumption | omega) (by first | exact h_be | assumption | omega) (by first | exact h_op | assumption | omega) (by first | exact h_bl | assumption | omega) (by first | exact h_x | assumption | omega)) (cwV 1 hts gX6_soRare_X0_rareBelow rfl rfl rfl (by decide +kernel) ⟨Nat.le_of_ble_eq_true rfl, Nat.le_of_ble_eq_true rfl⟩) (xpV hPc hK (ci := 0) (q0 := 0) (q := (RX0, TX0, 11)) rfl rfl) rfl rfl hl.1 rfl (lv_room (Nat.le_of_ble_eq_true rfl)) dX6_soRare_61 ⟨Nat.le_of_ble_eq_true rfl, Nat.le_of_ble_eq_true rfl⟩) ?_
          refine xi_mul hx hb dX6_soRare_64 ?_
          have hm5 := mul_in (a := y) (b := ex + buZ bl be (el i) + 1) (A := 100) (B := 121) (by omega) (by omega)
          refine xb_icmp_lt (tgt := 71) hx hb dX6_soRare_65 (by decide) (by omega) (fun h_6 => ?_) (fun h_6 => ?_)
          · refine xi_inc (k := 4) (lv' := [(3, .int (iI (i + 1))), (4, .int (iI (el (i)))), (0, .ref qW), (1, .int (iI (y))), (2, .int (iI (g)))]) hx hb dX6_soRare_71 hl rfl (by decide) rfl (fun ls hl => ?_)
            refine lv_goto (tgt := 14) hx hb dX6_soRare_74 (by decide) ?_
            exact ih_14 (i + 1) (g) (by first | assumption | omega | (constructor <;> omega)) (by first | assumption | omega | (constructor <;> omega)) (by first | rfl | (rw [foldZ_s _ (by omega), ← hg]; symm; refine soS_t (by omega) ?_; unfold rbZ; omega) | (rw [foldZ_s _ (by omega), ← hg]; symm; refine soS_f ?_; unfold rbZ; omega)) (by first | assumption | omega | (constructor <;> omega)) (by omega) ls (lv_sub hl [2, 3, 4, 0] rfl)
          · refine lv_iload hx hb dX6_soRare_68 (lv_at hl 0 rfl) ?_
            refine lv_istore_n (lv' := [(2, .int (iI (el (i)))), (4, .int (iI (el (i)))), (0, .ref qW), (1, .int (iI (y))), (3, .int (iI (i)))]) hx hb dX6_soRare_70 rfl hl (by decide) rfl (fun ls hl => ?_)
            refine xi_inc (k := 4) (lv' := [(3, .int (iI (i + 1))), (2, .int (iI (el (i)))), (4, .int (iI (el (i)))), (0, .ref qW), (1, .int (iI (y)))]) hx hb dX6_soRare_71 hl rfl (by decide) rfl (fun ls hl => ?_)
            refine lv_goto (tgt := 14) hx hb dX6_soRare_74 (by decide) ?_
            exact ih_14 (i + 1) (el (i)) (by first | assumption | omega | (constructor <;> omega)) (by first | assumption | omega | (constructor <;> omega)) (by first | rfl | (rw [foldZ_s _ (by omega), ← hg]; symm; refine soS_t (by omega) ?_; unfold rbZ; omega) | (rw [foldZ_s _ (by omega), ← hg]; symm; refine soS_f ?_; unfold rbZ; omega)) (by first | assumption | omega | (constructor <;> omega)) (by omega) ls (lv_sub hl [3, 4, 1, 0] rfl)
  refine lv_iload_n hx hb dX6_soRare_0 rfl (lv_at hl 1 rfl) ?_
  have hPc := hP.sub (ws' := []) [] rfl
  refine xc_i (va_runS (As := [.int (iI (y))]) (rest := []) ⟨hx, hb, hml, hown, hts⟩ (c_X6_isHundredths l D cyI cyJ cyO y (by first | exact h_y | assumption | omega)) (va_cwS 1 hts gX6_soRare_X6_isHundredths rfl rfl rfl (by decide +kernel) ⟨Nat.le_of_ble_eq_true rfl, Nat.le_of_ble_eq_true rfl⟩) (xpS hPc hK) rfl rfl hl.1 rfl (lv_room (Nat.le_of_ble_eq_true rfl)) dX6_soRare_1 ⟨Nat.le_of_ble_eq_true rfl, Nat.le_of_ble_eq_true rfl⟩) ?_
  refine xb_if_neB (tgt := 10) hx hb dX6_soRare_4 (by decide) (fun h_7 => ?_) (fun h_7 => ?_)
  · refine xi_const hx hb dX6_soRare_10 ?_
    refine lv_istore_n (lv' := [(2, .int (iI (-1))), (0, .ref qW), (1, .int (iI (y)))]) hx hb dX6_soRare_11 rfl hl (by decide) rfl (fun ls hl => ?_)
    refine xi_const hx hb dX6_soRare_12 ?_
    refine lv_istore_n (lv' := [(3, .int (iI (0))), (2, .int (iI (-1))), (0, .ref qW), (1, .int (iI (y)))]) hx hb dX6_soRare_13 rfl hl (by decide) rfl (fun ls hl => ?_)
    exact cut_14 ((ex - 0 : Int).toNat + 1) (0) (-1) (by first | assumption | omega | (constructor <;> omega)) (by first | assumption | omega | (constructor <;> omega)) (by first | rfl | (rw [foldZ_s _ (by omega), ← hg]; symm; refine soS_t (by omega) ?_; unfold rbZ; omega) | (rw [foldZ_s _ (by omega), ← hg]; symm; refine soS_f ?_; unfold rbZ; omega)) (by first | assumption | omega | (constructor <;> omega)) (by exact Nat.lt_succ_self _) ls (lv_sub hl [2, 3, 1, 0] rfl)
  · refine xi_bipush hx hb dX6_soRare_7 (by decide +kernel) ?_
    exact W.iret (v := iI (-2)) hx hb hr (fun t_ ht_ _ => ⟨congrArg (fun z => Outcome.returned (some (Value.int (iI z)))) (show (-2) = (if 0 ≤ y ∧ y ≤ 100 then foldZ (soS el bl ex be y) ex (-1) else -2) from by first | rw [if_neg (by omega)] | (rw [if_pos (by omega), hg, show i = ex from by omega])), ht_⟩) (fun _ h9 => absurd h9 List.not_mem_nil) dX6_soRare_9
set_option maxHeartbeats 1000000 in
set_option maxRecDepth 100000 in
theorem c_X6_counts (l : Launch) (D : va_G) (cyI cyJ cyO : ClassId) (qW : Nat) (qT : Nat) (qA : Nat) (qK : Nat) (qC : Nat) (qE : Nat) (qI : Nat) (qF : Nat) (qH : Nat) (qO : Nat) (fi : Int) (se : Int → Int) (y : Int) (h_se : ∀ j, -2147483648 ≤ se j ∧ se j ≤ 2147483647) (h_y : -2147483648 ≤ y ∧ y ≤ 2147483647) : Met l yX6_counts wsX6_counts ({ frames := 0, cells := 0, slots := 0, locals := 0 }) (va_Pc [.ref qW, .int (iI (y))] (xR D vwCl [(qW, .inr (6, [.ref qT, .ref qA, .ref qK, .ref qC, .ref qE, .ref qI, .ref qF, .ref qH, .ref qO, .int (iI (fi))])), (qE, .inl (cyI, 6, .inl (xA (se))))] (xT cyI cyJ cyO))) (xq (some (.int (iI (b2 (se 1 ≤ y ∧ y ≤ se 2)))))) 0 0 (fun _ => False) := by
  refine Met.ofW (cc := cX6_counts) (maxL := 2) (ret := (some .boolean)) (by decide) rfl ?_
  intro p e s m args below meth c s₁ B hml hv
  obtain ⟨rfl, hP, hK⟩ := hv
  have hx := B.exec
  have hb := B.bytes
  have hr := B.returns
  have hts := atoms_spec (ws := wsX6_counts) B.pre
  have hown : s.vm.findClass RX6 = some m.cls := findClass_of_methodNamed B.named
  have hlocks := B.notSynchronized
  have hcX6 : ∀ w ∈ wsX60, w ∈ wsX6_counts := fun _ h => List.mem_cons_of_mem _ (List.mem_append_right _ h)
  have hP : va_P D vwCl [(qW, .inr (6, [.ref qT, .ref qA, .ref qK, .ref qC, .ref qE, .ref qI, .ref qF, .ref qH, .ref qO, .int (iI (fi))])), (qE, .inl (cyI, 6, .inl (xA (se))))] s.heap := hP
  have hl := lv_entry ([.ref qW, .int (iI (y))]) (n := 2) (Nat.le_of_ble_eq_true rfl)
  rw [lg_entry_eq]
  generalize (lg_sl ([.ref qW, .int (iI (y))]) ++ List.replicate (2 - (lg_sl ([.ref qW, .int (iI (y))])).length) Slot.unset).toArray = ls at hl ⊢
  have hl : lv_has ls 2 [(0, .ref qW), (1, .int (iI (y)))] := hl
  refine lv_iload_n hx hb dX6_counts_0 rfl (lv_at hl 1 rfl) ?_
  refine lv_aload_n hx hb dX6_counts_1 rfl (lv_at hl 0 rfl) ?_
  refine va_get (D := D) (ci := 6) (C := RX6) (T := TX6) (N := 10) hx hb hts hcX6 hown hK hP 0 rfl rfl 4 (by decide) (hts (.fieldLink RX6 46 "WallMarks" "settings" "[I") (List.mem_of_getElem? (i := 1) (by decide +kernel))) (fun _ h9 => h9) rfl dX6_counts_2 ?_
  refine xi_const hx hb dX6_counts_5 ?_
  refine xi_ald (D := D) hx hb hK hP 1 0 rfl rfl (by decide) (by omega) dX6_counts_6 ?_
  have hr_1 := h_se (1)
  refine xb_icmp_lt (tgt := 24) hx hb dX6_counts_7 (by decide) (by omega) (fun h_2 => ?_) (fun h_2 => ?_)
  · refine xi_const hx hb dX6_counts_24 ?_
    exact W.zret (v := iI (0)) hx hb hr (by decide +kernel) (fun t_ ht_ _ => ⟨congrArg (fun z => Outcome.returned (some (Value.int (iI z)))) (show (0 : Int) = b2 (se 1 ≤ y ∧ y ≤ se 2) from (b2_f (by first | assumption | omega | (constructor <;> first | assumption | omega))).symm), ht_⟩) (fun _ h9 => absurd h9 List.not_mem_nil) dX6_counts_25
  · refine lv_iload_n hx hb dX6_counts_10 rfl (lv_at hl 1 rfl) ?_
    refine lv_aload_n hx hb dX6_counts_11 rfl (lv_at hl 0 rfl) ?_
    refine va_get (D := D) (ci := 6) (C := RX6) (T := TX6) (N := 10) hx hb hts hcX6 hown hK hP 0 rfl rfl 4 (by decide) (hts (.fieldLink RX6 46 "WallMarks" "settings" "[I") (List.mem_of_getElem? (i := 1) (by decide +kernel))) (fun _ h9 => h9) rfl dX6_counts_12 ?_
    refine xi_const hx hb dX6_counts_15 ?_
    refine xi_ald (D := D) hx hb hK hP 1 0 rfl rfl (by decide) (by omega) dX6_counts_16 ?_
    have hr_3 := h_se (2)
    refine xb_icmp_gt (tgt := 24) hx hb dX6_counts_17 (by decide) (by omega) (fun h_4 => ?_) (fun h_4 => ?_)
    · refine xi_const hx hb dX6_counts_24 ?_
      exact W.zret (v := iI (0)) hx hb hr (by decide +kernel) (fun t_ ht_ _ => ⟨congrArg (fun z => Outcome.returned (some (Value.int (iI z)))) (show (0 : Int) = b2 (se 1 ≤ y ∧ y ≤ se 2) from (b2_f (by first | assumption | omega | (constructor <;> first | assumption | omega))).symm), ht_⟩) (fun _ h9 => absurd h9 List.not_mem_nil) dX6_counts_25
    · refine xi_const hx hb dX6_counts_20 ?_
      refine lv_goto (tgt := 25) hx hb dX6_counts_21 (by decide) ?_
      exact W.zret (v := iI (1)) hx hb hr (by decide +kernel) (fun t_ ht_ _ => ⟨congrArg (fun z => Outcome.returned (some (Value.int (iI z)))) (show (1 : Int) = b2 (se 1 ≤ y ∧ y ≤ se 2) from (b2_t (by first | assumption | omega | (constructor <;> first | assumption | omega))).symm), ht_⟩) (fun _ h9 => absurd h9 List.not_mem_nil) dX6_counts_25
set_option maxHeartbeats 1000000 in
set_option maxRecDepth 100000 in
theorem c_X6_rank (l : Launch) (D : va_G) (cyI cyJ cyO : ClassId) (qW : Nat) (qT : Nat) (qA : Nat) (qK : Nat) (qC : Nat) (qE : Nat) (qI : Nat) (qF : Nat) (qH : Nat) (qO : Nat) (fi : Int) (qKk : Nat) (qKl : Nat) (kk : Int → Int) (kl : Int → Int) (se : Int → Int) (qCy : Nat) (qCl : Nat) (qCb : Nat) (ex : Int) (be : Int) (op : Int) (es : Int) (ge : Int) (rc : Int) (lr : Int) (lw : Int) (el : Int → Int) (y : Int) (h_kk : ∀ j, 0 ≤ kk j ∧ kk j ≤ 2) (h_kl : ∀ j, -1 ≤ kl j ∧ kl j ≤ 999) (h_se : ∀ j, -2147483648 ≤ se j ∧ se j ≤ 2147483647) (h_ex : 0 ≤ ex ∧ ex ≤ 60) (h_be : 0 ≤ be ∧ be ≤ 60) (h_op : 0 ≤ op ∧ op ≤ 60) (h_el : ∀ j, 0 ≤ el j ∧ el j ≤ 999) (h_y : -2147483648 ≤ y ∧ y ≤ 2147483647) : Met l yX6_rank wsX6_rank ({ frames := 1, cells := 0, slots := 0, locals := 23 }) (va_Pc [.ref qW, .int (iI (y))] (xR D vwCl [(qW, .inr (6, [.ref qT, .ref qA, .ref qK, .ref qC, .ref qE, .ref qI, .ref qF, .ref qH, .ref qO, .int (iI (fi))])), (qK, .inr (2, [.ref qKk, .ref qKl])), (qKk, .inl (cyI, 60, .inl (xA (kk)))), (qKl, .inl (cyI, 60, .inl (xA (kl)))), (qE, .inl (cyI, 6, .inl (xA (se)))), (qC, .inr (0, [.ref qCy, .ref qCl, .ref qCb, .int (iI (ex)), .int (iI (be)), .int (iI (op)), .int (iI (es)), .int (iI (ge)), .int (iI (rc)), .int (iI (lr)), .int (iI (lw))])), (qCl, .inl (cyI, 60, .inl (xA (el))))] (xT cyI cyJ cyO))) (xq (some (.int (iI (if 0 ≤ y ∧ y < 60 then (if (se 1 ≤ y ∧ y ≤ se 2) ∧ kk y = 0 then 1 + ovZ el ex (kl y + 1) else -3) else -2))))) 0 0 (fun _ => False) := by
  refine Met.ofW (cc := cX6_rank) (maxL := 2) (ret := (some .int)) (by decide) rfl ?_
  intro p e s m args below meth c s₁ B hml hv
  obtain ⟨rfl, hP, hK⟩ := hv
  have hx := B.exec
  have hb := B.bytes
  have hr := B.returns
  have hts := atoms_spec (ws := wsX6_rank) B.pre
  have hown : s.vm.findClass RX6 = some m.cls := findClass_of_methodNamed B.named
  have hlocks := B.notSynchronized
  have hcX2 : ∀ w ∈ wsX20, w ∈ wsX6_rank := fun _ h => List.mem_cons_of_mem _ (List.mem_append_left _ (List.mem_append_right _ h))
  have hcX6 : ∀ w ∈ wsX60, w ∈ wsX6_rank := fun _ h => List.mem_cons_of_mem _ (List.mem_append_left _ (List.mem_append_left _ (List.mem_append_right _ h)))
  have hP : va_P D vwCl [(qW, .inr (6, [.ref qT, .ref qA, .ref qK, .ref qC, .ref qE, .ref qI, .ref qF, .ref qH, .ref qO, .int (iI (fi))])), (qK, .inr (2, [.ref qKk, .ref qKl])), (qKk, .inl (cyI, 60, .inl (xA (kk)))), (qKl, .inl (cyI, 60, .inl (xA (kl)))), (qE, .inl (cyI, 6, .inl (xA (se)))), (qC, .inr (0, [.ref qCy, .ref qCl, .ref qCb, .int (iI (ex)), .int (iI (be)), .int (iI (op)), .int (iI (es)), .int (iI (ge)), .int (iI (rc)), .int (iI (lr)), .int (iI (lw))])), (qCl, .inl (cyI, 60, .inl (xA (el))))] s.heap := hP
  have hl := lv_entry ([.ref qW, .int (iI (y))]) (n := 2) (Nat.le_of_ble_eq_true rfl)
  rw [lg_entry_eq]
  generalize (lg_sl ([.ref qW, .int (iI (y))]) ++ List.replicate (2 - (lg_sl ([.ref qW, .int (iI (y))])).length) Slot.unset).toArray = ls at hl ⊢
  have hl : lv_has ls 2 [(0, .ref qW), (1, .int (iI (y)))] := hl
  refine lv_iload_n hx hb dX6_rank_0 rfl (lv_at hl 1 rfl) ?_
  have hPc := hP.sub (ws' := []) [] rfl
  refine xc_i (va_runS (As := [.int (iI (y))]) (rest := []) ⟨hx, hb, hml, hown, hts⟩ (c_X6_isYear l D cyI cyJ cyO y (by first | exact h_y | assumption | omega)) (va_cwS 1 hts gX6_rank_X6_isYear rfl rfl rfl (by decide +kernel) ⟨Nat.le_of_ble_eq_true rfl, Nat.le_of_ble_eq_true rfl⟩) (xpS hPc hK) rfl rfl hl.1 rfl (lv_room (Nat.le_of_ble_eq_true rfl)) dX6_rank_1 ⟨Nat.le_of_ble_eq_true rfl, Nat.le_of_ble_eq_true rfl⟩) ?_
  refine xb_if_neB (tgt := 10) hx hb dX6_rank_4 (by decide) (fun h_1 => ?_) (fun h_1 => ?_)
  · refine lv_aload_n hx hb dX6_rank_10 rfl (lv_at hl 0 rfl) ?_
    refine lv_iload_n hx hb dX6_rank_11 rfl (lv_at hl 1 rfl) ?_
    have hPc := hP.sub (ws' := [(qW, .inr (6, [.ref qT, .ref qA, .ref qK, .ref qC, .ref qE, .ref qI, .ref qF, .ref qH, .ref qO, .int (iI (fi))])), (qE, .inl (cyI, 6, .inl (xA (se))))]) [0, 4] rfl
    refine xc_i (va_runV (As := [.int (iI (y))]) (rest := []) ⟨hx, hb, hml, hown, hts⟩ (c_X6_counts l D cyI cyJ cyO qW qT qA qK qC qE qI qF qH qO fi se y (by first | exact h_se | assumption | omega) (by first | exact h_y | assumption | omega)) (cwV 1 hts gX6_rank_X6_counts rfl rfl rfl (by decide +kernel) ⟨Nat.le_of_ble_eq_true rfl, Nat.le_of_ble_eq_true rfl⟩) (xpV hPc hK (ci := 6) (q0 := 0) (q := (RX6, TX6, 10)) rfl rfl) rfl rfl hl.1 rfl (lv_room (Nat.le_of_ble_eq_true rfl)) dX6_rank_12 ⟨Nat.le_of_ble_eq_true rfl, Nat.le_of_ble_eq_true rfl⟩) ?_
    refine xb_if_eqB (tgt := 30) hx hb dX6_rank_15 (by decide) (fun h_2 => ?_) (fun h_2 => ?_)
    · refine xi_bipush hx hb dX6_rank_30 (by decide +kernel) ?_
      exact W.iret (v := iI (-3)) hx hb hr (fun t_ ht_ _ => ⟨congrArg (fun z => Outcome.returned (some (Value.int (iI z)))) (show (-3) = (if 0 ≤ y ∧ y < 60 then (if (se 1 ≤ y ∧ y ≤ se 2) ∧ kk y = 0 then 1 + ovZ el ex (kl y + 1) else -3) else -2) from by first | rfl | ((repeat (first | rw [if_pos (by omega)] | rw [if_neg (by omega)])); done) | ((repeat (first | rw [if_pos (by omega)] | rw [if_neg (by omega)])); rfl) | omega), ht_⟩) (fun _ h9 => absurd h9 List.not_mem_nil) dX6_rank_32
    · refine lv_aload_n hx hb dX6_rank_18 rfl (lv_at hl 0 rfl) ?_
      refine va_get (D := D) (ci := 6) (C := RX6) (T := TX6) (N := 10) hx hb hts hcX6 hown hK hP 0 rfl rfl 2 (by decide) (hts (.fieldLink RX6 26 "WallMarks" "knowledge" "LWallMarks$Known;") (List.mem_of_getElem? (i := 1) (by decide +kernel))) (fun _ h9 => h9) rfl dX6_rank_19 ?_
      refine va_get (D := D) (ci := 2) (C := RX2) (T := TX2) (N := 2) hx hb hts hcX2 hown hK hP 1 rfl rfl 0 (by decide) (hts (.fieldLink RX6 137 "WallMarks$Known" "kinds" "[I") (List.mem_of_getElem? (i := 2) (by decide +kernel))) (fun _ h9 => h9) rfl dX6_rank_22 ?_
      refine lv_iload_n hx hb dX6_rank_25 rfl (lv_at hl 1 rfl) ?_
      refine xi_ald (D := D) hx hb hK hP 2 0 rfl rfl (by decide) (by omega) dX6_rank_26 ?_
      have hr_3 := h_kk (y)
      refine xb_if_eq (tgt := 33) hx hb dX6_rank_27 (by decide) (by omega) (fun h_4 => ?_) (fun h_4 => ?_)
      · refine xi_const hx hb dX6_rank_33 ?_
        refine lv_aload_n hx hb dX6_rank_34 rfl (lv_at hl 0 rfl) ?_
        refine va_get (D := D) (ci := 6) (C := RX6) (T := TX6) (N := 10) hx hb hts hcX6 hown hK hP 0 rfl rfl 3 (by decide) (hts (.fieldLink RX6 33 "WallMarks" "counted" "LWallMarks$Counted;") (List.mem_of_getElem? (i := 3) (by decide +kernel))) (fun _ h9 => h9) rfl dX6_rank_35 ?_
        refine lv_aload_n hx hb dX6_rank_38 rfl (lv_at hl 0 rfl) ?_
        refine va_get (D := D) (ci := 6) (C := RX6) (T := TX6) (N := 10) hx hb hts hcX6 hown hK hP 0 rfl rfl 2 (by decide) (hts (.fieldLink RX6 26 "WallMarks" "knowledge" "LWallMarks$Known;") (List.mem_of_getElem? (i := 1) (by decide +kernel))) (fun _ h9 => h9) rfl dX6_rank_39 ?_
        refine va_get (D := D) (ci := 2) (C := RX2) (T := TX2) (N := 2) hx hb hts hcX2 hown hK hP 1 rfl rfl 1 (by decide) (hts (.fieldLink RX6 140 "WallMarks$Known" "levels" "[I") (List.mem_of_getElem? (i := 4) (by decide +kernel))) (fun _ h9 => h9) rfl dX6_rank_42 ?_
        refine lv_iload_n hx hb dX6_rank_45 rfl (lv_at hl 1 rfl) ?_
        refine xi_ald (D := D) hx hb hK hP 3 0 rfl rfl (by decide) (by omega) dX6_rank_46 ?_
        have hr_5 := h_kl (y)
        refine xi_const hx hb dX6_rank_47 ?_
        refine xi_add hx hb dX6_rank_48 ?_
        have hf_6 := ovZ_in el ex ((kl (y)) + 1) (by omega)
        have hPc := hP.sub (ws' := [(qC, .inr (0, [.ref qCy, .ref qCl, .ref qCb, .int (iI (ex)), .int (iI (be)), .int (iI (op)), .int (iI (es)), .int (iI (ge)), .int (iI (rc)), .int (iI (lr)), .int (iI (lw))])), (qCl, .inl (cyI, 60, .inl (xA (el))))]) [5, 6] rfl
        refine xc_i (va_runV (As := [.int (iI ((kl (y)) + 1))]) (rest := [.int (iI (1))]) ⟨hx, hb, hml, hown, hts⟩ (c_X0_overs l D cyI cyJ cyO qC qCy qCl qCb ex be op es ge rc lr lw el ((kl (y)) + 1) (by first | exact h_ex | assumption | omega) (by first | exact h_be | assumption | omega) (by first | exact h_op | assumption | omega) (by first | exact h_el | assumption | omega) (by first | exact h_x | assumption | omega)) (cwV 1 hts gX6_rank_X0_overs rfl rfl rfl (by decide +kernel) ⟨Nat.le_of_ble_eq_true rfl, Nat.le_of_ble_eq_true rfl⟩) (xpV hPc hK (ci := 0) (q0 := 0) (q := (RX0, TX0, 11)) rfl rfl) rfl rfl hl.1 rfl (lv_room (Nat.le_of_ble_eq_true rfl)) dX6_rank_49 ⟨Nat.le_of_ble_eq_true rfl, Nat.le_of_ble_eq_true rfl⟩) ?_
        refine xi_add hx hb dX6_rank_52 ?_
        exact W.iret (v := iI (1 + (ovZ el ex ((kl (y)) + 1)))) hx hb hr (fun t_ ht_ _ => ⟨congrArg (fun z => Outcome.returned (some (Value.int (iI z)))) (show (1 + (ovZ el ex ((kl (y)) + 1))) = (if 0 ≤ y ∧ y < 60 then (if (se 1 ≤ y ∧ y ≤ se 2) ∧ kk y = 0 then 1 + ovZ el ex (kl y + 1) else -3) else -2) from by first | rfl | ((repeat (first | rw [if_pos (by omega)] | rw [if_neg (by omega)])); done) | ((repeat (first | rw [if_pos (by omega)] | rw [if_neg (by omega)])); rfl) | omega), ht_⟩) (fun _ h9 => absurd h9 List.not_mem_nil) dX6_rank_53
      · refine xi_bipush hx hb dX6_rank_30 (by decide +kernel) ?_
        exact W.iret (v := iI (-3)) hx hb hr (fun t_ ht_ _ => ⟨congrArg (fun z => Outcome.returned (some (Value.int (iI z)))) (show (-3) = (if 0 ≤ y ∧ y < 60 then (if (se 1 ≤ y ∧ y ≤ se 2) ∧ kk y = 0 then 1 + ovZ el ex (kl y + 1) else -3) else -2) from by first | rfl | ((repeat (first | rw [if_pos (by omega)] | rw [if_neg (by omega)])); done) | ((repeat (first | rw [if_pos (by omega)] | rw [if_neg (by omega)])); rfl) | omega), ht_⟩) (fun _ h9 => absurd h9 List.not_mem_nil) dX6_rank_32
  · refine xi_bipush hx hb dX6_rank_7 (by decide +kernel) ?_
    exact W.iret (v := iI (-2)) hx hb hr (fun t_ ht_ _ => ⟨congrArg (fun z => Outcome.returned (some (Value.int (iI z)))) (show (-2) = (if 0 ≤ y ∧ y < 60 then (if (se 1 ≤ y ∧ y ≤ se 2) ∧ kk y = 0 then 1 + ovZ el ex (kl y + 1) else -3) else -2) from by first | rfl | ((repeat (first | rw [if_pos (by omega)] | rw [if_neg (by omega)])); done) | ((repeat (first | rw [if_pos (by omega)] | rw [if_neg (by omega)])); rfl) | omega), ht_⟩) (fun _ h9 => absurd h9 List.not_mem_nil) dX6_rank_9
set_option maxHeartbeats 1000000 in
set_option maxRecDepth 100000 in
theorem c_X6_again (l : Launch) (D : va_G) (cyI cyJ cyO : ClassId) (qW : Nat) (qT : Nat) (qA : Nat) (qK : Nat) (qC : Nat) (qE : Nat) (qI : Nat) (qF : Nat) (qH : Nat) (qO : Nat) (fi : Int) (n : Int) (a : Int) (k : Int) (w : Int) (h_n : -2147483648 ≤ n ∧ n ≤ 2147483647) (h_a : -2147483648 ≤ a ∧ a ≤ 2147483647) (h_k : -2147483648 ≤ k ∧ k ≤ 2147483647) (h_w : -2147483648 ≤ w ∧ w ≤ 2147483647) : Met l yX6_again wsX6_again ({ frames := 2, cells := 0, slots := 0, locals := 56 }) (va_Pc [.ref qW, .int (iI (n)), .int (iI (a)), .int (iI (k)), .int (iI (w))] (xR D vwCl [(qW, .inr (6, [.ref qT, .ref qA, .ref qK, .ref qC, .ref qE, .ref qI, .ref qF, .ref qH, .ref qO, .int (iI (fi))]))] (xT cyI cyJ cyO))) (xq (some (.long (lI (if (1 ≤ n ∧ n ≤ 15) ∧ (0 ≤ a ∧ a ≤ 16) ∧ (0 ≤ k ∧ k ≤ 15) ∧ (w = 0 ∨ w = 1) then frac (goF n a k (n + 1)) (16 ^ n.toNat) w else -9223372036854775806))))) 0 0 (fun _ => False) := by
  refine Met.ofW (cc := cX6_again) (maxL := 5) (ret := (some .long)) (by decide) rfl ?_
  intro p e s m args below meth c s₁ B hml hv
  obtain ⟨rfl, hP, hK⟩ := hv
  have hx := B.exec
  have hb := B.bytes
  have hr := B.returns
  have hts := atoms_spec (ws := wsX6_again) B.pre
  have hown : s.vm.findClass RX6 = some m.cls := findClass_of_methodNamed B.named
  have hlocks := B.notSynchronized
  have hP : va_P D vwCl [(qW, .inr (6, [.ref qT, .ref qA, .ref qK, .ref qC, .ref qE, .ref qI, .ref qF, .ref qH, .ref qO, .int (iI (fi))]))] s.heap := hP
  have hl := lv_entry ([.ref qW, .int (iI (n)), .int (iI (a)), .int (iI (k)), .int (iI (w))]) (n := 5) (Nat.le_of_ble_eq_true rfl)
  rw [lg_entry_eq]
  generalize (lg_sl ([.ref qW, .int (iI (n)), .int (iI (a)), .int (iI (k)), .int (iI (w))]) ++ List.replicate (5 - (lg_sl ([.ref qW, .int (iI (n)), .int (iI (a)), .int (iI (k)), .int (iI (w))])).length) Slot.unset).toArray = ls at hl ⊢
  have hl : lv_has ls 5 [(0, .ref qW), (1, .int (iI (n))), (2, .int (iI (a))), (3, .int (iI (k))), (4, .int (iI (w)))] := hl
  refine lv_iload_n hx hb dX6_again_0 rfl (lv_at hl 1 rfl) ?_
  refine xi_const hx hb dX6_again_1 ?_
  refine xb_icmp_lt (tgt := 36) hx hb dX6_again_2 (by decide) (by omega) (fun h_1 => ?_) (fun h_1 => ?_)
  · refine xi_bipush hx hb dX6_again_36 (by decide +kernel) ?_
    have hPc := hP.sub (ws' := []) [] rfl
    refine xc_l (va_runS (As := [.int (iI (-2))]) (rest := []) ⟨hx, hb, hml, hown, hts⟩ (c_X6_longRefusal l D cyI cyJ cyO (-2) (by first | exact h_x | assumption | omega)) (va_cwS 1 hts gX6_again_X6_longRefusal rfl rfl rfl (by decide +kernel) ⟨Nat.le_of_ble_eq_true rfl, Nat.le_of_ble_eq_true rfl⟩) (xpS hPc hK) rfl rfl hl.1 rfl (lv_room (Nat.le_of_ble_eq_true rfl)) dX6_again_38 ⟨Nat.le_of_ble_eq_true rfl, Nat.le_of_ble_eq_true rfl⟩) ?_
    exact W.lret (v := lI (-9223372036854775808 - (-2))) hx hb hr (fun t_ ht_ _ => ⟨congrArg (fun z => Outcome.returned (some (Value.long (lI z)))) (show (-9223372036854775808 - (-2)) = (if (1 ≤ n ∧ n ≤ 15) ∧ (0 ≤ a ∧ a ≤ 16) ∧ (0 ≤ k ∧ k ≤ 15) ∧ (w = 0 ∨ w = 1) then frac (goF n a k (n + 1)) (16 ^ n.toNat) w else -9223372036854775806) from by first | rfl | ((repeat (first | rw [if_pos (by omega)] | rw [if_neg (by omega)])); done) | ((repeat (first | rw [if_pos (by omega)] | rw [if_neg (by omega)])); rfl) | omega), ht_⟩) (fun _ h9 => absurd h9 List.not_mem_nil) dX6_again_41
  · refine lv_iload_n hx hb dX6_again_5 rfl (lv_at hl 1 rfl) ?_
    refine xi_bipush hx hb dX6_again_6 (by decide +kernel) ?_
    refine xb_icmp_gt (tgt := 36) hx hb dX6_again_8 (by decide) (by omega) (fun h_2 => ?_) (fun h_2 => ?_)
    · refine xi_bipush hx hb dX6_again_36 (by decide +kernel) ?_
      have hPc := hP.sub (ws' := []) [] rfl
      refine xc_l (va_runS (As := [.int (iI (-2))]) (rest := []) ⟨hx, hb, hml, hown, hts⟩ (c_X6_longRefusal l D cyI cyJ cyO (-2) (by first | exact h_x | assumption | omega)) (va_cwS 1 hts gX6_again_X6_longRefusal rfl rfl rfl (by decide +kernel) ⟨Nat.le_of_ble_eq_true rfl, Nat.le_of_ble_eq_true rfl⟩) (xpS hPc hK) rfl rfl hl.1 rfl (lv_room (Nat.le_of_ble_eq_true rfl)) dX6_again_38 ⟨Nat.le_of_ble_eq_true rfl, Nat.le_of_ble_eq_true rfl⟩) ?_
      exact W.lret (v := lI (-9223372036854775808 - (-2))) hx hb hr (fun t_ ht_ _ => ⟨congrArg (fun z => Outcome.returned (some (Value.long (lI z)))) (show (-9223372036854775808 - (-2)) = (if (1 ≤ n ∧ n ≤ 15) ∧ (0 ≤ a ∧ a ≤ 16) ∧ (0 ≤ k ∧ k ≤ 15) ∧ (w = 0 ∨ w = 1) then frac (goF n a k (n + 1)) (16 ^ n.toNat) w else -9223372036854775806) from by first | rfl | ((repeat (first | rw [if_pos (by omega)] | rw [if_neg (by omega)])); done) | ((repeat (first | rw [if_pos (by omega)] | rw [if_neg (by omega)])); rfl) | omega), ht_⟩) (fun _ h9 => absurd h9 List.not_mem_nil) dX6_again_41
    · refine lv_iload_n hx hb dX6_again_11 rfl (lv_at hl 2 rfl) ?_
      have hPc := hP.sub (ws' := []) [] rfl
      refine xc_i (va_runS (As := [.int (iI (a))]) (rest := []) ⟨hx, hb, hml, hown, hts⟩ (c_X6_isSixteenths l D cyI cyJ cyO a (by first | exact h_y | assumption | omega)) (va_cwS 1 hts gX6_again_X6_isSixteenths rfl rfl rfl (by decide +kernel) ⟨Nat.le_of_ble_eq_true rfl, Nat.le_of_ble_eq_true rfl⟩) (xpS hPc hK) rfl rfl hl.1 rfl (lv_room (Nat.le_of_ble_eq_true rfl)) dX6_again_12 ⟨Nat.le_of_ble_eq_true rfl, Nat.le_of_ble_eq_true rfl⟩) ?_
      refine xb_if_eqB (tgt := 36) hx hb dX6_again_15 (by decide) (fun h_3 => ?_) (fun h_3 => ?_)
      · refine xi_bipush hx hb dX6_again_36 (by decide +kernel) ?_
        have hPc := hP.sub (ws' := []) [] rfl
        refine xc_l (va_runS (As := [.int (iI (-2))]) (rest := []) ⟨hx, hb, hml, hown, hts⟩ (c_X6_longRefusal l D cyI cyJ cyO (-2) (by first | exact h_x | assumption | omega)) (va_cwS 1 hts gX6_again_X6_longRefusal rfl rfl rfl (by decide +kernel) ⟨Nat.le_of_ble_eq_true rfl, Nat.le_of_ble_eq_true rfl⟩) (xpS hPc hK) rfl rfl hl.1 rfl (lv_room (Nat.le_of_ble_eq_true rfl)) dX6_again_38 ⟨Nat.le_of_ble_eq_true rfl, Nat.le_of_ble_eq_true rfl⟩) ?_
        exact W.lret (v := lI (-9223372036854775808 - (-2))) hx hb hr (fun t_ ht_ _ => ⟨congrArg (fun z => Outcome.returned (some (Value.long (lI z)))) (show (-9223372036854775808 - (-2)) = (if (1 ≤ n ∧ n ≤ 15) ∧ (0 ≤ a ∧ a ≤ 16) ∧ (0 ≤ k ∧ k ≤ 15) ∧ (w = 0 ∨ w = 1) then frac (goF n a k (n + 1)) (16 ^ n.toNat) w else -9223372036854775806) from by first | rfl | ((repeat (first | rw [if_pos (by omega)] | rw [if_neg (by omega)])); done) | ((repeat (first | rw [if_pos (by omega)] | rw [if_neg (by omega)])); rfl) | omega), ht_⟩) (fun _ h9 => absurd h9 List.not_mem_nil) dX6_again_41
      · refine lv_iload_n hx hb dX6_again_18 rfl (lv_at hl 3 rfl) ?_
        refine xb_if_lt (tgt := 36) hx hb dX6_again_19 (by decide) (by omega) (fun h_4 => ?_) (fun h_4 => ?_)
        · refine xi_bipush hx hb dX6_again_36 (by decide +kernel) ?_
          have hPc := hP.sub (ws' := []) [] rfl
          refine xc_l (va_runS (As := [.int (iI (-2))]) (rest := []) ⟨hx, hb, hml, hown, hts⟩ (c_X6_longRefusal l D cyI cyJ cyO (-2) (by first | exact h_x | assumption | omega)) (va_cwS 1 hts gX6_again_X6_longRefusal rfl rfl rfl (by decide +kernel) ⟨Nat.le_of_ble_eq_true rfl, Nat.le_of_ble_eq_true rfl⟩) (xpS hPc hK) rfl rfl hl.1 rfl (lv_room (Nat.le_of_ble_eq_true rfl)) dX6_again_38 ⟨Nat.le_of_ble_eq_true rfl, Nat.le_of_ble_eq_true rfl⟩) ?_
          exact W.lret (v := lI (-9223372036854775808 - (-2))) hx hb hr (fun t_ ht_ _ => ⟨congrArg (fun z => Outcome.returned (some (Value.long (lI z)))) (show (-9223372036854775808 - (-2)) = (if (1 ≤ n ∧ n ≤ 15) ∧ (0 ≤ a ∧ a ≤ 16) ∧ (0 ≤ k ∧ k ≤ 15) ∧ (w = 0 ∨ w = 1) then frac (goF n a k (n + 1)) (16 ^ n.toNat) w else -9223372036854775806) from by first | rfl | ((repeat (first | rw [if_pos (by omega)] | rw [if_neg (by omega)])); done) | ((repeat (first | rw [if_pos (by omega)] | rw [if_neg (by omega)])); rfl) | omega), ht_⟩) (fun _ h9 => absurd h9 List.not_mem_nil) dX6_again_41
        · refine lv_iload_n hx hb dX6_again_22 rfl (lv_at hl 3 rfl) ?_
          refine xi_bipush hx hb dX6_again_23 (by decide +kernel) ?_
          refine xb_icmp_gt (tgt := 36) hx hb dX6_again_25 (by decide) (by omega) (fun h_5 => ?_) (fun h_5 => ?_)
          · refine xi_bipush hx hb dX6_again_36 (by decide +kernel) ?_
            have hPc := hP.sub (ws' := []) [] rfl
            refine xc_l (va_runS (As := [.int (iI (-2))]) (rest := []) ⟨hx, hb, hml, hown, hts⟩ (c_X6_longRefusal l D cyI cyJ cyO (-2) (by first | exact h_x | assumption | omega)) (va_cwS 1 hts gX6_again_X6_longRefusal rfl rfl rfl (by decide +kernel) ⟨Nat.le_of_ble_eq_true rfl, Nat.le_of_ble_eq_true rfl⟩) (xpS hPc hK) rfl rfl hl.1 rfl (lv_room (Nat.le_of_ble_eq_true rfl)) dX6_again_38 ⟨Nat.le_of_ble_eq_true rfl, Nat.le_of_ble_eq_true rfl⟩) ?_
            exact W.lret (v := lI (-9223372036854775808 - (-2))) hx hb hr (fun t_ ht_ _ => ⟨congrArg (fun z => Outcome.returned (some (Value.long (lI z)))) (show (-9223372036854775808 - (-2)) = (if (1 ≤ n ∧ n ≤ 15) ∧ (0 ≤ a ∧ a ≤ 16) ∧ (0 ≤ k ∧ k ≤ 15) ∧ (w = 0 ∨ w = 1) then frac (goF n a k (n + 1)) (16 ^ n.toNat) w else -9223372036854775806) from by first | rfl | ((repeat (first | rw [if_pos (by omega)] | rw [if_neg (by omega)])); done) | ((repeat (first | rw [if_pos (by omega)] | rw [if_neg (by omega)])); rfl) | omega), ht_⟩) (fun _ h9 => absurd h9 List.not_mem_nil) dX6_again_41
          · refine lv_iload hx hb dX6_again_28 (lv_at hl 4 rfl) ?_
            have hPc := hP.sub (ws' := []) [] rfl
            refine xc_i (va_runS (As := [.int (iI (w))]) (rest := []) ⟨hx, hb, hml, hown, hts⟩ (c_X6_isEither l D cyI cyJ cyO w (by first | exact h_y | assumption | omega)) (va_cwS 1 hts gX6_again_X6_isEither rfl rfl rfl (by decide +kernel) ⟨Nat.le_of_ble_eq_true rfl, Nat.le_of_ble_eq_true rfl⟩) (xpS hPc hK) rfl rfl hl.1 rfl (lv_room (Nat.le_of_ble_eq_true rfl)) dX6_again_30 ⟨Nat.le_of_ble_eq_true rfl, Nat.le_of_ble_eq_true rfl⟩) ?_
            refine xb_if_neB (tgt := 42) hx hb dX6_again_33 (by decide) (fun h_6 => ?_) (fun h_6 => ?_)
            · refine lv_iload_n hx hb dX6_again_42 rfl (lv_at hl 1 rfl) ?_
              refine lv_iload_n hx hb dX6_again_43 rfl (lv_at hl 2 rfl) ?_
              refine lv_iload_n hx hb dX6_again_44 rfl (lv_at hl 3 rfl) ?_
              refine lv_iload_n hx hb dX6_again_45 rfl (lv_at hl 1 rfl) ?_
              refine xi_const hx hb dX6_again_46 ?_
              refine xi_add hx hb dX6_again_47 ?_
              have hf_7 := goF_in (n := n) (a := a) (lo := k) (n + 1) (by omega) (by omega) (by omega)
              have hPc := hP.sub (ws' := []) [] rfl
              refine xc_l (va_runS (As := [.int (iI (n)), .int (iI (a)), .int (iI (k)), .int (iI (n + 1))]) (rest := []) ⟨hx, hb, hml, hown, hts⟩ (c_X6_timesOver l D cyI cyJ cyO n a k (n + 1) (by first | exact h_n | assumption | omega) (by first | exact h_a | assumption | omega) (by first | exact h_lo | assumption | omega) (by first | exact h_hi | assumption | omega)) (va_cwS 4 hts gX6_again_X6_timesOver rfl rfl rfl (by decide +kernel) ⟨Nat.le_of_ble_eq_true rfl, Nat.le_of_ble_eq_true rfl⟩) (xpS hPc hK) rfl rfl hl.1 rfl (lv_room (Nat.le_of_ble_eq_true rfl)) dX6_again_48 ⟨Nat.le_of_ble_eq_true rfl, Nat.le_of_ble_eq_true rfl⟩) ?_
              refine lv_ldc2 (v := lI (16)) hx hb hown (hts (.constantLong RX6 186 (lI (16))) (List.mem_of_getElem? (i := 1) (by decide +kernel))) dX6_again_51 ?_
              refine lv_iload_n hx hb dX6_again_54 rfl (lv_at hl 1 rfl) ?_
              have hPc := hP.sub (ws' := []) [] rfl
              refine xc_l (va_runS (As := [.long (lI (16)), .int (iI (n))]) (rest := [.long (lI (goF n a k (n + 1)))]) ⟨hx, hb, hml, hown, hts⟩ (c_X6_power l D cyI cyJ cyO 16 n (by first | exact h_w | assumption | omega)) (va_cwS 2 hts gX6_again_X6_power rfl rfl rfl (by decide +kernel) ⟨Nat.le_of_ble_eq_true rfl, Nat.le_of_ble_eq_true rfl⟩) (xpS hPc hK) rfl rfl hl.1 rfl (lv_room (Nat.le_of_ble_eq_true rfl)) dX6_again_55 ⟨Nat.le_of_ble_eq_true rfl, Nat.le_of_ble_eq_true rfl⟩) ?_
              refine lv_iload hx hb dX6_again_58 (lv_at hl 4 rfl) ?_
              have hp1 := pow_in (b := 16) (n := n) (by omega) (by omega)
              have hp2 : (0 : Int) < 16 ^ n.toNat := Int.pow_pos (by omega)
              have hPc := hP.sub (ws' := []) [] rfl
              refine xc_l (va_runS (As := [.long (lI (goF n a k (n + 1))), .long (lI (16 ^ n.toNat)), .int (iI (w))]) (rest := []) ⟨hx, hb, hml, hown, hts⟩ (c_X6_fraction l D cyI cyJ cyO (goF n a k (n + 1)) (16 ^ n.toNat) w (by first | exact h_a | assumption | omega) (by first | exact h_b | assumption | omega) (by first | exact h_w | assumption | omega)) (va_cwS 3 hts gX6_again_X6_fraction rfl rfl rfl (by decide +kernel) ⟨Nat.le_of_ble_eq_true rfl, Nat.le_of_ble_eq_true rfl⟩) (xpS hPc hK) rfl rfl hl.1 rfl (lv_room (Nat.le_of_ble_eq_true rfl)) dX6_again_60 ⟨Nat.le_of_ble_eq_true rfl, Nat.le_of_ble_eq_true rfl⟩) ?_
              exact W.lret (v := lI (frac (goF n a k (n + 1)) (16 ^ n.toNat) w)) hx hb hr (fun t_ ht_ _ => ⟨congrArg (fun z => Outcome.returned (some (Value.long (lI z)))) (show (frac (goF n a k (n + 1)) (16 ^ n.toNat) w) = (if (1 ≤ n ∧ n ≤ 15) ∧ (0 ≤ a ∧ a ≤ 16) ∧ (0 ≤ k ∧ k ≤ 15) ∧ (w = 0 ∨ w = 1) then frac (goF n a k (n + 1)) (16 ^ n.toNat) w else -9223372036854775806) from by first | rfl | ((repeat (first | rw [if_pos (by omega)] | rw [if_neg (by omega)])); done) | ((repeat (first | rw [if_pos (by omega)] | rw [if_neg (by omega)])); rfl) | omega), ht_⟩) (fun _ h9 => absurd h9 List.not_mem_nil) dX6_again_63
            · refine xi_bipush hx hb dX6_again_36 (by decide +kernel) ?_
              have hPc := hP.sub (ws' := []) [] rfl
              refine xc_l (va_runS (As := [.int (iI (-2))]) (rest := []) ⟨hx, hb, hml, hown, hts⟩ (c_X6_longRefusal l D cyI cyJ cyO (-2) (by first | exact h_x | assumption | omega)) (va_cwS 1 hts gX6_again_X6_longRefusal rfl rfl rfl (by decide +kernel) ⟨Nat.le_of_ble_eq_true rfl, Nat.le_of_ble_eq_true rfl⟩) (xpS hPc hK) rfl rfl hl.1 rfl (lv_room (Nat.le_of_ble_eq_true rfl)) dX6_again_38 ⟨Nat.le_of_ble_eq_true rfl, Nat.le_of_ble_eq_true rfl⟩) ?_
              exact W.lret (v := lI (-9223372036854775808 - (-2))) hx hb hr (fun t_ ht_ _ => ⟨congrArg (fun z => Outcome.returned (some (Value.long (lI z)))) (show (-9223372036854775808 - (-2)) = (if (1 ≤ n ∧ n ≤ 15) ∧ (0 ≤ a ∧ a ≤ 16) ∧ (0 ≤ k ∧ k ≤ 15) ∧ (w = 0 ∨ w = 1) then frac (goF n a k (n + 1)) (16 ^ n.toNat) w else -9223372036854775806) from by first | rfl | ((repeat (first | rw [if_pos (by omega)] | rw [if_neg (by omega)])); done) | ((repeat (first | rw [if_pos (by omega)] | rw [if_neg (by omega)])); rfl) | omega), ht_⟩) (fun _ h9 => absurd h9 List.not_mem_nil) dX6_again_41
set_option maxHeartbeats 1000000 in
set_option maxRecDepth 100000 in
theorem c_X6_next (l : Launch) (D : va_G) (cyI cyJ cyO : ClassId) (qW : Nat) (qT : Nat) (qA : Nat) (qK : Nat) (qC : Nat) (qE : Nat) (qI : Nat) (qF : Nat) (qH : Nat) (qO : Nat) (fi : Int) (qCy : Nat) (qCl : Nat) (qCb : Nat) (ex : Int) (be : Int) (op : Int) (es : Int) (ge : Int) (rc : Int) (lr : Int) (lw : Int) (mm : Int) (ss : Int) (k : Int) (w : Int) (h_ex : 0 ≤ ex ∧ ex ≤ 60) (h_be : 0 ≤ be ∧ be ≤ 60) (h_op : 0 ≤ op ∧ op ≤ 60) (h_mm : -2147483648 ≤ mm ∧ mm ≤ 2147483647) (h_ss : -2147483648 ≤ ss ∧ ss ≤ 2147483647) (h_k : -2147483648 ≤ k ∧ k ≤ 2147483647) (h_w : -2147483648 ≤ w ∧ w ≤ 2147483647) : Met l yX6_next wsX6_next ({ frames := 2, cells := 0, slots := 0, locals := 56 }) (va_Pc [.ref qW, .int (iI (mm)), .int (iI (ss)), .int (iI (k)), .int (iI (w))] (xR D vwCl [(qW, .inr (6, [.ref qT, .ref qA, .ref qK, .ref qC, .ref qE, .ref qI, .ref qF, .ref qH, .ref qO, .int (iI (fi))])), (qC, .inr (0, [.ref qCy, .ref qCl, .ref qCb, .int (iI (ex)), .int (iI (be)), .int (iI (op)), .int (iI (es)), .int (iI (ge)), .int (iI (rc)), .int (iI (lr)), .int (iI (lw))]))] (xT cyI cyJ cyO))) (xq (some (.long (lI (if (1 ≤ mm ∧ mm ≤ 20) ∧ (1 ≤ ss ∧ ss ≤ 60) ∧ (0 ≤ k ∧ k ≤ mm) ∧ (w = 0 ∨ w = 1) then (if ex < ss then -9223372036854775805 else if 20 < ex then -9223372036854775804 else frac (chI (ss - 1 + k) k * chI (ex - ss + mm - k) (mm - k)) (chI (ex + mm) mm) w) else -9223372036854775806))))) 0 0 (fun _ => False) := by
  refine Met.ofW (cc := cX6_next) (maxL := 8) (ret := (some .long)) (by decide) rfl ?_
  intro p e s m args below meth c s₁ B hml hv
  obtain ⟨rfl, hP, hK⟩ := hv
  have hx := B.exec
  have hb := B.bytes
  have hr := B.returns
  have hts := atoms_spec (ws := wsX6_next) B.pre
  have hown : s.vm.findClass RX6 = some m.cls := findClass_of_methodNamed B.named
  have hlocks := B.notSynchronized
  have hcX0 : ∀ w ∈ wsX00, w ∈ wsX6_next := fun _ h => List.mem_cons_of_mem _ (List.mem_append_right _ h)
  have hcX6 : ∀ w ∈ wsX60, w ∈ wsX6_next := fun _ h => List.mem_cons_of_mem _ (List.mem_append_left _ (List.mem_append_right _ h))
  have hP : va_P D vwCl [(qW, .inr (6, [.ref qT, .ref qA, .ref qK, .ref qC, .ref qE, .ref qI, .ref qF, .ref qH, .ref qO, .int (iI (fi))])), (qC, .inr (0, [.ref qCy, .ref qCl, .ref qCb, .int (iI (ex)), .int (iI (be)), .int (iI (op)), .int (iI (es)), .int (iI (ge)), .int (iI (rc)), .int (iI (lr)), .int (iI (lw))]))] s.heap := hP
  have hl := lv_entry ([.ref qW, .int (iI (mm)), .int (iI (ss)), .int (iI (k)), .int (iI (w))]) (n := 8) (Nat.le_of_ble_eq_true rfl)
  rw [lg_entry_eq]
  generalize (lg_sl ([.ref qW, .int (iI (mm)), .int (iI (ss)), .int (iI (k)), .int (iI (w))]) ++ List.replicate (8 - (lg_sl ([.ref qW, .int (iI (mm)), .int (iI (ss)), .int (iI (k)), .int (iI (w))])).length) Slot.unset).toArray = ls at hl ⊢
  have hl : lv_has ls 8 [(0, .ref qW), (1, .int (iI (mm))), (2, .int (iI (ss))), (3, .int (iI (k))), (4, .int (iI (w)))] := hl
  refine lv_iload_n hx hb dX6_next_0 rfl (lv_at hl 1 rfl) ?_
  refine xi_const hx hb dX6_next_1 ?_
  refine xb_icmp_lt (tgt := 39) hx hb dX6_next_2 (by decide) (by omega) (fun h_1 => ?_) (fun h_1 => ?_)
  · refine xi_bipush hx hb dX6_next_39 (by decide +kernel) ?_
    have hPc := hP.sub (ws' := []) [] rfl
    refine xc_l (va_runS (As := [.int (iI (-2))]) (rest := []) ⟨hx, hb, hml, hown, hts⟩ (c_X6_longRefusal l D cyI cyJ cyO (-2) (by first | exact h_x | assumption | omega)) (va_cwS 1 hts gX6_next_X6_longRefusal rfl rfl rfl (by decide +kernel) ⟨Nat.le_of_ble_eq_true rfl, Nat.le_of_ble_eq_true rfl⟩) (xpS hPc hK) rfl rfl hl.1 rfl (lv_room (Nat.le_of_ble_eq_true rfl)) dX6_next_41 ⟨Nat.le_of_ble_eq_true rfl, Nat.le_of_ble_eq_true rfl⟩) ?_
    exact W.lret (v := lI (-9223372036854775808 - (-2))) hx hb hr (fun t_ ht_ _ => ⟨congrArg (fun z => Outcome.returned (some (Value.long (lI z)))) (show (-9223372036854775808 - (-2)) = (if (1 ≤ mm ∧ mm ≤ 20) ∧ (1 ≤ ss ∧ ss ≤ 60) ∧ (0 ≤ k ∧ k ≤ mm) ∧ (w = 0 ∨ w = 1) then (if ex < ss then -9223372036854775805 else if 20 < ex then -9223372036854775804 else frac (chI (ss - 1 + k) k * chI (ex - ss + mm - k) (mm - k)) (chI (ex + mm) mm) w) else -9223372036854775806) from by first | rfl | ((repeat (first | rw [if_pos (by omega)] | rw [if_neg (by omega)])); done) | ((repeat (first | rw [if_pos (by omega)] | rw [if_neg (by omega)])); rfl) | omega), ht_⟩) (fun _ h9 => absurd h9 List.not_mem_nil) dX6_next_44
  · refine lv_iload_n hx hb dX6_next_5 rfl (lv_at hl 1 rfl) ?_
    refine xi_bipush hx hb dX6_next_6 (by decide +kernel) ?_
    refine xb_icmp_gt (tgt := 39) hx hb dX6_next_8 (by decide) (by omega) (fun h_2 => ?_) (fun h_2 => ?_)
    · refine xi_bipush hx hb dX6_next_39 (by decide +kernel) ?_
      have hPc := hP.sub (ws' := []) [] rfl
      refine xc_l (va_runS (As := [.int (iI (-2))]) (rest := []) ⟨hx, hb, hml, hown, hts⟩ (c_X6_longRefusal l D cyI cyJ cyO (-2) (by first | exact h_x | assumption | omega)) (va_cwS 1 hts gX6_next_X6_longRefusal rfl rfl rfl (by decide +kernel) ⟨Nat.le_of_ble_eq_true rfl, Nat.le_of_ble_eq_true rfl⟩) (xpS hPc hK) rfl rfl hl.1 rfl (lv_room (Nat.le_of_ble_eq_true rfl)) dX6_next_41 ⟨Nat.le_of_ble_eq_true rfl, Nat.le_of_ble_eq_true rfl⟩) ?_
      exact W.lret (v := lI (-9223372036854775808 - (-2))) hx hb hr (fun t_ ht_ _ => ⟨congrArg (fun z => Outcome.returned (some (Value.long (lI z)))) (show (-9223372036854775808 - (-2)) = (if (1 ≤ mm ∧ mm ≤ 20) ∧ (1 ≤ ss ∧ ss ≤ 60) ∧ (0 ≤ k ∧ k ≤ mm) ∧ (w = 0 ∨ w = 1) then (if ex < ss then -9223372036854775805 else if 20 < ex then -9223372036854775804 else frac (chI (ss - 1 + k) k * chI (ex - ss + mm - k) (mm - k)) (chI (ex + mm) mm) w) else -9223372036854775806) from by first | rfl | ((repeat (first | rw [if_pos (by omega)] | rw [if_neg (by omega)])); done) | ((repeat (first | rw [if_pos (by omega)] | rw [if_neg (by omega)])); rfl) | omega), ht_⟩) (fun _ h9 => absurd h9 List.not_mem_nil) dX6_next_44
    · refine lv_iload_n hx hb dX6_next_11 rfl (lv_at hl 2 rfl) ?_
      refine xi_const hx hb dX6_next_12 ?_
      refine xb_icmp_lt (tgt := 39) hx hb dX6_next_13 (by decide) (by omega) (fun h_3 => ?_) (fun h_3 => ?_)
      · refine xi_bipush hx hb dX6_next_39 (by decide +kernel) ?_
        have hPc := hP.sub (ws' := []) [] rfl
        refine xc_l (va_runS (As := [.int (iI (-2))]) (rest := []) ⟨hx, hb, hml, hown, hts⟩ (c_X6_longRefusal l D cyI cyJ cyO (-2) (by first | exact h_x | assumption | omega)) (va_cwS 1 hts gX6_next_X6_longRefusal rfl rfl rfl (by decide +kernel) ⟨Nat.le_of_ble_eq_true rfl, Nat.le_of_ble_eq_true rfl⟩) (xpS hPc hK) rfl rfl hl.1 rfl (lv_room (Nat.le_of_ble_eq_true rfl)) dX6_next_41 ⟨Nat.le_of_ble_eq_true rfl, Nat.le_of_ble_eq_true rfl⟩) ?_
        exact W.lret (v := lI (-9223372036854775808 - (-2))) hx hb hr (fun t_ ht_ _ => ⟨congrArg (fun z => Outcome.returned (some (Value.long (lI z)))) (show (-9223372036854775808 - (-2)) = (if (1 ≤ mm ∧ mm ≤ 20) ∧ (1 ≤ ss ∧ ss ≤ 60) ∧ (0 ≤ k ∧ k ≤ mm) ∧ (w = 0 ∨ w = 1) then (if ex < ss then -9223372036854775805 else if 20 < ex then -9223372036854775804 else frac (chI (ss - 1 + k) k * chI (ex - ss + mm - k) (mm - k)) (chI (ex + mm) mm) w) else -9223372036854775806) from by first | rfl | ((repeat (first | rw [if_pos (by omega)] | rw [if_neg (by omega)])); done) | ((repeat (first | rw [if_pos (by omega)] | rw [if_neg (by omega)])); rfl) | omega), ht_⟩) (fun _ h9 => absurd h9 List.not_mem_nil) dX6_next_44
      · refine lv_iload_n hx hb dX6_next_16 rfl (lv_at hl 2 rfl) ?_
        refine xi_bipush hx hb dX6_next_17 (by decide +kernel) ?_
        refine xb_icmp_gt (tgt := 39) hx hb dX6_next_19 (by decide) (by omega) (fun h_4 => ?_) (fun h_4 => ?_)
        · refine xi_bipush hx hb dX6_next_39 (by decide +kernel) ?_
          have hPc := hP.sub (ws' := []) [] rfl
          refine xc_l (va_runS (As := [.int (iI (-2))]) (rest := []) ⟨hx, hb, hml, hown, hts⟩ (c_X6_longRefusal l D cyI cyJ cyO (-2) (by first | exact h_x | assumption | omega)) (va_cwS 1 hts gX6_next_X6_longRefusal rfl rfl rfl (by decide +kernel) ⟨Nat.le_of_ble_eq_true rfl, Nat.le_of_ble_eq_true rfl⟩) (xpS hPc hK) rfl rfl hl.1 rfl (lv_room (Nat.le_of_ble_eq_true rfl)) dX6_next_41 ⟨Nat.le_of_ble_eq_true rfl, Nat.le_of_ble_eq_true rfl⟩) ?_
          exact W.lret (v := lI (-9223372036854775808 - (-2))) hx hb hr (fun t_ ht_ _ => ⟨congrArg (fun z => Outcome.returned (some (Value.long (lI z)))) (show (-9223372036854775808 - (-2)) = (if (1 ≤ mm ∧ mm ≤ 20) ∧ (1 ≤ ss ∧ ss ≤ 60) ∧ (0 ≤ k ∧ k ≤ mm) ∧ (w = 0 ∨ w = 1) then (if ex < ss then -9223372036854775805 else if 20 < ex then -9223372036854775804 else frac (chI (ss - 1 + k) k * chI (ex - ss + mm - k) (mm - k)) (chI (ex + mm) mm) w) else -9223372036854775806) from by first | rfl | ((repeat (first | rw [if_pos (by omega)] | rw [if_neg (by omega)])); done) | ((repeat (first | rw [if_pos (by omega)] | rw [if_neg (by omega)])); rfl) | omega), ht_⟩) (fun _ h9 => absurd h9 List.not_mem_nil) dX6_next_44
        · refine lv_iload_n hx hb dX6_next_22 rfl (lv_at hl 3 rfl) ?_
          refine xb_if_lt (tgt := 39) hx hb dX6_next_23 (by decide) (by omega) (fun h_5 => ?_) (fun h_5 => ?_)
          · refine xi_bipush hx hb dX6_next_39 (by decide +kernel) ?_
            have hPc := hP.sub (ws' := []) [] rfl
            refine xc_l (va_runS (As := [.int (iI (-2))]) (rest := []) ⟨hx, hb, hml, hown, hts⟩ (c_X6_longRefusal l D cyI cyJ cyO (-2) (by first | exact h_x | assumption | omega)) (va_cwS 1 hts gX6_next_X6_longRefusal rfl rfl rfl (by decide +kernel) ⟨Nat.le_of_ble_eq_true rfl, Nat.le_of_ble_eq_true rfl⟩) (xpS hPc hK) rfl rfl hl.1 rfl (lv_room (Nat.le_of_ble_eq_true rfl)) dX6_next_41 ⟨Nat.le_of_ble_eq_true rfl, Nat.le_of_ble_eq_true rfl⟩) ?_
            exact W.lret (v := lI (-9223372036854775808 - (-2))) hx hb hr (fun t_ ht_ _ => ⟨congrArg (fun z => Outcome.returned (some (Value.long (lI z)))) (show (-9223372036854775808 - (-2)) = (if (1 ≤ mm ∧ mm ≤ 20) ∧ (1 ≤ ss ∧ ss ≤ 60) ∧ (0 ≤ k ∧ k ≤ mm) ∧ (w = 0 ∨ w = 1) then (if ex < ss then -9223372036854775805 else if 20 < ex then -9223372036854775804 else frac (chI (ss - 1 + k) k * chI (ex - ss + mm - k) (mm - k)) (chI (ex + mm) mm) w) else -9223372036854775806) from by first | rfl | ((repeat (first | rw [if_pos (by omega)] | rw [if_neg (by omega)])); done) | ((repeat (first | rw [if_pos (by omega)] | rw [if_neg (by omega)])); rfl) | omega), ht_⟩) (fun _ h9 => absurd h9 List.not_mem_nil) dX6_next_44
          · refine lv_iload_n hx hb dX6_next_26 rfl (lv_at hl 3 rfl) ?_
            refine lv_iload_n hx hb dX6_next_27 rfl (lv_at hl 1 rfl) ?_
            refine xb_icmp_gt (tgt := 39) hx hb dX6_next_28 (by decide) (by omega) (fun h_6 => ?_) (fun h_6 => ?_)
            · refine xi_bipush hx hb dX6_next_39 (by decide +kernel) ?_
              have hPc := hP.sub (ws' := []) [] rfl
              refine xc_l (va_runS (As := [.int (iI (-2))]) (rest := []) ⟨hx, hb, hml, hown, hts⟩ (c_X6_longRefusal l D cyI cyJ cyO (-2) (by first | exact h_x | assumption | omega)) (va_cwS 1 hts gX6_next_X6_longRefusal rfl rfl rfl (by decide +kernel) ⟨Nat.le_of_ble_eq_true rfl, Nat.le_of_ble_eq_true rfl⟩) (xpS hPc hK) rfl rfl hl.1 rfl (lv_room (Nat.le_of_ble_eq_true rfl)) dX6_next_41 ⟨Nat.le_of_ble_eq_true rfl, Nat.le_of_ble_eq_true rfl⟩) ?_
              exact W.lret (v := lI (-9223372036854775808 - (-2))) hx hb hr (fun t_ ht_ _ => ⟨congrArg (fun z => Outcome.returned (some (Value.long (lI z)))) (show (-9223372036854775808 - (-2)) = (if (1 ≤ mm ∧ mm ≤ 20) ∧ (1 ≤ ss ∧ ss ≤ 60) ∧ (0 ≤ k ∧ k ≤ mm) ∧ (w = 0 ∨ w = 1) then (if ex < ss then -9223372036854775805 else if 20 < ex then -9223372036854775804 else frac (chI (ss - 1 + k) k * chI (ex - ss + mm - k) (mm - k)) (chI (ex + mm) mm) w) else -9223372036854775806) from by first | rfl | ((repeat (first | rw [if_pos (by omega)] | rw [if_neg (by omega)])); done) | ((repeat (first | rw [if_pos (by omega)] | rw [if_neg (by omega)])); rfl) | omega), ht_⟩) (fun _ h9 => absurd h9 List.not_mem_nil) dX6_next_44
            · refine lv_iload hx hb dX6_next_31 (lv_at hl 4 rfl) ?_
              have hPc := hP.sub (ws' := []) [] rfl
              refine xc_i (va_runS (As := [.int (iI (w))]) (rest := []) ⟨hx, hb, hml, hown, hts⟩ (c_X6_isEither l D cyI cyJ cyO w (by first | exact h_y | assumption | omega)) (va_cwS 1 hts gX6_next_X6_isEither rfl rfl rfl (by decide +kernel) ⟨Nat.le_of_ble_eq_true rfl, Nat.le_of_ble_eq_true rfl⟩) (xpS hPc hK) rfl rfl hl.1 rfl (lv_room (Nat.le_of_ble_eq_true rfl)) dX6_next_33 ⟨Nat.le_of_ble_eq_true rfl, Nat.le_of_ble_eq_true rfl⟩) ?_
              refine xb_if_neB (tgt := 45) hx hb dX6_next_36 (by decide) (fun h_7 => ?_) (fun h_7 => ?_)
              · refine lv_aload_n hx hb dX6_next_45 rfl (lv_at hl 0 rfl) ?_
                refine va_get (D := D) (ci := 6) (C := RX6) (T := TX6) (N := 10) hx hb hts hcX6 hown hK hP 0 rfl rfl 3 (by decide) (hts (.fieldLink RX6 33 "WallMarks" "counted" "LWallMarks$Counted;") (List.mem_of_getElem? (i := 1) (by decide +kernel))) (fun _ h9 => h9) rfl dX6_next_46 ?_
                refine va_get (D := D) (ci := 0) (C := RX0) (T := TX0) (N := 11) hx hb hts hcX0 hown hK hP 1 rfl rfl 3 (by decide) (hts (.fieldLink RX6 170 "WallMarks$Counted" "exacts" "I") (List.mem_of_getElem? (i := 2) (by decide +kernel))) (fun _ h9 => h9) rfl dX6_next_49 ?_
                refine lv_istore (lv' := [(5, .int (iI (ex))), (0, .ref qW), (1, .int (iI (mm))), (2, .int (iI (ss))), (3, .int (iI (k))), (4, .int (iI (w)))]) hx hb dX6_next_52 hl (by decide) rfl (fun ls hl => ?_)
                refine lv_iload hx hb dX6_next_54 (lv_at hl 0 rfl) ?_
                refine lv_iload_n hx hb dX6_next_56 rfl (lv_at hl 3 rfl) ?_
                refine xb_icmp_ge (tgt := 66) hx hb dX6_next_57 (by decide) (by omega) (fun h_8 => ?_) (fun h_8 => ?_)
                · refine lv_iload hx hb dX6_next_66 (lv_at hl 0 rfl) ?_
                  refine xi_bipush hx hb dX6_next_68 (by decide +kernel) ?_
                  refine xb_icmp_le (tgt := 79) hx hb dX6_next_70 (by decide) (by omega) (fun h_9 => ?_) (fun h_9 => ?_)
                  · refine lv_iload_n hx hb dX6_next_79 rfl (lv_at hl 3 rfl) ?_
                    refine xi_const hx hb dX6_next_80 ?_
                    refine xi_sub hx hb dX6_next_81 ?_
                    refine lv_iload_n hx hb dX6_next_82 rfl (lv_at hl 4 rfl) ?_
                    refine xi_add hx hb dX6_next_83 ?_
                    refine lv_iload_n hx hb dX6_next_84 rfl (lv_at hl 4 rfl) ?_
                    have hf_10 := chI_in (n := ((ss - 1) + k)) (k := k) (by omega)
                    have hf_11 := chI_pos (n := ((ss - 1) + k)) (k := k) (by omega)
                    have hPc := hP.sub (ws' := []) [] rfl
                    refine xc_l (va_runS (As := [.int (iI ((ss - 1) + k)), .int (iI (k))]) (rest := []) ⟨hx, hb, hml, hown, hts⟩ (c_X6_choices l D cyI cyJ cyO ((ss - 1) + k) k (by first | exact h_k | assumption | omega) (by first | exact h_n | assumption | omega)) (va_cwS 2 hts gX6_next_X6_choices rfl rfl rfl (by decide +kernel) ⟨Nat.le_of_ble_eq_true rfl, Nat.le_of_ble_eq_true rfl⟩) (xpS hPc hK) rfl rfl hl.1 rfl (lv_room (Nat.le_of_ble_eq_true rfl)) dX6_next_85 ⟨Nat.le_of_ble_eq_true rfl, Nat.le_of_ble_eq_true rfl⟩) ?_
                    refine lv_iload hx hb dX6_next_88 (lv_at hl 0 rfl) ?_
                    refine lv_iload_n hx hb dX6_next_90 rfl (lv_at hl 3 rfl) ?_
                    refine xi_sub hx hb dX6_next_91 ?_
                    refine lv_iload_n hx hb dX6_next_92 rfl (lv_at hl 2 rfl) ?_
                    refine xi_add hx hb dX6_next_93 ?_
                    refine lv_iload_n hx hb dX6_next_94 rfl (lv_at hl 4 rfl) ?_
                    refine xi_sub hx hb dX6_next_95 ?_
                    refine lv_iload_n hx hb dX6_next_96 rfl (lv_at hl 2 rfl) ?_
                    refine lv_iload_n hx hb dX6_next_97 rfl (lv_at hl 4 rfl) ?_
                    refine xi_sub hx hb dX6_next_98 ?_
                    have hf_12 := chI_in (n := (((ex - ss) + mm) - k)) (k := (mm - k)) (by omega)
                    have hf_13 := chI_pos (n := (((ex - ss) + mm) - k)) (k := (mm - k)) (by omega)
                    have hPc := hP.sub (ws' := []) [] rfl
                    refine xc_l (va_runS (As := [.int (iI (((ex - ss) + mm) - k)), .int (iI (mm - k))]) (rest := [.long (lI (chI ((ss - 1) + k) k))]) ⟨hx, hb, hml, hown, hts⟩ (c_X6_choices l D cyI cyJ cyO (((ex - ss) + mm) - k) (mm - k) (by first | exact h_k | assumption | omega) (by first | exact h_n | assumption | omega)) (va_cwS 2 hts gX6_next_X6_choices rfl rfl rfl (by decide +kernel) ⟨Nat.le_of_ble_eq_true rfl, Nat.le_of_ble_eq_true rfl⟩) (xpS hPc hK) rfl rfl hl.1 rfl (lv_room (Nat.le_of_ble_eq_true rfl)) dX6_next_99 ⟨Nat.le_of_ble_eq_true rfl, Nat.le_of_ble_eq_true rfl⟩) ?_
                    refine xl_mul hx hb dX6_next_102 ?_
                    refine lv_lstore (lv' := [(6, .long (lI ((chI ((ss - 1) + k) k) * (chI (((ex - ss) + mm) - k) (mm - k))))), (5, .int (iI (ex))), (0, .ref qW), (1, .int (iI (mm))), (2, .int (iI (ss))), (3, .int (iI (k))), (4, .int (iI (w)))]) hx hb dX6_next_103 hl (by decide) rfl (fun ls hl => ?_)
                    refine lv_lload hx hb dX6_next_105 (lv_at hl 0 rfl) ?_
                    refine lv_iload hx hb dX6_next_107 (lv_at hl 1 rfl) ?_
                    refine lv_iload_n hx hb dX6_next_109 rfl (lv_at hl 3 rfl) ?_
                    refine xi_add hx hb dX6_next_110 ?_
                    refine lv_iload_n hx hb dX6_next_111 rfl (lv_at hl 3 rfl) ?_
                    have hf_14 := chI_in (n := (ex + mm)) (k := mm) (by omega)
                    have hf_15 := chI_pos (n := (ex + mm)) (k := mm) (by omega)
                    have hPc := hP.sub (ws' := []) [] rfl
                    refine xc_l (va_runS (As := [.int (iI (ex + mm)), .int (iI (mm))]) (rest := [.long (lI ((chI ((ss - 1) + k) k) * (chI (((ex - ss) + mm) - k) (mm - k))))]) ⟨hx, hb, hml, hown, hts⟩ (c_X6_choices l D cyI cyJ cyO (ex + mm) mm (by first | exact h_k | assumption | omega) (by first | exact h_n | assumption | omega)) (va_cwS 2 hts gX6_next_X6_choices rfl rfl rfl (by decide +kernel) ⟨Nat.le_of_ble_eq_true rfl, Nat.le_of_ble_eq_true rfl⟩) (xpS hPc hK) rfl rfl hl.1 rfl (lv_room (Nat.le_of_ble_eq_true rfl)) dX6_next_112 ⟨Nat.le_of_ble_eq_true rfl, Nat.le_of_ble_eq_true rfl⟩) ?_
                    refine lv_iload hx hb dX6_next_115 (lv_at hl 6 rfl) ?_
                    have hm5 := chI_mul (n1 := ss - 1 + k) (k1 := k) (n2 := ex - ss + mm - k) (k2 := mm - k) (by omega) (by omega) (by omega)
                    have hPc := hP.sub (ws' := []) [] rfl
                    refine xc_l (va_runS (As := [.long (lI ((chI ((ss - 1) + k) k) * (chI (((ex - ss) + mm) - k) (mm - k)))), .long (lI (chI (ex + mm) mm)), .int (iI (w))]) (rest := []) ⟨hx, hb, hml, hown, hts⟩ (c_X6_fraction l D cyI cyJ cyO ((chI ((ss - 1) + k) k) * (chI (((ex - ss) + mm) - k) (mm - k))) (chI (ex + mm) mm) w (by first | exact h_a | assumption | omega) (by first | exact h_b | assumption | omega) (by first | exact h_w | assumption | omega)) (va_cwS 3 hts gX6_next_X6_fraction rfl rfl rfl (by decide +kernel) ⟨Nat.le_of_ble_eq_true rfl, Nat.le_of_ble_eq_true rfl⟩) (xpS hPc hK) rfl rfl hl.1 rfl (lv_room (Nat.le_of_ble_eq_true rfl)) dX6_next_117 ⟨Nat.le_of_ble_eq_true rfl, Nat.le_of_ble_eq_true rfl⟩) ?_
                    exact W.lret (v := lI (frac ((chI ((ss - 1) + k) k) * (chI (((ex - ss) + mm) - k) (mm - k))) (chI (ex + mm) mm) w)) hx hb hr (fun t_ ht_ _ => ⟨congrArg (fun z => Outcome.returned (some (Value.long (lI z)))) (show (frac ((chI ((ss - 1) + k) k) * (chI (((ex - ss) + mm) - k) (mm - k))) (chI (ex + mm) mm) w) = (if (1 ≤ mm ∧ mm ≤ 20) ∧ (1 ≤ ss ∧ ss ≤ 60) ∧ (0 ≤ k ∧ k ≤ mm) ∧ (w = 0 ∨ w = 1) then (if ex < ss then -9223372036854775805 else if 20 < ex then -9223372036854775804 else frac (chI (ss - 1 + k) k * chI (ex - ss + mm - k) (mm - k)) (chI (ex + mm) mm) w) else -9223372036854775806) from by first | rfl | ((repeat (first | rw [if_pos (by omega)] | rw [if_neg (by omega)])); done) | ((repeat (first | rw [if_pos (by omega)] | rw [if_neg (by omega)])); rfl) | omega), ht_⟩) (fun _ h9 => absurd h9 List.not_mem_nil) dX6_next_120
                  · refine xi_bipush hx hb dX6_next_73 (by decide +kernel) ?_
                    have hPc := hP.sub (ws' := []) [] rfl
                    refine xc_l (va_runS (As := [.int (iI (-4))]) (rest := []) ⟨hx, hb, hml, hown, hts⟩ (c_X6_longRefusal l D cyI cyJ cyO (-4) (by first | exact h_x | assumption | omega)) (va_cwS 1 hts gX6_next_X6_longRefusal rfl rfl rfl (by decide +kernel) ⟨Nat.le_of_ble_eq_true rfl, Nat.le_of_ble_eq_true rfl⟩) (xpS hPc hK) rfl rfl hl.1 rfl (lv_room (Nat.le_of_ble_eq_true rfl)) dX6_next_75 ⟨Nat.le_of_ble_eq_true rfl, Nat.le_of_ble_eq_true rfl⟩) ?_
                    exact W.lret (v := lI (-9223372036854775808 - (-4))) hx hb hr (fun t_ ht_ _ => ⟨congrArg (fun z => Outcome.returned (some (Value.long (lI z)))) (show (-9223372036854775808 - (-4)) = (if (1 ≤ mm ∧ mm ≤ 20) ∧ (1 ≤ ss ∧ ss ≤ 60) ∧ (0 ≤ k ∧ k ≤ mm) ∧ (w = 0 ∨ w = 1) then (if ex < ss then -9223372036854775805 else if 20 < ex then -9223372036854775804 else frac (chI (ss - 1 + k) k * chI (ex - ss + mm - k) (mm - k)) (chI (ex + mm) mm) w) else -9223372036854775806) from by first | rfl | ((repeat (first | rw [if_pos (by omega)] | rw [if_neg (by omega)])); done) | ((repeat (first | rw [if_pos (by omega)] | rw [if_neg (by omega)])); rfl) | omega), ht_⟩) (fun _ h9 => absurd h9 List.not_mem_nil) dX6_next_78
                · refine xi_bipush hx hb dX6_next_60 (by decide +kernel) ?_
                  have hPc := hP.sub (ws' := []) [] rfl
                  refine xc_l (va_runS (As := [.int (iI (-3))]) (rest := []) ⟨hx, hb, hml, hown, hts⟩ (c_X6_longRefusal l D cyI cyJ cyO (-3) (by first | exact h_x | assumption | omega)) (va_cwS 1 hts gX6_next_X6_longRefusal rfl rfl rfl (by decide +kernel) ⟨Nat.le_of_ble_eq_true rfl, Nat.le_of_ble_eq_true rfl⟩) (xpS hPc hK) rfl rfl hl.1 rfl (lv_room (Nat.le_of_ble_eq_true rfl)) dX6_next_62 ⟨Nat.le_of_ble_eq_true rfl, Nat.le_of_ble_eq_true rfl⟩) ?_
                  exact W.lret (v := lI (-9223372036854775808 - (-3))) hx hb hr (fun t_ ht_ _ => ⟨congrArg (fun z => Outcome.returned (some (Value.long (lI z)))) (show (-9223372036854775808 - (-3)) = (if (1 ≤ mm ∧ mm ≤ 20) ∧ (1 ≤ ss ∧ ss ≤ 60) ∧ (0 ≤ k ∧ k ≤ mm) ∧ (w = 0 ∨ w = 1) then (if ex < ss then -9223372036854775805 else if 20 < ex then -9223372036854775804 else frac (chI (ss - 1 + k) k * chI (ex - ss + mm - k) (mm - k)) (chI (ex + mm) mm) w) else -9223372036854775806) from by first | rfl | ((repeat (first | rw [if_pos (by omega)] | rw [if_neg (by omega)])); done) | ((repeat (first | rw [if_pos (by omega)] | rw [if_neg (by omega)])); rfl) | omega), ht_⟩) (fun _ h9 => absurd h9 List.not_mem_nil) dX6_next_65
              · refine xi_bipush hx hb dX6_next_39 (by decide +kernel) ?_
                have hPc := hP.sub (ws' := []) [] rfl
                refine xc_l (va_runS (As := [.int (iI (-2))]) (rest := []) ⟨hx, hb, hml, hown, hts⟩ (c_X6_longRefusal l D cyI cyJ cyO (-2) (by first | exact h_x | assumption | omega)) (va_cwS 1 hts gX6_next_X6_longRefusal rfl rfl rfl (by decide +kernel) ⟨Nat.le_of_ble_eq_true rfl, Nat.le_of_ble_eq_true rfl⟩) (xpS hPc hK) rfl rfl hl.1 rfl (lv_room (Nat.le_of_ble_eq_true rfl)) dX6_next_41 ⟨Nat.le_of_ble_eq_true rfl, Nat.le_of_ble_eq_true rfl⟩) ?_
                exact W.lret (v := lI (-9223372036854775808 - (-2))) hx hb hr (fun t_ ht_ _ => ⟨congrArg (fun z => Outcome.returned (some (Value.long (lI z)))) (show (-9223372036854775808 - (-2)) = (if (1 ≤ mm ∧ mm ≤ 20) ∧ (1 ≤ ss ∧ ss ≤ 60) ∧ (0 ≤ k ∧ k ≤ mm) ∧ (w = 0 ∨ w = 1) then (if ex < ss then -9223372036854775805 else if 20 < ex then -9223372036854775804 else frac (chI (ss - 1 + k) k * chI (ex - ss + mm - k) (mm - k)) (chI (ex + mm) mm) w) else -9223372036854775806) from by first | rfl | ((repeat (first | rw [if_pos (by omega)] | rw [if_neg (by omega)])); done) | ((repeat (first | rw [if_pos (by omega)] | rw [if_neg (by omega)])); rfl) | omega), ht_⟩) (fun _ h9 => absurd h9 List.not_mem_nil) dX6_next_44
set_option maxHeartbeats 1000000 in
set_option maxRecDepth 100000 in
theorem c_X6_between (l : Launch) (D : va_G) (cyI cyJ cyO : ClassId) (qW : Nat) (qT : Nat) (qA : Nat) (qK : Nat) (qC : Nat) (qE : Nat) (qI : Nat) (qF : Nat) (qH : Nat) (qO : Nat) (fi : Int) (qCy : Nat) (qCl : Nat) (qCb : Nat) (ex : Int) (be : Int) (op : Int) (es : Int) (ge : Int) (rc : Int) (lr : Int) (lw : Int) (a : Int) (i : Int) (j : Int) (w : Int) (h_ex : 0 ≤ ex ∧ ex ≤ 60) (h_be : 0 ≤ be ∧ be ≤ 60) (h_op : 0 ≤ op ∧ op ≤ 60) (h_a : -2147483648 ≤ a ∧ a ≤ 2147483647) (h_i : -2147483648 ≤ i ∧ i ≤ 2147483647) (h_j : -2147483648 ≤ j ∧ j ≤ 2147483647) (h_w : -2147483648 ≤ w ∧ w ≤ 2147483647) : Met l yX6_between wsX6_between ({ frames := 2, cells := 0, slots := 0, locals := 56 }) (va_Pc [.ref qW, .int (iI (a)), .int (iI (i)), .int (iI (j)), .int (iI (w))] (xR D vwCl [(qW, .inr (6, [.ref qT, .ref qA, .ref qK, .ref qC, .ref qE, .ref qI, .ref qF, .ref qH, .ref qO, .int (iI (fi))])), (qC, .inr (0, [.ref qCy, .ref qCl, .ref qCb, .int (iI (ex)), .int (iI (be)), .int (iI (op)), .int (iI (es)), .int (iI (ge)), .int (iI (rc)), .int (iI (lr)), .int (iI (lw))]))] (xT cyI cyJ cyO))) (xq (some (.long (lI (if (0 ≤ a ∧ a ≤ 16) ∧ 1 ≤ i ∧ i < j ∧ j ≤ 60 ∧ (w = 0 ∨ w = 1) then (if ex < j then -9223372036854775805 else if 15 < ex then -9223372036854775804 else frac (goF ex a i j) (16 ^ ex.toNat) w) else -9223372036854775806))))) 0 0 (fun _ => False) := by
  refine Met.ofW (cc := cX6_between) (maxL := 6) (ret := (some .long)) (by decide) rfl ?_
  intro p e s m args below meth c s₁ B hml hv
  obtain ⟨rfl, hP, hK⟩ := hv
  have hx := B.exec
  have hb := B.bytes
  have hr := B.returns
  have hts := atoms_spec (ws := wsX6_between) B.pre
  have hown : s.vm.findClass RX6 = some m.cls := findClass_of_methodNamed B.named
  have hlocks := B.notSynchronized
  have hcX0 : ∀ w ∈ wsX00, w ∈ wsX6_between := fun _ h => List.mem_cons_of_mem _ (List.mem_append_right _ h)
  have hcX6 : ∀ w ∈ wsX60, w ∈ wsX6_between := fun _ h => List.mem_cons_of_mem _ (List.mem_append_left _ (List.mem_append_right _ h))
  have hP : va_P D vwCl [(qW, .inr (6, [.ref qT, .ref qA, .ref qK, .ref qC, .ref qE, .ref qI, .ref qF, .ref qH, .ref qO, .int (iI (fi))])), (qC, .inr (0, [.ref qCy, .ref qCl, .ref qCb, .int (iI (ex)), .int (iI (be)), .int (iI (op)), .int (iI (es)), .int (iI (ge)), .int (iI (rc)), .int (iI (lr)), .int (iI (lw))]))] s.heap := hP
  have hl := lv_entry ([.ref qW, .int (iI (a)), .int (iI (i)), .int (iI (j)), .int (iI (w))]) (n := 6) (Nat.le_of_ble_eq_true rfl)
  rw [lg_entry_eq]
  generalize (lg_sl ([.ref qW, .int (iI (a)), .int (iI (i)), .int (iI (j)), .int (iI (w))]) ++ List.replicate (6 - (lg_sl ([.ref qW, .int (iI (a)), .int (iI (i)), .int (iI (j)), .int (iI (w))])).length) Slot.unset).toArray = ls at hl ⊢
  have hl : lv_has ls 6 [(0, .ref qW), (1, .int (iI (a))), (2, .int (iI (i))), (3, .int (iI (j))), (4, .int (iI (w)))] := hl
  refine lv_iload_n hx hb dX6_between_0 rfl (lv_at hl 1 rfl) ?_
  have hPc := hP.sub (ws' := []) [] rfl
  refine xc_i (va_runS (As := [.int (iI (a))]) (rest := []) ⟨hx, hb, hml, hown, hts⟩ (c_X6_isSixteenths l D cyI cyJ cyO a (by first | exact h_y | assumption | omega)) (va_cwS 1 hts gX6_between_X6_isSixteenths rfl rfl rfl (by decide +kernel) ⟨Nat.le_of_ble_eq_true rfl, Nat.le_of_ble_eq_true rfl⟩) (xpS hPc hK) rfl rfl hl.1 rfl (lv_room (Nat.le_of_ble_eq_true rfl)) dX6_between_1 ⟨Nat.le_of_ble_eq_true rfl, Nat.le_of_ble_eq_true rfl⟩) ?_
  refine xb_if_eqB (tgt := 37) hx hb dX6_between_4 (by decide) (fun h_1 => ?_) (fun h_1 => ?_)
  · refine xi_bipush hx hb dX6_between_37 (by decide +kernel) ?_
    have hPc := hP.sub (ws' := []) [] rfl
    refine xc_l (va_runS (As := [.int (iI (-2))]) (rest := []) ⟨hx, hb, hml, hown, hts⟩ (c_X6_longRefusal l D cyI cyJ cyO (-2) (by first | exact h_x | assumption | omega)) (va_cwS 1 hts gX6_between_X6_longRefusal rfl rfl rfl (by decide +kernel) ⟨Nat.le_of_ble_eq_true rfl, Nat.le_of_ble_eq_true rfl⟩) (xpS hPc hK) rfl rfl hl.1 rfl (lv_room (Nat.le_of_ble_eq_true rfl)) dX6_between_39 ⟨Nat.le_of_ble_eq_true rfl, Nat.le_of_ble_eq_true rfl⟩) ?_
    exact W.lret (v := lI (-9223372036854775808 - (-2))) hx hb hr (fun t_ ht_ _ => ⟨congrArg (fun z => Outcome.returned (some (Value.long (lI z)))) (show (-9223372036854775808 - (-2)) = (if (0 ≤ a ∧ a ≤ 16) ∧ 1 ≤ i ∧ i < j ∧ j ≤ 60 ∧ (w = 0 ∨ w = 1) then (if ex < j then -9223372036854775805 else if 15 < ex then -9223372036854775804 else frac (goF ex a i j) (16 ^ ex.toNat) w) else -9223372036854775806) from by first | rfl | ((repeat (first | rw [if_pos (by omega)] | rw [if_neg (by omega)])); done) | ((repeat (first | rw [if_pos (by omega)] | rw [if_neg (by omega)])); rfl) | omega), ht_⟩) (fun _ h9 => absurd h9 List.not_mem_nil) dX6_between_42
  · refine lv_iload_n hx hb dX6_between_7 rfl (lv_at hl 2 rfl) ?_
    refine xi_const hx hb dX6_between_8 ?_
    refine xb_icmp_lt (tgt := 37) hx hb dX6_between_9 (by decide) (by omega) (fun h_2 => ?_) (fun h_2 => ?_)
    · refine xi_bipush hx hb dX6_between_37 (by decide +kernel) ?_
      have hPc := hP.sub (ws' := []) [] rfl
      refine xc_l (va_runS (As := [.int (iI (-2))]) (rest := []) ⟨hx, hb, hml, hown, hts⟩ (c_X6_longRefusal l D cyI cyJ cyO (-2) (by first | exact h_x | assumption | omega)) (va_cwS 1 hts gX6_between_X6_longRefusal rfl rfl rfl (by decide +kernel) ⟨Nat.le_of_ble_eq_true rfl, Nat.le_of_ble_eq_true rfl⟩) (xpS hPc hK) rfl rfl hl.1 rfl (lv_room (Nat.le_of_ble_eq_true rfl)) dX6_between_39 ⟨Nat.le_of_ble_eq_true rfl, Nat.le_of_ble_eq_true rfl⟩) ?_
      exact W.lret (v := lI (-9223372036854775808 - (-2))) hx hb hr (fun t_ ht_ _ => ⟨congrArg (fun z => Outcome.returned (some (Value.long (lI z)))) (show (-9223372036854775808 - (-2)) = (if (0 ≤ a ∧ a ≤ 16) ∧ 1 ≤ i ∧ i < j ∧ j ≤ 60 ∧ (w = 0 ∨ w = 1) then (if ex < j then -9223372036854775805 else if 15 < ex then -9223372036854775804 else frac (goF ex a i j) (16 ^ ex.toNat) w) else -9223372036854775806) from by first | rfl | ((repeat (first | rw [if_pos (by omega)] | rw [if_neg (by omega)])); done) | ((repeat (first | rw [if_pos (by omega)] | rw [if_neg (by omega)])); rfl) | omega), ht_⟩) (fun _ h9 => absurd h9 List.not_mem_nil) dX6_between_42
    · refine lv_iload_n hx hb dX6_between_12 rfl (lv_at hl 2 rfl) ?_
      refine xi_bipush hx hb dX6_between_13 (by decide +kernel) ?_
      refine xb_icmp_gt (tgt := 37) hx hb dX6_between_15 (by decide) (by omega) (fun h_3 => ?_) (fun h_3 => ?_)
      · refine xi_bipush hx hb dX6_between_37 (by decide +kernel) ?_
        have hPc := hP.sub (ws' := []) [] rfl
        refine xc_l (va_runS (As := [.int (iI (-2))]) (rest := []) ⟨hx, hb, hml, hown, hts⟩ (c_X6_longRefusal l D cyI cyJ cyO (-2) (by first | exact h_x | assumption | omega)) (va_cwS 1 hts gX6_between_X6_longRefusal rfl rfl rfl (by decide +kernel) ⟨Nat.le_of_ble_eq_true rfl, Nat.le_of_ble_eq_true rfl⟩) (xpS hPc hK) rfl rfl hl.1 rfl (lv_room (Nat.le_of_ble_eq_true rfl)) dX6_between_39 ⟨Nat.le_of_ble_eq_true rfl, Nat.le_of_ble_eq_true rfl⟩) ?_
        exact W.lret (v := lI (-9223372036854775808 - (-2))) hx hb hr (fun t_ ht_ _ => ⟨congrArg (fun z => Outcome.returned (some (Value.long (lI z)))) (show (-9223372036854775808 - (-2)) = (if (0 ≤ a ∧ a ≤ 16) ∧ 1 ≤ i ∧ i < j ∧ j ≤ 60 ∧ (w = 0 ∨ w = 1) then (if ex < j then -9223372036854775805 else if 15 < ex then -9223372036854775804 else frac (goF ex a i j) (16 ^ ex.toNat) w) else -9223372036854775806) from by first | rfl | ((repeat (first | rw [if_pos (by omega)] | rw [if_neg (by omega)])); done) | ((repeat (first | rw [if_pos (by omega)] | rw [if_neg (by omega)])); rfl) | omega), ht_⟩) (fun _ h9 => absurd h9 List.not_mem_nil) dX6_between_42
      · refine lv_iload_n hx hb dX6_between_18 rfl (lv_at hl 3 rfl) ?_
        refine lv_iload_n hx hb dX6_between_19 rfl (lv_at hl 2 rfl) ?_
        refine xb_icmp_le (tgt := 37) hx hb dX6_between_20 (by decide) (by omega) (fun h_4 => ?_) (fun h_4 => ?_)
        · refine xi_bipush hx hb dX6_between_37 (by decide +kernel) ?_
          have hPc := hP.sub (ws' := []) [] rfl
          refine xc_l (va_runS (As := [.int (iI (-2))]) (rest := []) ⟨hx, hb, hml, hown, hts⟩ (c_X6_longRefusal l D cyI cyJ cyO (-2) (by first | exact h_x | assumption | omega)) (va_cwS 1 hts gX6_between_X6_longRefusal rfl rfl rfl (by decide +kernel) ⟨Nat.le_of_ble_eq_true rfl, Nat.le_of_ble_eq_true rfl⟩) (xpS hPc hK) rfl rfl hl.1 rfl (lv_room (Nat.le_of_ble_eq_true rfl)) dX6_between_39 ⟨Nat.le_of_ble_eq_true rfl, Nat.le_of_ble_eq_true rfl⟩) ?_
          exact W.lret (v := lI (-9223372036854775808 - (-2))) hx hb hr (fun t_ ht_ _ => ⟨congrArg (fun z => Outcome.returned (some (Value.long (lI z)))) (show (-9223372036854775808 - (-2)) = (if (0 ≤ a ∧ a ≤ 16) ∧ 1 ≤ i ∧ i < j ∧ j ≤ 60 ∧ (w = 0 ∨ w = 1) then (if ex < j then -9223372036854775805 else if 15 < ex then -9223372036854775804 else frac (goF ex a i j) (16 ^ ex.toNat) w) else -9223372036854775806) from by first | rfl | ((repeat (first | rw [if_pos (by omega)] | rw [if_neg (by omega)])); done) | ((repeat (first | rw [if_pos (by omega)] | rw [if_neg (by omega)])); rfl) | omega), ht_⟩) (fun _ h9 => absurd h9 List.not_mem_nil) dX6_between_42
        · refine lv_iload_n hx hb dX6_between_23 rfl (lv_at hl 3 rfl) ?_
          refine xi_bipush hx hb dX6_between_24 (by decide +kernel) ?_
          refine xb_icmp_gt (tgt := 37) hx hb dX6_between_26 (by decide) (by omega) (fun h_5 => ?_) (fun h_5 => ?_)
          · refine xi_bipush hx hb dX6_between_37 (by decide +kernel) ?_
            have hPc := hP.sub (ws' := []) [] rfl
            refine xc_l (va_runS (As := [.int (iI (-2))]) (rest := []) ⟨hx, hb, hml, hown, hts⟩ (c_X6_longRefusal l D cyI cyJ cyO (-2) (by first | exact h_x | assumption | omega)) (va_cwS 1 hts gX6_between_X6_longRefusal rfl rfl rfl (by decide +kernel) ⟨Nat.le_of_ble_eq_true rfl, Nat.le_of_ble_eq_true rfl⟩) (xpS hPc hK) rfl rfl hl.1 rfl (lv_room (Nat.le_of_ble_eq_true rfl)) dX6_between_39 ⟨Nat.le_of_ble_eq_true rfl, Nat.le_of_ble_eq_true rfl⟩) ?_
            exact W.lret (v := lI (-9223372036854775808 - (-2))) hx hb hr (fun t_ ht_ _ => ⟨congrArg (fun z => Outcome.returned (some (Value.long (lI z)))) (show (-9223372036854775808 - (-2)) = (if (0 ≤ a ∧ a ≤ 16) ∧ 1 ≤ i ∧ i < j ∧ j ≤ 60 ∧ (w = 0 ∨ w = 1) then (if ex < j then -9223372036854775805 else if 15 < ex then -9223372036854775804 else frac (goF ex a i j) (16 ^ ex.toNat) w) else -9223372036854775806) from by first | rfl | ((repeat (first | rw [if_pos (by omega)] | rw [if_neg (by omega)])); done) | ((repeat (first | rw [if_pos (by omega)] | rw [if_neg (by omega)])); rfl) | omega), ht_⟩) (fun _ h9 => absurd h9 List.not_mem_nil) dX6_between_42
          · refine lv_iload hx hb dX6_between_29 (lv_at hl 4 rfl) ?_
            have hPc := hP.sub (ws' := []) [] rfl
            refine xc_i (va_runS (As := [.int (iI (w))]) (rest := []) ⟨hx, hb, hml, hown, hts⟩ (c_X6_isEither l D cyI cyJ cyO w (by first | exact h_y | assumption | omega)) (va_cwS 1 hts gX6_between_X6_isEither rfl rfl rfl (by decide +kernel) ⟨Nat.le_of_ble_eq_true rfl, Nat.le_of_ble_eq_true rfl⟩) (xpS hPc hK) rfl rfl hl.1 rfl (lv_room (Nat.le_of_ble_eq_true rfl)) dX6_between_31 ⟨Nat.le_of_ble_eq_true rfl, Nat.le_of_ble_eq_true rfl⟩) ?_
            refine xb_if_neB (tgt := 43) hx hb dX6_between_34 (by decide) (fun h_6 => ?_) (fun h_6 => ?_)
            · refine lv_aload_n hx hb dX6_between_43 rfl (lv_at hl 0 rfl) ?_
              refine va_get (D := D) (ci := 6) (C := RX6) (T := TX6) (N := 10) hx hb hts hcX6 hown hK hP 0 rfl rfl 3 (by decide) (hts (.fieldLink RX6 33 "WallMarks" "counted" "LWallMarks$Counted;") (List.mem_of_getElem? (i := 1) (by decide +kernel))) (fun _ h9 => h9) rfl dX6_between_44 ?_
              refine va_get (D := D) (ci := 0) (C := RX0) (T := TX0) (N := 11) hx hb hts hcX0 hown hK hP 1 rfl rfl 3 (by decide) (hts (.fieldLink RX6 170 "WallMarks$Counted" "exacts" "I") (List.mem_of_getElem? (i := 2) (by decide +kernel))) (fun _ h9 => h9) rfl dX6_between_47 ?_
              refine lv_istore (lv' := [(5, .int (iI (ex))), (0, .ref qW), (1, .int (iI (a))), (2, .int (iI (i))), (3, .int (iI (j))), (4, .int (iI (w)))]) hx hb dX6_between_50 hl (by decide) rfl (fun ls hl => ?_)
              refine lv_iload hx hb dX6_between_52 (lv_at hl 0 rfl) ?_
              refine lv_iload_n hx hb dX6_between_54 rfl (lv_at hl 4 rfl) ?_
              refine xb_icmp_ge (tgt := 64) hx hb dX6_between_55 (by decide) (by omega) (fun h_7 => ?_) (fun h_7 => ?_)
              · refine lv_iload hx hb dX6_between_64 (lv_at hl 0 rfl) ?_
                refine xi_bipush hx hb dX6_between_66 (by decide +kernel) ?_
                refine xb_icmp_le (tgt := 77) hx hb dX6_between_68 (by decide) (by omega) (fun h_8 => ?_) (fun h_8 => ?_)
                · refine lv_iload hx hb dX6_between_77 (lv_at hl 0 rfl) ?_
                  refine lv_iload_n hx hb dX6_between_79 rfl (lv_at hl 2 rfl) ?_
                  refine lv_iload_n hx hb dX6_between_80 rfl (lv_at hl 3 rfl) ?_
                  refine lv_iload_n hx hb dX6_between_81 rfl (lv_at hl 4 rfl) ?_
                  have hf_9 := goF_in (n := ex) (a := a) (lo := i) j (by omega) (by omega) (by omega)
                  have hPc := hP.sub (ws' := []) [] rfl
                  refine xc_l (va_runS (As := [.int (iI (ex)), .int (iI (a)), .int (iI (i)), .int (iI (j))]) (rest := []) ⟨hx, hb, hml, hown, hts⟩ (c_X6_timesOver l D cyI cyJ cyO ex a i j (by first | exact h_n | assumption | omega) (by first | exact h_a | assumption | omega) (by first | exact h_lo | assumption | omega) (by first | exact h_hi | assumption | omega)) (va_cwS 4 hts gX6_between_X6_timesOver rfl rfl rfl (by decide +kernel) ⟨Nat.le_of_ble_eq_true rfl, Nat.le_of_ble_eq_true rfl⟩) (xpS hPc hK) rfl rfl hl.1 rfl (lv_room (Nat.le_of_ble_eq_true rfl)) dX6_between_82 ⟨Nat.le_of_ble_eq_true rfl, Nat.le_of_ble_eq_true rfl⟩) ?_
                  refine lv_ldc2 (v := lI (16)) hx hb hown (hts (.constantLong RX6 186 (lI (16))) (List.mem_of_getElem? (i := 3) (by decide +kernel))) dX6_between_85 ?_
                  refine lv_iload hx hb dX6_between_88 (lv_at hl 0 rfl) ?_
                  have hPc := hP.sub (ws' := []) [] rfl
                  refine xc_l (va_runS (As := [.long (lI (16)), .int (iI (ex))]) (rest := [.long (lI (goF ex a i j))]) ⟨hx, hb, hml, hown, hts⟩ (c_X6_power l D cyI cyJ cyO 16 ex (by first | exact h_w | assumption | omega)) (va_cwS 2 hts gX6_between_X6_power rfl rfl rfl (by decide +kernel) ⟨Nat.le_of_ble_eq_true rfl, Nat.le_of_ble_eq_true rfl⟩) (xpS hPc hK) rfl rfl hl.1 rfl (lv_room (Nat.le_of_ble_eq_true rfl)) dX6_between_90 ⟨Nat.le_of_ble_eq_true rfl, Nat.le_of_ble_eq_true rfl⟩) ?_
                  refine lv_iload hx hb dX6_between_93 (lv_at hl 5 rfl) ?_
                  have hp1 := pow_in (b := 16) (n := ex) (by omega) (by omega)
                  have hp2 : (0 : Int) < 16 ^ ex.toNat := Int.pow_pos (by omega)
                  have hPc := hP.sub (ws' := []) [] rfl
                  refine xc_l (va_runS (As := [.long (lI (goF ex a i j)), .long (lI (16 ^ ex.toNat)), .int (iI (w))]) (rest := []) ⟨hx, hb, hml, hown, hts⟩ (c_X6_fraction l D cyI cyJ cyO (goF ex a i j) (16 ^ ex.toNat) w (by first | exact h_a | assumption | omega) (by first | exact h_b | assumption | omega) (by first | exact h_w | assumption | omega)) (va_cwS 3 hts gX6_between_X6_fraction rfl rfl rfl (by decide +kernel) ⟨Nat.le_of_ble_eq_true rfl, Nat.le_of_ble_eq_true rfl⟩) (xpS hPc hK) rfl rfl hl.1 rfl (lv_room (Nat.le_of_ble_eq_true rfl)) dX6_between_95 ⟨Nat.le_of_ble_eq_true rfl, Nat.le_of_ble_eq_true rfl⟩) ?_
                  exact W.lret (v := lI (frac (goF ex a i j) (16 ^ ex.toNat) w)) hx hb hr (fun t_ ht_ _ => ⟨congrArg (fun z => Outcome.returned (some (Value.long (lI z)))) (show (frac (goF ex a i j) (16 ^ ex.toNat) w) = (if (0 ≤ a ∧ a ≤ 16) ∧ 1 ≤ i ∧ i < j ∧ j ≤ 60 ∧ (w = 0 ∨ w = 1) then (if ex < j then -9223372036854775805 else if 15 < ex then -9223372036854775804 else frac (goF ex a i j) (16 ^ ex.toNat) w) else -9223372036854775806) from by first | rfl | ((repeat (first | rw [if_pos (by omega)] | rw [if_neg (by omega)])); done) | ((repeat (first | rw [if_pos (by omega)] | rw [if_neg (by omega)])); rfl) | omega), ht_⟩) (fun _ h9 => absurd h9 List.not_mem_nil) dX6_between_98
                · refine xi_bipush hx hb dX6_between_71 (by decide +kernel) ?_
                  have hPc := hP.sub (ws' := []) [] rfl
                  refine xc_l (va_runS (As := [.int (iI (-4))]) (rest := []) ⟨hx, hb, hml, hown, hts⟩ (c_X6_longRefusal l D cyI cyJ cyO (-4) (by first | exact h_x | assumption | omega)) (va_cwS 1 hts gX6_between_X6_longRefusal rfl rfl rfl (by decide +kernel) ⟨Nat.le_of_ble_eq_true rfl, Nat.le_of_ble_eq_true rfl⟩) (xpS hPc hK) rfl rfl hl.1 rfl (lv_room (Nat.le_of_ble_eq_true rfl)) dX6_between_73 ⟨Nat.le_of_ble_eq_true rfl, Nat.le_of_ble_eq_true rfl⟩) ?_
                  exact W.lret (v := lI (-9223372036854775808 - (-4))) hx hb hr (fun t_ ht_ _ => ⟨congrArg (fun z => Outcome.returned (some (Value.long (lI z)))) (show (-9223372036854775808 - (-4)) = (if (0 ≤ a ∧ a ≤ 16) ∧ 1 ≤ i ∧ i < j ∧ j ≤ 60 ∧ (w = 0 ∨ w = 1) then (if ex < j then -9223372036854775805 else if 15 < ex then -9223372036854775804 else frac (goF ex a i j) (16 ^ ex.toNat) w) else -9223372036854775806) from by first | rfl | ((repeat (first | rw [if_pos (by omega)] | rw [if_neg (by omega)])); done) | ((repeat (first | rw [if_pos (by omega)] | rw [if_neg (by omega)])); rfl) | omega), ht_⟩) (fun _ h9 => absurd h9 List.not_mem_nil) dX6_between_76
              · refine xi_bipush hx hb dX6_between_58 (by decide +kernel) ?_
                have hPc := hP.sub (ws' := []) [] rfl
                refine xc_l (va_runS (As := [.int (iI (-3))]) (rest := []) ⟨hx, hb, hml, hown, hts⟩ (c_X6_longRefusal l D cyI cyJ cyO (-3) (by first | exact h_x | assumption | omega)) (va_cwS 1 hts gX6_between_X6_longRefusal rfl rfl rfl (by decide +kernel) ⟨Nat.le_of_ble_eq_true rfl, Nat.le_of_ble_eq_true rfl⟩) (xpS hPc hK) rfl rfl hl.1 rfl (lv_room (Nat.le_of_ble_eq_true rfl)) dX6_between_60 ⟨Nat.le_of_ble_eq_true rfl, Nat.le_of_ble_eq_true rfl⟩) ?_
                exact W.lret (v := lI (-9223372036854775808 - (-3))) hx hb hr (fun t_ ht_ _ => ⟨congrArg (fun z => Outcome.returned (some (Value.long (lI z)))) (show (-9223372036854775808 - (-3)) = (if (0 ≤ a ∧ a ≤ 16) ∧ 1 ≤ i ∧ i < j ∧ j ≤ 60 ∧ (w = 0 ∨ w = 1) then (if ex < j then -9223372036854775805 else if 15 < ex then -9223372036854775804 else frac (goF ex a i j) (16 ^ ex.toNat) w) else -9223372036854775806) from by first | rfl | ((repeat (first | rw [if_pos (by omega)] | rw [if_neg (by omega)])); done) | ((repeat (first | rw [if_pos (by omega)] | rw [if_neg (by omega)])); rfl) | omega), ht_⟩) (fun _ h9 => absurd h9 List.not_mem_nil) dX6_between_63
            · refine xi_bipush hx hb dX6_between_37 (by decide +kernel) ?_
              have hPc := hP.sub (ws' := []) [] rfl
              refine xc_l (va_runS (As := [.int (iI (-2))]) (rest := []) ⟨hx, hb, hml, hown, hts⟩ (c_X6_longRefusal l D cyI cyJ cyO (-2) (by first | exact h_x | assumption | omega)) (va_cwS 1 hts gX6_between_X6_longRefusal rfl rfl rfl (by decide +kernel) ⟨Nat.le_of_ble_eq_true rfl, Nat.le_of_ble_eq_true rfl⟩) (xpS hPc hK) rfl rfl hl.1 rfl (lv_room (Nat.le_of_ble_eq_true rfl)) dX6_between_39 ⟨Nat.le_of_ble_eq_true rfl, Nat.le_of_ble_eq_true rfl⟩) ?_
              exact W.lret (v := lI (-9223372036854775808 - (-2))) hx hb hr (fun t_ ht_ _ => ⟨congrArg (fun z => Outcome.returned (some (Value.long (lI z)))) (show (-9223372036854775808 - (-2)) = (if (0 ≤ a ∧ a ≤ 16) ∧ 1 ≤ i ∧ i < j ∧ j ≤ 60 ∧ (w = 0 ∨ w = 1) then (if ex < j then -9223372036854775805 else if 15 < ex then -9223372036854775804 else frac (goF ex a i j) (16 ^ ex.toNat) w) else -9223372036854775806) from by first | rfl | ((repeat (first | rw [if_pos (by omega)] | rw [if_neg (by omega)])); done) | ((repeat (first | rw [if_pos (by omega)] | rw [if_neg (by omega)])); rfl) | omega), ht_⟩) (fun _ h9 => absurd h9 List.not_mem_nil) dX6_between_42
set_option maxHeartbeats 1000000 in
set_option maxRecDepth 100000 in
theorem c_X6_rises (l : Launch) (D : va_G) (cyI cyJ cyO : ClassId) (qW : Nat) (qT : Nat) (qA : Nat) (qK : Nat) (qC : Nat) (qE : Nat) (qI : Nat) (qF : Nat) (qH : Nat) (qO : Nat) (fi : Int) (qCy : Nat) (qCl : Nat) (qCb : Nat) (ex : Int) (be : Int) (op : Int) (es : Int) (ge : Int) (rc : Int) (lr : Int) (lw : Int) (el : Int → Int) (h_ex : 0 ≤ ex ∧ ex ≤ 60) (h_be : 0 ≤ be ∧ be ≤ 60) (h_op : 0 ≤ op ∧ op ≤ 60) (h_el : ∀ j, 0 ≤ el j ∧ el j ≤ 999) : Met l yX6_rises wsX6_rises ({ frames := 1, cells := 0, slots := 0, locals := 21 }) (va_Pc [.ref qW] (xR D vwCl [(qW, .inr (6, [.ref qT, .ref qA, .ref qK, .ref qC, .ref qE, .ref qI, .ref qF, .ref qH, .ref qO, .int (iI (fi))])), (qC, .inr (0, [.ref qCy, .ref qCl, .ref qCb, .int (iI (ex)), .int (iI (be)), .int (iI (op)), .int (iI (es)), .int (iI (ge)), .int (iI (rc)), .int (iI (lr)), .int (iI (lw))])), (qCl, .inl (cyI, 60, .inl (xA (el))))] (xT cyI cyJ cyO))) (xq (some (.int (iI (risF el ex))))) 0 0 (fun _ => False) := by
  refine Met.ofW (cc := cX6_rises) (maxL := 4) (ret := (some .int)) (by decide) rfl ?_
  intro p e s m args below meth c s₁ B hml hv
  obtain ⟨rfl, hP, hK⟩ := hv
  have hx := B.exec
  have hb := B.bytes
  have hr := B.returns
  have hts := atoms_spec (ws := wsX6_rises) B.pre
  have hown : s.vm.findClass RX6 = some m.cls := findClass_of_methodNamed B.named
  have hlocks := B.notSynchronized
  have hcX0 : ∀ w ∈ wsX00, w ∈ wsX6_rises := fun _ h => List.mem_cons_of_mem _ (List.mem_append_right _ h)
  have hcX6 : ∀ w ∈ wsX60, w ∈ wsX6_rises := fun _ h => List.mem_cons_of_mem _ (List.mem_append_left _ (List.mem_append_right _ h))
  have hP : va_P D vwCl [(qW, .inr (6, [.ref qT, .ref qA, .ref qK, .ref qC, .ref qE, .ref qI, .ref qF, .ref qH, .ref qO, .int (iI (fi))])), (qC, .inr (0, [.ref qCy, .ref qCl, .ref qCb, .int (iI (ex)), .int (iI (be)), .int (iI (op)), .int (iI (es)), .int (iI (ge)), .int (iI (rc)), .int (iI (lr)), .int (iI (lw))])), (qCl, .inl (cyI, 60, .inl (xA (el))))] s.heap := hP
  have hl := lv_entry ([.ref qW]) (n := 4) (Nat.le_of_ble_eq_true rfl)
  rw [lg_entry_eq]
  generalize (lg_sl ([.ref qW]) ++ List.replicate (4 - (lg_sl ([.ref qW])).length) Slot.unset).toArray = ls at hl ⊢
  have hl : lv_has ls 4 [(0, .ref qW)] := hl
  have cut_4 : ∀ (N_ : Nat) (i : Int) (t : Int) (hi : 1 ≤ i ∧ (i ≤ ex ∨ i = 1)) (ht9 : t = sumZ (fun b => sumZ (fun a => zsg (el a) (el b)) b) i) (hN_ : (61 - i).toNat < N_) (ls : Array Slot) (hl : lv_has ls 4 [(0, .ref qW), (1, .int (iI (t))), (2, .int (iI (i)))]), W p l e (headSpec wsX6_rises ({ frames := 1, cells := 0, slots := 0, locals := 21 })).room s m ([.ref qW] : List Value).toArray below meth c s.heap [] 0 0 (MQ below (xq (some (.int (iI (risF el ex))))) ([.ref qW] : List Value).toArray s 0 0 (fun _ => False)) (F0 m 4 ls []) := by
    intro N_
    induction N_ with
    | zero => intro i t hi ht9 hN_ ls hl; exact absurd hN_ (Nat.not_lt_zero _)
    | succ N_ ih_4 =>
      intro i t hi ht9 hN_ ls hl
      have cut_17 : ∀ (N_ : Nat) (j : Int) (u1 : Int) (hj : 0 ≤ j ∧ j ≤ i) (hix : i < ex) (ht8 : u1 = t + sumZ (fun a => zsg (el a) (el i)) j) (hN_ : (i - j).toNat < N_) (ls : Array Slot) (hl : lv_has ls 4 [(0, .ref qW), (1, .int (iI (u1))), (2, .int (iI (i))), (3, .int (iI (j)))]), W p l e (headSpec wsX6_rises ({ frames := 1, cells := 0, slots := 0, locals := 21 })).room s m ([.ref qW] : List Value).toArray below meth c s.heap [] 0 0 (MQ below (xq (some (.int (iI (risF el ex))))) ([.ref qW] : List Value).toArray s 0 0 (fun _ => False)) (F0 m 17 ls []) := by
        intro N_
        induction N_ with
        | zero => intro j u1 hj hix ht8 hN_ ls hl; exact absurd hN_ (Nat.not_lt_zero _)
        | succ N_ ih_17 =>
          intro j u1 hj hix ht8 hN_ ls hl
          refine lv_iload_n hx hb dX6_rises_17 rfl (lv_at hl 3 rfl) ?_
          refine lv_iload_n hx hb dX6_rises_18 rfl (lv_at hl 2 rfl) ?_
          refine xb_icmp_ge (tgt := 52) hx hb dX6_rises_19 (by decide) (by omega) (fun h_1 => ?_) (fun h_1 => ?_)
          · refine xi_inc (k := 2) (lv' := [(2, .int (iI (i + 1))), (0, .ref qW), (1, .int (iI (u1))), (3, .int (iI (j)))]) hx hb dX6_rises_52 hl rfl (by decide) rfl (fun ls hl => ?_)
            refine lv_goto (tgt := 4) hx hb dX6_rises_55 (by decide) ?_
            exact ih_4 (i + 1) (u1) (by first | assumption | omega | (constructor <;> omega)) (by first | rfl | (rw [sumZ_s _ (by omega), ← ht9, ht8, show j = i from by omega])) (by omega) ls (lv_sub hl [1, 2, 0] rfl)
          · refine lv_iload_n hx hb dX6_rises_22 rfl (lv_at hl 1 rfl) ?_
            refine lv_aload_n hx hb dX6_rises_23 rfl (lv_at hl 0 rfl) ?_
            refine va_get (D := D) (ci := 6) (C := RX6) (T := TX6) (N := 10) hx hb hts hcX6 hown hK hP 0 rfl rfl 3 (by decide) (hts (.fieldLink RX6 33 "WallMarks" "counted" "LWallMarks$Counted;") (List.mem_of_getElem? (i := 1) (by decide +kernel))) (fun _ h9 => h9) rfl dX6_rises_24 ?_
            refine va_get (D := D) (ci := 0) (C := RX0) (T := TX0) (N := 11) hx hb hts hcX0 hown hK hP 1 rfl rfl 1 (by decide) (hts (.fieldLink RX6 173 "WallMarks$Counted" "exactLevels" "[I") (List.mem_of_getElem? (i := 3) (by decide +kernel))) (fun _ h9 => h9) rfl dX6_rises_27 ?_
            refine lv_iload_n hx hb dX6_rises_30 rfl (lv_at hl 3 rfl) ?_
            refine xi_ald (D := D) hx hb hK hP 2 0 rfl rfl (by decide) (by omega) dX6_rises_31 ?_
            have hr_2 := h_el (j)
            refine lv_aload_n hx hb dX6_rises_32 rfl (lv_at hl 0 rfl) ?_
            refine va_get (D := D) (ci := 6) (C := RX6) (T := TX6) (N := 10) hx hb hts hcX6 hown hK hP 0 rfl rfl 3 (by decide) (hts (.fieldLink RX6 33 "WallMarks" "counted" "LWallMarks$Counted;") (List.mem_of_getElem? (i := 1) (by decide +kernel))) (fun _ h9 => h9) rfl dX6_rises_33 ?_
            refine va_get (D := D) (ci := 0) (C := RX0) (T := TX0) (N := 11) hx hb hts hcX0 hown hK hP 1 rfl rfl 1 (by decide) (hts (.fieldLink RX6 173 "WallMarks$Counted" "exactLevels" "[I") (List.mem_of_getElem? (i := 3) (by decide +kernel))) (fun _ h9 => h9) rfl dX6_rises_36 ?_
            refine lv_iload_n hx hb dX6_rises_39 rfl (lv_at hl 2 rfl) ?_
            refine xi_ald (D := D) hx hb hK hP 2 0 rfl rfl (by decide) (by omega) dX6_rises_40 ?_
            have hr_3 := h_el (i)
            have hPc := hP.sub (ws' := []) [] rfl
            refine xc_i (va_runS (As := [.int (iI (el (j))), .int (iI (el (i)))]) (rest := [.int (iI (u1))]) ⟨hx, hb, hml, hown, hts⟩ (c_X6_direction l D cyI cyJ cyO (el (j)) (el (i)) (by first | exact h_f | assumption | omega) (by first | exact h_t | assumption | omega)) (va_cwS 2 hts gX6_rises_X6_direction rfl rfl rfl (by decide +kernel) ⟨Nat.le_of_ble_eq_true rfl, Nat.le_of_ble_eq_true rfl⟩) (xpS hPc hK) rfl rfl hl.1 rfl (lv_room (Nat.le_of_ble_eq_true rfl)) dX6_rises_41 ⟨Nat.le_of_ble_eq_true rfl, Nat.le_of_ble_eq_true rfl⟩) ?_
            refine xi_add hx hb dX6_rises_44 ?_
            refine lv_istore_n (lv' := [(1, .int (iI (u1 + (zsg (el (j)) (el (i)))))), (0, .ref qW), (2, .int (iI (i))), (3, .int (iI (j)))]) hx hb dX6_rises_45 rfl hl (by decide) rfl (fun ls hl => ?_)
            refine xi_inc (k := 3) (lv' := [(3, .int (iI (j + 1))), (1, .int (iI (u1 + (zsg (el (j)) (el (i)))))), (0, .ref qW), (2, .int (iI (i)))]) hx hb dX6_rises_46 hl rfl (by decide) rfl (fun ls hl => ?_)
            refine lv_goto (tgt := 17) hx hb dX6_rises_49 (by decide) ?_
            exact ih_17 (j + 1) (u1 + (zsg (el (j)) (el (i)))) (by first | assumption | omega | (constructor <;> omega)) (by first | assumption | omega | (constructor <;> omega)) (by first | (rw [sumZ_s _ (by omega), ht8]; omega) | (rw [sumZ_0]; omega)) (by omega) ls (lv_sub hl [2, 1, 3, 0] rfl)
      refine lv_iload_n hx hb dX6_rises_4 rfl (lv_at hl 2 rfl) ?_
      refine lv_aload_n hx hb dX6_rises_5 rfl (lv_at hl 0 rfl) ?_
      refine va_get (D := D) (ci := 6) (C := RX6) (T := TX6) (N := 10) hx hb hts hcX6 hown hK hP 0 rfl rfl 3 (by decide) (hts (.fieldLink RX6 33 "WallMarks" "counted" "LWallMarks$Counted;") (List.mem_of_getElem? (i := 1) (by decide +kernel))) (fun _ h9 => h9) rfl dX6_rises_6 ?_
      refine va_get (D := D) (ci := 0) (C := RX0) (T := TX0) (N := 11) hx hb hts hcX0 hown hK hP 1 rfl rfl 3 (by decide) (hts (.fieldLink RX6 170 "WallMarks$Counted" "exacts" "I") (List.mem_of_getElem? (i := 2) (by decide +kernel))) (fun _ h9 => h9) rfl dX6_rises_9 ?_
      refine xb_icmp_ge (tgt := 58) hx hb dX6_rises_12 (by decide) (by omega) (fun h_4 => ?_) (fun h_4 => ?_)
      · refine lv_iload_n hx hb dX6_rises_58 rfl (lv_at hl 1 rfl) ?_
        exact W.iret (v := iI (t)) hx hb hr (fun t_ ht_ _ => ⟨congrArg (fun z => Outcome.returned (some (Value.int (iI z)))) (show (t) = (risF el ex) from by rcases (show i = ex ∨ (i = 1 ∧ ex = 0) from by omega) with h9 | h9 <;> first | (rw [ht9, h9]; rfl) | (rw [ht9, h9.1, h9.2]; rfl)), ht_⟩) (fun _ h9 => absurd h9 List.not_mem_nil) dX6_rises_59
      · refine xi_const hx hb dX6_rises_15 ?_
        refine lv_istore_n (lv' := [(3, .int (iI (0))), (0, .ref qW), (1, .int (iI (t))), (2, .int (iI (i)))]) hx hb dX6_rises_16 rfl hl (by decide) rfl (fun ls hl => ?_)
        exact cut_17 ((i - 0 : Int).toNat + 1) (0) (t) (by first | assumption | omega | (constructor <;> omega)) (by first | assumption | omega | (constructor <;> omega)) (by first | (rw [sumZ_s _ (by omega), ht8]; omega) | (rw [sumZ_0]; omega)) (by exact Nat.lt_succ_self _) ls (lv_sub hl [1, 2, 3, 0] rfl)
  refine xi_const hx hb dX6_rises_0 ?_
  refine lv_istore_n (lv' := [(1, .int (iI (0))), (0, .ref qW)]) hx hb dX6_rises_1 rfl hl (by decide) rfl (fun ls hl => ?_)
  refine xi_const hx hb dX6_rises_2 ?_
  refine lv_istore_n (lv' := [(2, .int (iI (1))), (1, .int (iI (0))), (0, .ref qW)]) hx hb dX6_rises_3 rfl hl (by decide) rfl (fun ls hl => ?_)
  exact cut_4 ((61 - 1 : Int).toNat + 1) (1) (0) (by first | assumption | omega | (constructor <;> omega)) (by first | rfl | (rw [sumZ_s _ (by omega), ← ht9, ht8, show j = i from by omega])) (by exact Nat.lt_succ_self _) ls (lv_sub hl [2, 1, 0] rfl)
set_option maxHeartbeats 1000000 in
set_option maxRecDepth 100000 in
theorem c_X6_change (l : Launch) (D : va_G) (cyI cyJ cyO : ClassId) (qW : Nat) (qT : Nat) (qA : Nat) (qK : Nat) (qC : Nat) (qE : Nat) (qI : Nat) (qF : Nat) (qH : Nat) (qO : Nat) (fi : Int) (qCy : Nat) (qCl : Nat) (qCb : Nat) (ex : Int) (be : Int) (op : Int) (es : Int) (ge : Int) (rc : Int) (lr : Int) (lw : Int) (ey : Int → Int) (el : Int → Int) (y : Int) (w : Int) (h_ex : 0 ≤ ex ∧ ex ≤ 60) (h_be : 0 ≤ be ∧ be ≤ 60) (h_op : 0 ≤ op ∧ op ≤ 60) (h_ey : ∀ j, 0 ≤ ey j ∧ ey j ≤ 59) (h_el : ∀ j, 0 ≤ el j ∧ el j ≤ 999) (h_es : 0 ≤ es ∧ es ≤ 59940) (h_y : -2147483648 ≤ y ∧ y ≤ 2147483647) (h_w : -2147483648 ≤ w ∧ w ≤ 2147483647) : Met l yX6_change wsX6_change ({ frames := 2, cells := 0, slots := 0, locals := 56 }) (va_Pc [.ref qW, .int (iI (y)), .int (iI (w))] (xR D vwCl [(qW, .inr (6, [.ref qT, .ref qA, .ref qK, .ref qC, .ref qE, .ref qI, .ref qF, .ref qH, .ref qO, .int (iI (fi))])), (qC, .inr (0, [.ref qCy, .ref qCl, .ref qCb, .int (iI (ex)), .int (iI (be)), .int (iI (op)), .int (iI (es)), .int (iI (ge)), .int (iI (rc)), .int (iI (lr)), .int (iI (lw))])), (qCy, .inl (cyI, 60, .inl (xA (ey)))), (qCl, .inl (cyI, 60, .inl (xA (el))))] (xT cyI cyJ cyO))) (xq (some (.long (lI (if (0 ≤ y ∧ y < 60) ∧ (w = 0 ∨ w = 1) then (if mbF ey ex y = 0 then -9223372036854775805 else frac (maF ey el ex es y) (mbF ey ex y) w) else -9223372036854775806))))) 0 0 (fun _ => False) := by
  refine Met.ofW (cc := cX6_change) (maxL := 5) (ret := (some .long)) (by decide) rfl ?_
  intro p e s m args below meth c s₁ B hml hv
  obtain ⟨rfl, hP, hK⟩ := hv
  have hx := B.exec
  have hb := B.bytes
  have hr := B.returns
  have hts := atoms_spec (ws := wsX6_change) B.pre
  have hown : s.vm.findClass RX6 = some m.cls := findClass_of_methodNamed B.named
  have hlocks := B.notSynchronized
  have hcX6 : ∀ w ∈ wsX60, w ∈ wsX6_change := fun _ h => List.mem_cons_of_mem _ (List.mem_append_left _ (List.mem_append_right _ h))
  have hP : va_P D vwCl [(qW, .inr (6, [.ref qT, .ref qA, .ref qK, .ref qC, .ref qE, .ref qI, .ref qF, .ref qH, .ref qO, .int (iI (fi))])), (qC, .inr (0, [.ref qCy, .ref qCl, .ref qCb, .int (iI (ex)), .int (iI (be)), .int (iI (op)), .int (iI (es)), .int (iI (ge)), .int (iI (rc)), .int (iI (lr)), .int (iI (lw))])), (qCy, .inl (cyI, 60, .inl (xA (ey)))), (qCl, .inl (cyI, 60, .inl (xA (el))))] s.heap := hP
  have hl := lv_entry ([.ref qW, .int (iI (y)), .int (iI (w))]) (n := 5) (Nat.le_of_ble_eq_true rfl)
  rw [lg_entry_eq]
  generalize (lg_sl ([.ref qW, .int (iI (y)), .int (iI (w))]) ++ List.replicate (5 - (lg_sl ([.ref qW, .int (iI (y)), .int (iI (w))])).length) Slot.unset).toArray = ls at hl ⊢
  have hl : lv_has ls 5 [(0, .ref qW), (1, .int (iI (y))), (2, .int (iI (w)))] := hl
  refine lv_iload_n hx hb dX6_change_0 rfl (lv_at hl 1 rfl) ?_
  have hPc := hP.sub (ws' := []) [] rfl
  refine xc_i (va_runS (As := [.int (iI (y))]) (rest := []) ⟨hx, hb, hml, hown, hts⟩ (c_X6_isYear l D cyI cyJ cyO y (by first | exact h_y | assumption | omega)) (va_cwS 1 hts gX6_change_X6_isYear rfl rfl rfl (by decide +kernel) ⟨Nat.le_of_ble_eq_true rfl, Nat.le_of_ble_eq_true rfl⟩) (xpS hPc hK) rfl rfl hl.1 rfl (lv_room (Nat.le_of_ble_eq_true rfl)) dX6_change_1 ⟨Nat.le_of_ble_eq_true rfl, Nat.le_of_ble_eq_true rfl⟩) ?_
  refine xb_if_eqB (tgt := 14) hx hb dX6_change_4 (by decide) (fun h_1 => ?_) (fun h_1 => ?_)
  · refine xi_bipush hx hb dX6_change_14 (by decide +kernel) ?_
    have hPc := hP.sub (ws' := []) [] rfl
    refine xc_l (va_runS (As := [.int (iI (-2))]) (rest := []) ⟨hx, hb, hml, hown, hts⟩ (c_X6_longRefusal l D cyI cyJ cyO (-2) (by first | exact h_x | assumption | omega)) (va_cwS 1 hts gX6_change_X6_longRefusal rfl rfl rfl (by decide +kernel) ⟨Nat.le_of_ble_eq_true rfl, Nat.le_of_ble_eq_true rfl⟩) (xpS hPc hK) rfl rfl hl.1 rfl (lv_room (Nat.le_of_ble_eq_true rfl)) dX6_change_16 ⟨Nat.le_of_ble_eq_true rfl, Nat.le_of_ble_eq_true rfl⟩) ?_
    exact W.lret (v := lI (-9223372036854775808 - (-2))) hx hb hr (fun t_ ht_ _ => ⟨congrArg (fun z => Outcome.returned (some (Value.long (lI z)))) (show (-9223372036854775808 - (-2)) = (if (0 ≤ y ∧ y < 60) ∧ (w = 0 ∨ w = 1) then (if mbF ey ex y = 0 then -9223372036854775805 else frac (maF ey el ex es y) (mbF ey ex y) w) else -9223372036854775806) from by first | rfl | ((repeat (first | rw [if_pos (by omega)] | rw [if_neg (by omega)])); done) | ((repeat (first | rw [if_pos (by omega)] | rw [if_neg (by omega)])); rfl) | omega), ht_⟩) (fun _ h9 => absurd h9 List.not_mem_nil) dX6_change_19
  · refine lv_iload_n hx hb dX6_change_7 rfl (lv_at hl 2 rfl) ?_
    have hPc := hP.sub (ws' := []) [] rfl
    refine xc_i (va_runS (As := [.int (iI (w))]) (rest := []) ⟨hx, hb, hml, hown, hts⟩ (c_X6_isEither l D cyI cyJ cyO w (by first | exact h_y | assumption | omega)) (va_cwS 1 hts gX6_change_X6_isEither rfl rfl rfl (by decide +kernel) ⟨Nat.le_of_ble_eq_true rfl, Nat.le_of_ble_eq_true rfl⟩) (xpS hPc hK) rfl rfl hl.1 rfl (lv_room (Nat.le_of_ble_eq_true rfl)) dX6_change_8 ⟨Nat.le_of_ble_eq_true rfl, Nat.le_of_ble_eq_true rfl⟩) ?_
    refine xb_if_neB (tgt := 20) hx hb dX6_change_11 (by decide) (fun h_2 => ?_) (fun h_2 => ?_)
    · refine lv_aload_n hx hb dX6_change_20 rfl (lv_at hl 0 rfl) ?_
      refine va_get (D := D) (ci := 6) (C := RX6) (T := TX6) (N := 10) hx hb hts hcX6 hown hK hP 0 rfl rfl 3 (by decide) (hts (.fieldLink RX6 33 "WallMarks" "counted" "LWallMarks$Counted;") (List.mem_of_getElem? (i := 1) (by decide +kernel))) (fun _ h9 => h9) rfl dX6_change_21 ?_
      refine lv_iload_n hx hb dX6_change_24 rfl (lv_at hl 1 rfl) ?_
      have hf_3 := mbF_in ey y h_ex
      have hPc := hP.sub (ws' := [(qC, .inr (0, [.ref qCy, .ref qCl, .ref qCb, .int (iI (ex)), .int (iI (be)), .int (iI (op)), .int (iI (es)), .int (iI (ge)), .int (iI (rc)), .int (iI (lr)), .int (iI (lw))])), (qCy, .inl (cyI, 60, .inl (xA (ey))))]) [1, 2] rfl
      refine xc_l (va_runV (As := [.int (iI (y))]) (rest := []) ⟨hx, hb, hml, hown, hts⟩ (c_X0_meansBelow l D cyI cyJ cyO qC qCy qCl qCb ex be op es ge rc lr lw ey y (by first | exact h_ex | assumption | omega) (by first | exact h_be | assumption | omega) (by first | exact h_op | assumption | omega) (by first | exact h_ey | assumption | omega) (by first | exact h_y | assumption | omega)) (cwV 1 hts gX6_change_X0_meansBelow rfl rfl rfl (by decide +kernel) ⟨Nat.le_of_ble_eq_true rfl, Nat.le_of_ble_eq_true rfl⟩) (xpV hPc hK (ci := 0) (q0 := 0) (q := (RX0, TX0, 11)) rfl rfl) rfl rfl hl.1 rfl (lv_room (Nat.le_of_ble_eq_true rfl)) dX6_change_25 ⟨Nat.le_of_ble_eq_true rfl, Nat.le_of_ble_eq_true rfl⟩) ?_
      refine lv_lstore_n (lv' := [(3, .long (lI (mbF ey ex y))), (0, .ref qW), (1, .int (iI (y))), (2, .int (iI (w)))]) hx hb dX6_change_28 rfl hl (by decide) rfl (fun ls hl => ?_)
      refine lv_lload_n hx hb dX6_change_29 rfl (lv_at hl 0 rfl) ?_
      refine xi_lconst0 hx hb dX6_change_30 ?_
      refine xl_if_ne (tgt := 41) hx hb dX6_change_31 dX6_change_32 (by decide) (by omega) (fun h_4 => ?_) (fun h_4 => ?_)
      · refine lv_aload_n hx hb dX6_change_41 rfl (lv_at hl 1 rfl) ?_
        refine va_get (D := D) (ci := 6) (C := RX6) (T := TX6) (N := 10) hx hb hts hcX6 hown hK hP 0 rfl rfl 3 (by decide) (hts (.fieldLink RX6 33 "WallMarks" "counted" "LWallMarks$Counted;") (List.mem_of_getElem? (i := 1) (by decide +kernel))) (fun _ h9 => h9) rfl dX6_change_42 ?_
        refine lv_iload_n hx hb dX6_change_45 rfl (lv_at hl 2 rfl) ?_
        have hf_5 := maF_in ey y h_el h_ex h_es
        have hPc := hP.sub (ws' := [(qC, .inr (0, [.ref qCy, .ref qCl, .ref qCb, .int (iI (ex)), .int (iI (be)), .int (iI (op)), .int (iI (es)), .int (iI (ge)), .int (iI (rc)), .int (iI (lr)), .int (iI (lw))])), (qCy, .inl (cyI, 60, .inl (xA (ey)))), (qCl, .inl (cyI, 60, .inl (xA (el))))]) [1, 2, 3] rfl
        refine xc_l (va_runV (As := [.int (iI (y))]) (rest := []) ⟨hx, hb, hml, hown, hts⟩ (c_X0_meansAbove l D cyI cyJ cyO qC qCy qCl qCb ex be op es ge rc lr lw ey el y (by first | exact h_ex | assumption | omega) (by first | exact h_be | assumption | omega) (by first | exact h_op | assumption | omega) (by first | exact h_ey | assumption | omega) (by first | exact h_el | assumption | omega) (by first | exact h_es | assumption | omega) (by first | exact h_y | assumption | omega)) (cwV 1 hts gX6_change_X0_meansAbove rfl rfl rfl (by decide +kernel) ⟨Nat.le_of_ble_eq_true rfl, Nat.le_of_ble_eq_true rfl⟩) (xpV hPc hK (ci := 0) (q0 := 0) (q := (RX0, TX0, 11)) rfl rfl) rfl rfl hl.1 rfl (lv_room (Nat.le_of_ble_eq_true rfl)) dX6_change_46 ⟨Nat.le_of_ble_eq_true rfl, Nat.le_of_ble_eq_true rfl⟩) ?_
        refine lv_lload_n hx hb dX6_change_49 rfl (lv_at hl 0 rfl) ?_
        refine lv_iload_n hx hb dX6_change_50 rfl (lv_at hl 3 rfl) ?_
        have hPc := hP.sub (ws' := []) [] rfl
        refine xc_l (va_runS (As := [.long (lI (maF ey el ex es y)), .long (lI (mbF ey ex y)), .int (iI (w))]) (rest := []) ⟨hx, hb, hml, hown, hts⟩ (c_X6_fraction l D cyI cyJ cyO (maF ey el ex es y) (mbF ey ex y) w (by first | exact h_a | assumption | omega) (by first | exact h_b | assumption | omega) (by first | exact h_w | assumption | omega)) (va_cwS 3 hts gX6_change_X6_fraction rfl rfl rfl (by decide +kernel) ⟨Nat.le_of_ble_eq_true rfl, Nat.le_of_ble_eq_true rfl⟩) (xpS hPc hK) rfl rfl hl.1 rfl (lv_room (Nat.le_of_ble_eq_true rfl)) dX6_change_51 ⟨Nat.le_of_ble_eq_true rfl, Nat.le_of_ble_eq_true rfl⟩) ?_
        exact W.lret (v := lI (frac (maF ey el ex es y) (mbF ey ex y) w)) hx hb hr (fun t_ ht_ _ => ⟨congrArg (fun z => Outcome.returned (some (Value.long (lI z)))) (show (frac (maF ey el ex es y) (mbF ey ex y) w) = (if (0 ≤ y ∧ y < 60) ∧ (w = 0 ∨ w = 1) then (if mbF ey ex y = 0 then -9223372036854775805 else frac (maF ey el ex es y) (mbF ey ex y) w) else -9223372036854775806) from by first | rfl | ((repeat (first | rw [if_pos (by omega)] | rw [if_neg (by omega)])); done) | ((repeat (first | rw [if_pos (by omega)] | rw [if_neg (by omega)])); rfl) | omega), ht_⟩) (fun _ h9 => absurd h9 List.not_mem_nil) dX6_change_54
      · refine xi_bipush hx hb dX6_change_35 (by decide +kernel) ?_
        have hPc := hP.sub (ws' := []) [] rfl
        refine xc_l (va_runS (As := [.int (iI (-3))]) (rest := []) ⟨hx, hb, hml, hown, hts⟩ (c_X6_longRefusal l D cyI cyJ cyO (-3) (by first | exact h_x | assumption | omega)) (va_cwS 1 hts gX6_change_X6_longRefusal rfl rfl rfl (by decide +kernel) ⟨Nat.le_of_ble_eq_true rfl, Nat.le_of_ble_eq_true rfl⟩) (xpS hPc hK) rfl rfl hl.1 rfl (lv_room (Nat.le_of_ble_eq_true rfl)) dX6_change_37 ⟨Nat.le_of_ble_eq_true rfl, Nat.le_of_ble_eq_true rfl⟩) ?_
        exact W.lret (v := lI (-9223372036854775808 - (-3))) hx hb hr (fun t_ ht_ _ => ⟨congrArg (fun z => Outcome.returned (some (Value.long (lI z)))) (show (-9223372036854775808 - (-3)) = (if (0 ≤ y ∧ y < 60) ∧ (w = 0 ∨ w = 1) then (if mbF ey ex y = 0 then -9223372036854775805 else frac (maF ey el ex es y) (mbF ey ex y) w) else -9223372036854775806) from by first | rfl | ((repeat (first | rw [if_pos (by omega)] | rw [if_neg (by omega)])); done) | ((repeat (first | rw [if_pos (by omega)] | rw [if_neg (by omega)])); rfl) | omega), ht_⟩) (fun _ h9 => absurd h9 List.not_mem_nil) dX6_change_40
    · refine xi_bipush hx hb dX6_change_14 (by decide +kernel) ?_
      have hPc := hP.sub (ws' := []) [] rfl
      refine xc_l (va_runS (As := [.int (iI (-2))]) (rest := []) ⟨hx, hb, hml, hown, hts⟩ (c_X6_longRefusal l D cyI cyJ cyO (-2) (by first | exact h_x | assumption | omega)) (va_cwS 1 hts gX6_change_X6_longRefusal rfl rfl rfl (by decide +kernel) ⟨Nat.le_of_ble_eq_true rfl, Nat.le_of_ble_eq_true rfl⟩) (xpS hPc hK) rfl rfl hl.1 rfl (lv_room (Nat.le_of_ble_eq_true rfl)) dX6_change_16 ⟨Nat.le_of_ble_eq_true rfl, Nat.le_of_ble_eq_true rfl⟩) ?_
      exact W.lret (v := lI (-9223372036854775808 - (-2))) hx hb hr (fun t_ ht_ _ => ⟨congrArg (fun z => Outcome.returned (some (Value.long (lI z)))) (show (-9223372036854775808 - (-2)) = (if (0 ≤ y ∧ y < 60) ∧ (w = 0 ∨ w = 1) then (if mbF ey ex y = 0 then -9223372036854775805 else frac (maF ey el ex es y) (mbF ey ex y) w) else -9223372036854775806) from by first | rfl | ((repeat (first | rw [if_pos (by omega)] | rw [if_neg (by omega)])); done) | ((repeat (first | rw [if_pos (by omega)] | rw [if_neg (by omega)])); rfl) | omega), ht_⟩) (fun _ h9 => absurd h9 List.not_mem_nil) dX6_change_19
set_option maxHeartbeats 1000000 in
set_option maxRecDepth 100000 in
theorem c_X6_greatestChange (l : Launch) (D : va_G) (cyI cyJ cyO : ClassId) (qW : Nat) (qT : Nat) (qA : Nat) (qK : Nat) (qC : Nat) (qE : Nat) (qI : Nat) (qF : Nat) (qH : Nat) (qO : Nat) (fi : Int) (qCy : Nat) (qCl : Nat) (qCb : Nat) (ex : Int) (be : Int) (op : Int) (es : Int) (ge : Int) (rc : Int) (lr : Int) (lw : Int) (ey : Int → Int) (el : Int → Int) (h_ex : 0 ≤ ex ∧ ex ≤ 60) (h_be : 0 ≤ be ∧ be ≤ 60) (h_op : 0 ≤ op ∧ op ≤ 60) (h_ey : ∀ j, 0 ≤ ey j ∧ ey j ≤ 59) (h_el : ∀ j, 0 ≤ el j ∧ el j ≤ 999) (h_es : 0 ≤ es ∧ es ≤ 59940) : Met l yX6_greatestChange wsX6_greatestChange ({ frames := 2, cells := 0, slots := 0, locals := 45 }) (va_Pc [.ref qW] (xR D vwCl [(qW, .inr (6, [.ref qT, .ref qA, .ref qK, .ref qC, .ref qE, .ref qI, .ref qF, .ref qH, .ref qO, .int (iI (fi))])), (qC, .inr (0, [.ref qCy, .ref qCl, .ref qCb, .int (iI (ex)), .int (iI (be)), .int (iI (op)), .int (iI (es)), .int (iI (ge)), .int (iI (rc)), .int (iI (lr)), .int (iI (lw))])), (qCy, .inl (cyI, 60, .inl (xA (ey)))), (qCl, .inl (cyI, 60, .inl (xA (el))))] (xT cyI cyJ cyO))) (xq (some (.int (iI ((gcF ey el ex es 60).1))))) 0 0 (fun _ => False) := by
  refine Met.ofW (cc := cX6_greatestChange) (maxL := 11) (ret := (some .int)) (by decide) rfl ?_
  intro p e s m args below meth c s₁ B hml hv
  obtain ⟨rfl, hP, hK⟩ := hv
  have hx := B.exec
  have hb := B.bytes
  have hr := B.returns
  have hts := atoms_spec (ws := wsX6_greatestChange) B.pre
  have hown : s.vm.findClass RX6 = some m.cls := findClass_of_methodNamed B.named
  have hlocks := B.notSynchronized
  have hcX6 : ∀ w ∈ wsX60, w ∈ wsX6_greatestChange := fun _ h => List.mem_cons_of_mem _ (List.mem_append_left _ (List.mem_append_right _ h))
  have hP : va_P D vwCl [(qW, .inr (6, [.ref qT, .ref qA, .ref qK, .ref qC, .ref qE, .ref qI, .ref qF, .ref qH, .ref qO, .int (iI (fi))])), (qC, .inr (0, [.ref qCy, .ref qCl, .ref qCb, .int (iI (ex)), .int (iI (be)), .int (iI (op)), .int (iI (es)), .int (iI (ge)), .int (iI (rc)), .int (iI (lr)), .int (iI (lw))])), (qCy, .inl (cyI, 60, .inl (xA (ey)))), (qCl, .inl (cyI, 60, .inl (xA (el))))] s.heap := hP
  have hl := lv_entry ([.ref qW]) (n := 11) (Nat.le_of_ble_eq_true rfl)
  rw [lg_entry_eq]
  generalize (lg_sl ([.ref qW]) ++ List.replicate (11 - (lg_sl ([.ref qW])).length) Slot.unset).toArray = ls at hl ⊢
  have hl : lv_has ls 11 [(0, .ref qW)] := hl
  have cut_10 : ∀ (N_ : Nat) (i : Int) (b0 : Int) (b1 : Int) (b3 : Int) (hi : 0 ≤ i ∧ i ≤ 60) (hg : (b0, b1, b3) = gcF ey el ex es i) (h0 : -1 ≤ b0 ∧ b0 ≤ 59) (h1 : 0 ≤ b1 ∧ b1 ≤ 7192800) (h3 : 1 ≤ b3 ∧ b3 ≤ 3600) (hN_ : (60 - i).toNat < N_) (ls : Array Slot) (hl : lv_has ls 11 [(0, .ref qW), (1, .int (iI (b0))), (2, .long (lI (b1))), (4, .long (lI (b3))), (6, .int (iI (i)))]), W p l e (headSpec wsX6_greatestChange ({ frames := 2, cells := 0, slots := 0, locals := 45 })).room s m ([.ref qW] : List Value).toArray below meth c s.heap [] 0 0 (MQ below (xq (some (.int (iI ((gcF ey el ex es 60).1))))) ([.ref qW] : List Value).toArray s 0 0 (fun _ => False)) (F0 m 10 ls []) := by
    intro N_
    induction N_ with
    | zero => intro i b0 b1 b3 hi hg h0 h1 h3 hN_ ls hl; exact absurd hN_ (Nat.not_lt_zero _)
    | succ N_ ih_10 =>
      intro i b0 b1 b3 hi hg h0 h1 h3 hN_ ls hl
      refine lv_iload hx hb dX6_greatestChange_10 (lv_at hl 4 rfl) ?_
      refine xi_bipush hx hb dX6_greatestChange_12 (by decide +kernel) ?_
      refine xb_icmp_ge (tgt := 83) hx hb dX6_greatestChange_14 (by decide) (by omega) (fun h_1 => ?_) (fun h_1 => ?_)
      · refine lv_iload_n hx hb dX6_greatestChange_83 rfl (lv_at hl 1 rfl) ?_
        exact W.iret (v := iI (b0)) hx hb hr (fun t_ ht_ _ => ⟨congrArg (fun z => Outcome.returned (some (Value.int (iI z)))) (show (b0) = ((gcF ey el ex es 60).1) from by rw [show (60 : Int) = i from by omega, ← hg]), ht_⟩) (fun _ h9 => absurd h9 List.not_mem_nil) dX6_greatestChange_84
      · refine lv_aload_n hx hb dX6_greatestChange_17 rfl (lv_at hl 0 rfl) ?_
        refine va_get (D := D) (ci := 6) (C := RX6) (T := TX6) (N := 10) hx hb hts hcX6 hown hK hP 0 rfl rfl 3 (by decide) (hts (.fieldLink RX6 33 "WallMarks" "counted" "LWallMarks$Counted;") (List.mem_of_getElem? (i := 1) (by decide +kernel))) (fun _ h9 => h9) rfl dX6_greatestChange_18 ?_
        refine lv_iload hx hb dX6_greatestChange_21 (lv_at hl 4 rfl) ?_
        have hf_2 := mbF_in ey i h_ex
        have hPc := hP.sub (ws' := [(qC, .inr (0, [.ref qCy, .ref qCl, .ref qCb, .int (iI (ex)), .int (iI (be)), .int (iI (op)), .int (iI (es)), .int (iI (ge)), .int (iI (rc)), .int (iI (lr)), .int (iI (lw))])), (qCy, .inl (cyI, 60, .inl (xA (ey))))]) [1, 2] rfl
        refine xc_l (va_runV (As := [.int (iI (i))]) (rest := []) ⟨hx, hb, hml, hown, hts⟩ (c_X0_meansBelow l D cyI cyJ cyO qC qCy qCl qCb ex be op es ge rc lr lw ey i (by first | exact h_ex | assumption | omega) (by first | exact h_be | assumption | omega) (by first | exact h_op | assumption | omega) (by first | exact h_ey | assumption | omega) (by first | exact h_y | assumption | omega)) (cwV 1 hts gX6_greatestChange_X0_meansBelow rfl rfl rfl (by decide +kernel) ⟨Nat.le_of_ble_eq_true rfl, Nat.le_of_ble_eq_true rfl⟩) (xpV hPc hK (ci := 0) (q0 := 0) (q := (RX0, TX0, 11)) rfl rfl) rfl rfl hl.1 rfl (lv_room (Nat.le_of_ble_eq_true rfl)) dX6_greatestChange_23 ⟨Nat.le_of_ble_eq_true rfl, Nat.le_of_ble_eq_true rfl⟩) ?_
        refine lv_lstore (lv' := [(7, .long (lI (mbF ey ex i))), (0, .ref qW), (1, .int (iI (b0))), (2, .long (lI (b1))), (4, .long (lI (b3))), (6, .int (iI (i)))]) hx hb dX6_greatestChange_26 hl (by decide) rfl (fun ls hl => ?_)
        refine lv_aload_n hx hb dX6_greatestChange_28 rfl (lv_at hl 1 rfl) ?_
        refine va_get (D := D) (ci := 6) (C := RX6) (T := TX6) (N := 10) hx hb hts hcX6 hown hK hP 0 rfl rfl 3 (by decide) (hts (.fieldLink RX6 33 "WallMarks" "counted" "LWallMarks$Counted;") (List.mem_of_getElem? (i := 1) (by decide +kernel))) (fun _ h9 => h9) rfl dX6_greatestChange_29 ?_
        refine lv_iload hx hb dX6_greatestChange_32 (lv_at hl 5 rfl) ?_
        have hf_3 := maF_in ey i h_el h_ex h_es
        have hPc := hP.sub (ws' := [(qC, .inr (0, [.ref qCy, .ref qCl, .ref qCb, .int (iI (ex)), .int (iI (be)), .int (iI (op)), .int (iI (es)), .int (iI (ge)), .int (iI (rc)), .int (iI (lr)), .int (iI (lw))])), (qCy, .inl (cyI, 60, .inl (xA (ey)))), (qCl, .inl (cyI, 60, .inl (xA (el))))]) [1, 2, 3] rfl
        refine xc_l (va_runV (As := [.int (iI (i))]) (rest := []) ⟨hx, hb, hml, hown, hts⟩ (c_X0_meansAbove l D cyI cyJ cyO qC qCy qCl qCb ex be op es ge rc lr lw ey el i (by first | exact h_ex | assumption | omega) (by first | exact h_be | assumption | omega) (by first | exact h_op | assumption | omega) (by first | exact h_ey | assumption | omega) (by first | exact h_el | assumption | omega) (by first | exact h_es | assumption | omega) (by first | exact h_y | assumption | omega)) (cwV 1 hts gX6_greatestChange_X0_meansAbove rfl rfl rfl (by decide +kernel) ⟨Nat.le_of_ble_eq_true rfl, Nat.le_of_ble_eq_true rfl⟩) (xpV hPc hK (ci := 0) (q0 := 0) (q := (RX0, TX0, 11)) rfl rfl) rfl rfl hl.1 rfl (lv_room (Nat.le_of_ble_eq_true rfl)) dX6_greatestChange_34 ⟨Nat.le_of_ble_eq_true rfl, Nat.le_of_ble_eq_true rfl⟩) ?_
        refine xm_abs_long hx hb (hml.trans hl.1.symm) hown (hts (.methodLink RX6 390 Lib.MathLoose.abs_long.x) (List.mem_of_getElem? (i := 2) (by decide +kernel))) (hts (.static Lib.MathLoose.abs_long.x) (List.mem_of_getElem? (i := 3) (by decide +kernel))) (hts (.initialized "java/lang/Math") (List.mem_of_getElem? (i := 4) (by decide +kernel))) (hts (.code Lib.MathLoose.abs_long.x Lib.MathLoose.abs_long.code 2 (some .long)) (List.mem_of_getElem? (i := 5) (by decide +kernel))) (Nat.le_of_ble_eq_true rfl) (Nat.le_of_ble_eq_true rfl) (Nat.le_of_ble_eq_true rfl) (Nat.le_of_ble_eq_true rfl) dX6_greatestChange_37 (by omega) ?_
        have hz := zabs_in (a := maF ey el ex es i) (M := 7192800) (by omega)
        refine lv_lstore (lv' := [(9, .long (lI (zabs (maF ey el ex es i)))), (7, .long (lI (mbF ey ex i))), (0, .ref qW), (1, .int (iI (b0))), (2, .long (lI (b1))), (4, .long (lI (b3))), (6, .int (iI (i)))]) hx hb dX6_greatestChange_40 hl (by decide) rfl (fun ls hl => ?_)
        refine lv_lload hx hb dX6_greatestChange_42 (lv_at hl 1 rfl) ?_
        refine xi_lconst0 hx hb dX6_greatestChange_44 ?_
        refine xl_if_eq (tgt := 77) hx hb dX6_greatestChange_45 dX6_greatestChange_46 (by decide) (by omega) (fun h_4 => ?_) (fun h_4 => ?_)
        · refine xi_inc (k := 6) (lv' := [(6, .int (iI (i + 1))), (9, .long (lI (zabs (maF ey el ex es i)))), (7, .long (lI (mbF ey ex i))), (0, .ref qW), (1, .int (iI (b0))), (2, .long (lI (b1))), (4, .long (lI (b3)))]) hx hb dX6_greatestChange_77 hl rfl (by decide) rfl (fun ls hl => ?_)
          refine lv_goto (tgt := 10) hx hb dX6_greatestChange_80 (by decide) ?_
          exact ih_10 (i + 1) (b0) (b1) (b3) (by first | assumption | omega | (constructor <;> omega)) (by first | rfl | exact gcF_t (by omega) hg (by assumption) (by first | exact Or.inl (by assumption) | exact Or.inr (by omega)) | exact gcF_f (by omega) hg (by first | exact Or.inl (by assumption) | exact Or.inr ⟨by assumption, by omega⟩)) (by first | assumption | omega | (constructor <;> omega)) (by first | assumption | omega | (constructor <;> omega)) (by first | assumption | omega | (constructor <;> omega)) (by omega) ls (lv_sub hl [3, 4, 5, 6, 0] rfl)
        · refine lv_iload_n hx hb dX6_greatestChange_49 rfl (lv_at hl 3 rfl) ?_
          refine xi_const hx hb dX6_greatestChange_50 ?_
          refine xb_icmp_eq (tgt := 67) hx hb dX6_greatestChange_51 (by decide) (by omega) (fun h_5 => ?_) (fun h_5 => ?_)
          · refine lv_iload hx hb dX6_greatestChange_67 (lv_at hl 6 rfl) ?_
            refine lv_istore_n (lv' := [(1, .int (iI (i))), (9, .long (lI (zabs (maF ey el ex es i)))), (7, .long (lI (mbF ey ex i))), (0, .ref qW), (2, .long (lI (b1))), (4, .long (lI (b3))), (6, .int (iI (i)))]) hx hb dX6_greatestChange_69 rfl hl (by decide) rfl (fun ls hl => ?_)
            refine lv_lload hx hb dX6_greatestChange_70 (lv_at hl 1 rfl) ?_
            refine lv_lstore_n (lv' := [(2, .long (lI (zabs (maF ey el ex es i)))), (1, .int (iI (i))), (9, .long (lI (zabs (maF ey el ex es i)))), (7, .long (lI (mbF ey ex i))), (0, .ref qW), (4, .long (lI (b3))), (6, .int (iI (i)))]) hx hb dX6_greatestChange_72 rfl hl (by decide) rfl (fun ls hl => ?_)
            refine lv_lload hx hb dX6_greatestChange_73 (lv_at hl 3 rfl) ?_
            refine lv_lstore (lv' := [(4, .long (lI (mbF ey ex i))), (2, .long (lI (zabs (maF ey el ex es i)))), (1, .int (iI (i))), (9, .long (lI (zabs (maF ey el ex es i)))), (7, .long (lI (mbF ey ex i))), (0, .ref qW), (6, .int (iI (i)))]) hx hb dX6_greatestChange_75 hl (by decide) rfl (fun ls hl => ?_)
            refine xi_inc (k := 6) (lv' := [(6, .int (iI (i + 1))), (4, .long (lI (mbF ey ex i))), (2, .long (lI (zabs (maF ey el ex es i)))), (1, .int (iI (i))), (9, .long (lI (zabs (maF ey el ex es i)))), (7, .long (lI (mbF ey ex i))), (0, .ref qW)]) hx hb dX6_greatestChange_77 hl rfl (by decide) rfl (fun ls hl => ?_)
            refine lv_goto (tgt := 10) hx hb dX6_greatestChange_80 (by decide) ?_
            exact ih_10 (i + 1) (i) (zabs (maF ey el ex es i)) (mbF ey ex i) (by first | assumption | omega | (constructor <;> omega)) (by first | rfl | exact gcF_t (by omega) hg (by assumption) (by first | exact Or.inl (by assumption) | exact Or.inr (by omega)) | exact gcF_f (by omega) hg (by first | exact Or.inl (by assumption) | exact Or.inr ⟨by assumption, by omega⟩)) (by first | assumption | omega | (constructor <;> omega)) (by first | assumption | omega | (constructor <;> omega)) (by first | assumption | omega | (constructor <;> omega)) (by omega) ls (lv_sub hl [6, 3, 2, 1, 0] rfl)
          · refine lv_lload hx hb dX6_greatestChange_54 (lv_at hl 0 rfl) ?_
            refine lv_lload hx hb dX6_greatestChange_56 (lv_at hl 5 rfl) ?_
            refine xl_mul hx hb dX6_greatestChange_58 ?_
            refine lv_lload_n hx hb dX6_greatestChange_59 rfl (lv_at hl 4 rfl) ?_
            refine lv_lload hx hb dX6_greatestChange_60 (lv_at hl 1 rfl) ?_
            refine xl_mul hx hb dX6_greatestChange_62 ?_
            have hm5 := mul_in (a := zabs (maF ey el ex es i)) (b := b3) (A := 7192800) (B := 3600) (by omega) (by omega)
            have hm6 := mul_in (a := b1) (b := mbF ey ex i) (A := 7192800) (B := 3600) (by omega) (by omega)
            refine xl_if_le (tgt := 77) hx hb dX6_greatestChange_63 dX6_greatestChange_64 (by decide) (by omega) (fun h_6 => ?_) (fun h_6 => ?_)
            · refine xi_inc (k := 6) (lv' := [(6, .int (iI (i + 1))), (9, .long (lI (zabs (maF ey el ex es i)))), (7, .long (lI (mbF ey ex i))), (0, .ref qW), (1, .int (iI (b0))), (2, .long (lI (b1))), (4, .long (lI (b3)))]) hx hb dX6_greatestChange_77 hl rfl (by decide) rfl (fun ls hl => ?_)
              refine lv_goto (tgt := 10) hx hb dX6_greatestChange_80 (by decide) ?_
              exact ih_10 (i + 1) (b0) (b1) (b3) (by first | assumption | omega | (constructor <;> omega)) (by first | rfl | exact gcF_t (by omega) hg (by assumption) (by first | exact Or.inl (by assumption) | exact Or.inr (by omega)) | exact gcF_f (by omega) hg (by first | exact Or.inl (by assumption) | exact Or.inr ⟨by assumption, by omega⟩)) (by first | assumption | omega | (constructor <;> omega)) (by first | assumption | omega | (constructor <;> omega)) (by first | assumption | omega | (constructor <;> omega)) (by omega) ls (lv_sub hl [3, 4, 5, 6, 0] rfl)
            · refine lv_iload hx hb dX6_greatestChange_67 (lv_at hl 6 rfl) ?_
              refine lv_istore_n (lv' := [(1, .int (iI (i))), (9, .long (lI (zabs (maF ey el ex es i)))), (7, .long (lI (mbF ey ex i))), (0, .ref qW), (2, .long (lI (b1))), (4, .long (lI (b3))), (6, .int (iI (i)))]) hx hb dX6_greatestChange_69 rfl hl (by decide) rfl (fun ls hl => ?_)
              refine lv_lload hx hb dX6_greatestChange_70 (lv_at hl 1 rfl) ?_
              refine lv_lstore_n (lv' := [(2, .long (lI (zabs (maF ey el ex es i)))), (1, .int (iI (i))), (9, .long (lI (zabs (maF ey el ex es i)))), (7, .long (lI (mbF ey ex i))), (0, .ref qW), (4, .long (lI (b3))), (6, .int (iI (i)))]) hx hb dX6_greatestChange_72 rfl hl (by decide) rfl (fun ls hl => ?_)
              refine lv_lload hx hb dX6_greatestChange_73 (lv_at hl 3 rfl) ?_
              refine lv_lstore (lv' := [(4, .long (lI (mbF ey ex i))), (2, .long (lI (zabs (maF ey el ex es i)))), (1, .int (iI (i))), (9, .long (lI (zabs (maF ey el ex es i)))), (7, .long (lI (mbF ey ex i))), (0, .ref qW), (6, .int (iI (i)))]) hx hb dX6_greatestChange_75 hl (by decide) rfl (fun ls hl => ?_)
              refine xi_inc (k := 6) (lv' := [(6, .int (iI (i + 1))), (4, .long (lI (mbF ey ex i))), (2, .long (lI (zabs (maF ey el ex es i)))), (1, .int (iI (i))), (9, .long (lI (zabs (maF ey el ex es i)))), (7, .long (lI (mbF ey ex i))), (0, .ref qW)]) hx hb dX6_greatestChange_77 hl rfl (by decide) rfl (fun ls hl => ?_)
              refine lv_goto (tgt := 10) hx hb dX6_greatestChange_80 (by decide) ?_
              exact ih_10 (i + 1) (i) (zabs (maF ey el ex es i)) (mbF ey ex i) (by first | assumption | omega | (constructor <;> omega)) (by first | rfl | exact gcF_t (by omega) hg (by assumption) (by first | exact Or.inl (by assumption) | exact Or.inr (by omega)) | exact gcF_f (by omega) hg (by first | exact Or.inl (by assumption) | exact Or.inr ⟨by assumption, by omega⟩)) (by first | assumption | omega | (constructor <;> omega)) (by first | assumption | omega | (constructor <;> omega)) (by first | assumption | omega | (constructor <;> omega)) (by omega) ls (lv_sub hl [6, 3, 2, 1, 0] rfl)
  refine xi_const hx hb dX6_greatestChange_0 ?_
  refine lv_istore_n (lv' := [(1, .int (iI (-1))), (0, .ref qW)]) hx hb dX6_greatestChange_1 rfl hl (by decide) rfl (fun ls hl => ?_)
  refine xi_lconst0 hx hb dX6_greatestChange_2 ?_
  refine lv_lstore_n (lv' := [(2, .long (lI (0))), (1, .int (iI (-1))), (0, .ref qW)]) hx hb dX6_greatestChange_3 rfl hl (by decide) rfl (fun ls hl => ?_)
  refine xi_lconst1 hx hb dX6_greatestChange_4 ?_
  refine lv_lstore (lv' := [(4, .long (lI (1))), (2, .long (lI (0))), (1, .int (iI (-1))), (0, .ref qW)]) hx hb dX6_greatestChange_5 hl (by decide) rfl (fun ls hl => ?_)
  refine xi_const hx hb dX6_greatestChange_7 ?_
  refine lv_istore (lv' := [(6, .int (iI (0))), (4, .long (lI (1))), (2, .long (lI (0))), (1, .int (iI (-1))), (0, .ref qW)]) hx hb dX6_greatestChange_8 hl (by decide) rfl (fun ls hl => ?_)
  exact cut_10 ((60 - 0 : Int).toNat + 1) (0) (-1) (0) (1) (by first | assumption | omega | (constructor <;> omega)) (by first | rfl | exact gcF_t (by omega) hg (by assumption) (by first | exact Or.inl (by assumption) | exact Or.inr (by omega)) | exact gcF_f (by omega) hg (by first | exact Or.inl (by assumption) | exact Or.inr ⟨by assumption, by omega⟩)) (by first | assumption | omega | (constructor <;> omega)) (by first | assumption | omega | (constructor <;> omega)) (by first | assumption | omega | (constructor <;> omega)) (by exact Nat.lt_succ_self _) ls (lv_sub hl [4, 3, 2, 1, 0] rfl)
set_option maxHeartbeats 1000000 in
set_option maxRecDepth 100000 in
theorem c_X6_sisterYears (l : Launch) (D : va_G) (cyI cyJ cyO : ClassId) (qW : Nat) (qT : Nat) (qA : Nat) (qK : Nat) (qC : Nat) (qE : Nat) (qI : Nat) (qF : Nat) (qH : Nat) (qO : Nat) (fi : Int) (si : Int → Int) (h_si : ∀ j, -1 ≤ si j ∧ si j ≤ 999) : Met l yX6_sisterYears wsX6_sisterYears ({ frames := 0, cells := 0, slots := 0, locals := 0 }) (va_Pc [.ref qW] (xR D vwCl [(qW, .inr (6, [.ref qT, .ref qA, .ref qK, .ref qC, .ref qE, .ref qI, .ref qF, .ref qH, .ref qO, .int (iI (fi))])), (qI, .inl (cyI, 60, .inl (xA (si))))] (xT cyI cyJ cyO))) (xq (some (.int (iI (cntZ (fun j => si j ≠ -1) 60))))) 0 0 (fun _ => False) := by
  refine Met.ofW (cc := cX6_sisterYears) (maxL := 3) (ret := (some .int)) (by decide) rfl ?_
  intro p e s m args below meth c s₁ B hml hv
  obtain ⟨rfl, hP, hK⟩ := hv
  have hx := B.exec
  have hb := B.bytes
  have hr := B.returns
  have hts := atoms_spec (ws := wsX6_sisterYears) B.pre
  have hown : s.vm.findClass RX6 = some m.cls := findClass_of_methodNamed B.named
  have hlocks := B.notSynchronized
  have hcX6 : ∀ w ∈ wsX60, w ∈ wsX6_sisterYears := fun _ h => List.mem_cons_of_mem _ (List.mem_append_right _ h)
  have hP : va_P D vwCl [(qW, .inr (6, [.ref qT, .ref qA, .ref qK, .ref qC, .ref qE, .ref qI, .ref qF, .ref qH, .ref qO, .int (iI (fi))])), (qI, .inl (cyI, 60, .inl (xA (si))))] s.heap := hP
  have hl := lv_entry ([.ref qW]) (n := 3) (Nat.le_of_ble_eq_true rfl)
  rw [lg_entry_eq]
  generalize (lg_sl ([.ref qW]) ++ List.replicate (3 - (lg_sl ([.ref qW])).length) Slot.unset).toArray = ls at hl ⊢
  have hl : lv_has ls 3 [(0, .ref qW)] := hl
  have cut_4 : ∀ (N_ : Nat) (i : Int) (a : Int) (hi : 0 ≤ i ∧ i ≤ 60) (ha : a = cntZ (fun j => si j ≠ -1) i) (hN_ : (60 - i).toNat < N_) (ls : Array Slot) (hl : lv_has ls 3 [(0, .ref qW), (1, .int (iI (a))), (2, .int (iI (i)))]), W p l e (headSpec wsX6_sisterYears ({ frames := 0, cells := 0, slots := 0, locals := 0 })).room s m ([.ref qW] : List Value).toArray below meth c s.heap [] 0 0 (MQ below (xq (some (.int (iI (cntZ (fun j => si j ≠ -1) 60))))) ([.ref qW] : List Value).toArray s 0 0 (fun _ => False)) (F0 m 4 ls []) := by
    intro N_
    induction N_ with
    | zero => intro i a hi ha hN_ ls hl; exact absurd hN_ (Nat.not_lt_zero _)
    | succ N_ ih_4 =>
      intro i a hi ha hN_ ls hl
      refine lv_iload_n hx hb dX6_sisterYears_4 rfl (lv_at hl 2 rfl) ?_
      refine xi_bipush hx hb dX6_sisterYears_5 (by decide +kernel) ?_
      refine xb_icmp_ge (tgt := 29) hx hb dX6_sisterYears_7 (by decide) (by omega) (fun h_1 => ?_) (fun h_1 => ?_)
      · refine lv_iload_n hx hb dX6_sisterYears_29 rfl (lv_at hl 1 rfl) ?_
        exact W.iret (v := iI (a)) hx hb hr (fun t_ ht_ _ => ⟨congrArg (fun z => Outcome.returned (some (Value.int (iI z)))) (show (a) = (cntZ (fun j => si j ≠ -1) 60) from by rw [ha, show i = 60 from by omega]), ht_⟩) (fun _ h9 => absurd h9 List.not_mem_nil) dX6_sisterYears_30
      · refine lv_aload_n hx hb dX6_sisterYears_10 rfl (lv_at hl 0 rfl) ?_
        refine va_get (D := D) (ci := 6) (C := RX6) (T := TX6) (N := 10) hx hb hts hcX6 hown hK hP 0 rfl rfl 5 (by decide) (hts (.fieldLink RX6 49 "WallMarks" "sisterLevels" "[I") (List.mem_of_getElem? (i := 1) (by decide +kernel))) (fun _ h9 => h9) rfl dX6_sisterYears_11 ?_
        refine lv_iload_n hx hb dX6_sisterYears_14 rfl (lv_at hl 2 rfl) ?_
        refine xi_ald (D := D) hx hb hK hP 1 0 rfl rfl (by decide) (by omega) dX6_sisterYears_15 ?_
        have hr_2 := h_si (i)
        refine xi_const hx hb dX6_sisterYears_16 ?_
        refine xb_icmp_eq (tgt := 23) hx hb dX6_sisterYears_17 (by decide) (by omega) (fun h_3 => ?_) (fun h_3 => ?_)
        · refine xi_inc (k := 2) (lv' := [(2, .int (iI (i + 1))), (0, .ref qW), (1, .int (iI (a)))]) hx hb dX6_sisterYears_23 hl rfl (by decide) rfl (fun ls hl => ?_)
          refine lv_goto (tgt := 4) hx hb dX6_sisterYears_26 (by decide) ?_
          exact ih_4 (i + 1) (a) (by first | assumption | omega | (constructor <;> omega)) (by first | (rw [cntZ_t (by omega) (by omega)]; omega) | (rw [cntZ_f (by omega) (by omega)]; omega) | rfl) (by omega) ls (lv_sub hl [1, 2, 0] rfl)
        · refine xi_inc (k := 1) (lv' := [(1, .int (iI (a + 1))), (0, .ref qW), (2, .int (iI (i)))]) hx hb dX6_sisterYears_20 hl rfl (by decide) rfl (fun ls hl => ?_)
          refine xi_inc (k := 2) (lv' := [(2, .int (iI (i + 1))), (1, .int (iI (a + 1))), (0, .ref qW)]) hx hb dX6_sisterYears_23 hl rfl (by decide) rfl (fun ls hl => ?_)
          refine lv_goto (tgt := 4) hx hb dX6_sisterYears_26 (by decide) ?_
          exact ih_4 (i + 1) (a + 1) (by first | assumption | omega | (constructor <;> omega)) (by first | (rw [cntZ_t (by omega) (by omega)]; omega) | (rw [cntZ_f (by omega) (by omega)]; omega) | rfl) (by omega) ls (lv_sub hl [2, 1, 0] rfl)
  refine xi_const hx hb dX6_sisterYears_0 ?_
  refine lv_istore_n (lv' := [(1, .int (iI (0))), (0, .ref qW)]) hx hb dX6_sisterYears_1 rfl hl (by decide) rfl (fun ls hl => ?_)
  refine xi_const hx hb dX6_sisterYears_2 ?_
  refine lv_istore_n (lv' := [(2, .int (iI (0))), (1, .int (iI (0))), (0, .ref qW)]) hx hb dX6_sisterYears_3 rfl hl (by decide) rfl (fun ls hl => ?_)
  exact cut_4 ((60 - 0 : Int).toNat + 1) (0) (0) (by first | assumption | omega | (constructor <;> omega)) (by first | (rw [cntZ_t (by omega) (by omega)]; omega) | (rw [cntZ_f (by omega) (by omega)]; omega) | rfl) (by exact Nat.lt_succ_self _) ls (lv_sub hl [2, 1, 0] rfl)
set_option maxHeartbeats 1000000 in
set_option maxRecDepth 100000 in
theorem c_X6_sisterOf (l : Launch) (D : va_G) (cyI cyJ cyO : ClassId) (qW : Nat) (qT : Nat) (qA : Nat) (qK : Nat) (qC : Nat) (qE : Nat) (qI : Nat) (qF : Nat) (qH : Nat) (qO : Nat) (fi : Int) (qCy : Nat) (qCl : Nat) (qCb : Nat) (ex : Int) (be : Int) (op : Int) (es : Int) (ge : Int) (rc : Int) (lr : Int) (lw : Int) (ey : Int → Int) (si : Int → Int) (k : Int) (h_ey : ∀ j, 0 ≤ ey j ∧ ey j ≤ 59) (h_si : ∀ j, -1 ≤ si j ∧ si j ≤ 999) (h_k : 0 ≤ k ∧ k < 60) : Met l yX6_sisterOf wsX6_sisterOf ({ frames := 0, cells := 0, slots := 0, locals := 0 }) (va_Pc [.ref qW, .int (iI (k))] (xR D vwCl [(qW, .inr (6, [.ref qT, .ref qA, .ref qK, .ref qC, .ref qE, .ref qI, .ref qF, .ref qH, .ref qO, .int (iI (fi))])), (qC, .inr (0, [.ref qCy, .ref qCl, .ref qCb, .int (iI (ex)), .int (iI (be)), .int (iI (op)), .int (iI (es)), .int (iI (ge)), .int (iI (rc)), .int (iI (lr)), .int (iI (lw))])), (qCy, .inl (cyI, 60, .inl (xA (ey)))), (qI, .inl (cyI, 60, .inl (xA (si))))] (xT cyI cyJ cyO))) (xq (some (.int (iI (si (ey k)))))) 0 0 (fun _ => False) := by
  refine Met.ofW (cc := cX6_sisterOf) (maxL := 2) (ret := (some .int)) (by decide) rfl ?_
  intro p e s m args below meth c s₁ B hml hv
  obtain ⟨rfl, hP, hK⟩ := hv
  have hx := B.exec
  have hb := B.bytes
  have hr := B.returns
  have hts := atoms_spec (ws := wsX6_sisterOf) B.pre
  have hown : s.vm.findClass RX6 = some m.cls := findClass_of_methodNamed B.named
  have hlocks := B.notSynchronized
  have hcX0 : ∀ w ∈ wsX00, w ∈ wsX6_sisterOf := fun _ h => List.mem_cons_of_mem _ (List.mem_append_right _ h)
  have hcX6 : ∀ w ∈ wsX60, w ∈ wsX6_sisterOf := fun _ h => List.mem_cons_of_mem _ (List.mem_append_left _ (List.mem_append_right _ h))
  have hP : va_P D vwCl [(qW, .inr (6, [.ref qT, .ref qA, .ref qK, .ref qC, .ref qE, .ref qI, .ref qF, .ref qH, .ref qO, .int (iI (fi))])), (qC, .inr (0, [.ref qCy, .ref qCl, .ref qCb, .int (iI (ex)), .int (iI (be)), .int (iI (op)), .int (iI (es)), .int (iI (ge)), .int (iI (rc)), .int (iI (lr)), .int (iI (lw))])), (qCy, .inl (cyI, 60, .inl (xA (ey)))), (qI, .inl (cyI, 60, .inl (xA (si))))] s.heap := hP
  have hl := lv_entry ([.ref qW, .int (iI (k))]) (n := 2) (Nat.le_of_ble_eq_true rfl)
  rw [lg_entry_eq]
  generalize (lg_sl ([.ref qW, .int (iI (k))]) ++ List.replicate (2 - (lg_sl ([.ref qW, .int (iI (k))])).length) Slot.unset).toArray = ls at hl ⊢
  have hl : lv_has ls 2 [(0, .ref qW), (1, .int (iI (k)))] := hl
  refine lv_aload_n hx hb dX6_sisterOf_0 rfl (lv_at hl 0 rfl) ?_
  refine va_get (D := D) (ci := 6) (C := RX6) (T := TX6) (N := 10) hx hb hts hcX6 hown hK hP 0 rfl rfl 5 (by decide) (hts (.fieldLink RX6 49 "WallMarks" "sisterLevels" "[I") (List.mem_of_getElem? (i := 1) (by decide +kernel))) (fun _ h9 => h9) rfl dX6_sisterOf_1 ?_
  refine lv_aload_n hx hb dX6_sisterOf_4 rfl (lv_at hl 0 rfl) ?_
  refine va_get (D := D) (ci := 6) (C := RX6) (T := TX6) (N := 10) hx hb hts hcX6 hown hK hP 0 rfl rfl 3 (by decide) (hts (.fieldLink RX6 33 "WallMarks" "counted" "LWallMarks$Counted;") (List.mem_of_getElem? (i := 2) (by decide +kernel))) (fun _ h9 => h9) rfl dX6_sisterOf_5 ?_
  refine va_get (D := D) (ci := 0) (C := RX0) (T := TX0) (N := 11) hx hb hts hcX0 hown hK hP 1 rfl rfl 0 (by decide) (hts (.fieldLink RX6 417 "WallMarks$Counted" "exactYears" "[I") (List.mem_of_getElem? (i := 3) (by decide +kernel))) (fun _ h9 => h9) rfl dX6_sisterOf_8 ?_
  refine lv_iload_n hx hb dX6_sisterOf_11 rfl (lv_at hl 1 rfl) ?_
  refine xi_ald (D := D) hx hb hK hP 2 0 rfl rfl (by decide) (by omega) dX6_sisterOf_12 ?_
  have hr_1 := h_ey (k)
  refine xi_ald (D := D) hx hb hK hP 3 0 rfl rfl (by decide) (by omega) dX6_sisterOf_13 ?_
  have hr_2 := h_si (ey (k))
  exact W.iret (v := iI (si (ey (k)))) hx hb hr (fun t_ ht_ _ => ⟨congrArg (fun z => Outcome.returned (some (Value.int (iI z)))) (show (si (ey (k))) = (si (ey k)) from by first | rfl | omega), ht_⟩) (fun _ h9 => absurd h9 List.not_mem_nil) dX6_sisterOf_14
set_option maxHeartbeats 1000000 in
set_option maxRecDepth 100000 in
theorem c_X6_commonYears (l : Launch) (D : va_G) (cyI cyJ cyO : ClassId) (qW : Nat) (qT : Nat) (qA : Nat) (qK : Nat) (qC : Nat) (qE : Nat) (qI : Nat) (qF : Nat) (qH : Nat) (qO : Nat) (fi : Int) (qCy : Nat) (qCl : Nat) (qCb : Nat) (ex : Int) (be : Int) (op : Int) (es : Int) (ge : Int) (rc : Int) (lr : Int) (lw : Int) (ey : Int → Int) (si : Int → Int) (h_ex : 0 ≤ ex ∧ ex ≤ 60) (h_be : 0 ≤ be ∧ be ≤ 60) (h_op : 0 ≤ op ∧ op ≤ 60) (h_ey : ∀ j, 0 ≤ ey j ∧ ey j ≤ 59) (h_si : ∀ j, -1 ≤ si j ∧ si j ≤ 999) : Met l yX6_commonYears wsX6_commonYears ({ frames := 1, cells := 0, slots := 0, locals := 21 }) (va_Pc [.ref qW] (xR D vwCl [(qW, .inr (6, [.ref qT, .ref qA, .ref qK, .ref qC, .ref qE, .ref qI, .ref qF, .ref qH, .ref qO, .int (iI (fi))])), (qC, .inr (0, [.ref qCy, .ref qCl, .ref qCb, .int (iI (ex)), .int (iI (be)), .int (iI (op)), .int (iI (es)), .int (iI (ge)), .int (iI (rc)), .int (iI (lr)), .int (iI (lw))])), (qCy, .inl (cyI, 60, .inl (xA (ey)))), (qI, .inl (cyI, 60, .inl (xA (si))))] (xT cyI cyJ cyO))) (xq (some (.int (iI (cntZ (fun j => si (ey j) ≠ -1) ex))))) 0 0 (fun _ => False) := by
  refine Met.ofW (cc := cX6_commonYears) (maxL := 3) (ret := (some .int)) (by decide) rfl ?_
  intro p e s m args below meth c s₁ B hml hv
  obtain ⟨rfl, hP, hK⟩ := hv
  have hx := B.exec
  have hb := B.bytes
  have hr := B.returns
  have hts := atoms_spec (ws := wsX6_commonYears) B.pre
  have hown : s.vm.findClass RX6 = some m.cls := findClass_of_methodNamed B.named
  have hlocks := B.notSynchronized
  have hcX0 : ∀ w ∈ wsX00, w ∈ wsX6_commonYears := fun _ h => List.mem_cons_of_mem _ (List.mem_append_right _ h)
  have hcX6 : ∀ w ∈ wsX60, w ∈ wsX6_commonYears := fun _ h => List.mem_cons_of_mem _ (List.mem_append_left _ (List.mem_append_right _ h))
  have hP : va_P D vwCl [(qW, .inr (6, [.ref qT, .ref qA, .ref qK, .ref qC, .ref qE, .ref qI, .ref qF, .ref qH, .ref qO, .int (iI (fi))])), (qC, .inr (0, [.ref qCy, .ref qCl, .ref qCb, .int (iI (ex)), .int (iI (be)), .int (iI (op)), .int (iI (es)), .int (iI (ge)), .int (iI (rc)), .int (iI (lr)), .int (iI (lw))])), (qCy, .inl (cyI, 60, .inl (xA (ey)))), (qI, .inl (cyI, 60, .inl (xA (si))))] s.heap := hP
  have hl := lv_entry ([.ref qW]) (n := 3) (Nat.le_of_ble_eq_true rfl)
  rw [lg_entry_eq]
  generalize (lg_sl ([.ref qW]) ++ List.replicate (3 - (lg_sl ([.ref qW])).length) Slot.unset).toArray = ls at hl ⊢
  have hl : lv_has ls 3 [(0, .ref qW)] := hl
  have cut_4 : ∀ (N_ : Nat) (i : Int) (a : Int) (hi : 0 ≤ i ∧ i ≤ ex) (ha : a = cntZ (fun j => si (ey j) ≠ -1) i) (hN_ : (ex - i).toNat < N_) (ls : Array Slot) (hl : lv_has ls 3 [(0, .ref qW), (1, .int (iI (a))), (2, .int (iI (i)))]), W p l e (headSpec wsX6_commonYears ({ frames := 1, cells := 0, slots := 0, locals := 21 })).room s m ([.ref qW] : List Value).toArray below meth c s.heap [] 0 0 (MQ below (xq (some (.int (iI (cntZ (fun j => si (ey j) ≠ -1) ex))))) ([.ref qW] : List Value).toArray s 0 0 (fun _ => False)) (F0 m 4 ls []) := by
    intro N_
    induction N_ with
    | zero => intro i a hi ha hN_ ls hl; exact absurd hN_ (Nat.not_lt_zero _)
    | succ N_ ih_4 =>
      intro i a hi ha hN_ ls hl
      refine lv_iload_n hx hb dX6_commonYears_4 rfl (lv_at hl 2 rfl) ?_
      refine lv_aload_n hx hb dX6_commonYears_5 rfl (lv_at hl 0 rfl) ?_
      refine va_get (D := D) (ci := 6) (C := RX6) (T := TX6) (N := 10) hx hb hts hcX6 hown hK hP 0 rfl rfl 3 (by decide) (hts (.fieldLink RX6 33 "WallMarks" "counted" "LWallMarks$Counted;") (List.mem_of_getElem? (i := 1) (by decide +kernel))) (fun _ h9 => h9) rfl dX6_commonYears_6 ?_
      refine va_get (D := D) (ci := 0) (C := RX0) (T := TX0) (N := 11) hx hb hts hcX0 hown hK hP 1 rfl rfl 3 (by decide) (hts (.fieldLink RX6 170 "WallMarks$Counted" "exacts" "I") (List.mem_of_getElem? (i := 2) (by decide +kernel))) (fun _ h9 => h9) rfl dX6_commonYears_9 ?_
      refine xb_icmp_ge (tgt := 33) hx hb dX6_commonYears_12 (by decide) (by omega) (fun h_1 => ?_) (fun h_1 => ?_)
      · refine lv_iload_n hx hb dX6_commonYears_33 rfl (lv_at hl 1 rfl) ?_
        exact W.iret (v := iI (a)) hx hb hr (fun t_ ht_ _ => ⟨congrArg (fun z => Outcome.returned (some (Value.int (iI z)))) (show (a) = (cntZ (fun j => si (ey j) ≠ -1) ex) from by rw [ha, show i = ex from by omega]), ht_⟩) (fun _ h9 => absurd h9 List.not_mem_nil) dX6_commonYears_34
      · refine lv_aload_n hx hb dX6_commonYears_15 rfl (lv_at hl 0 rfl) ?_
        refine lv_iload_n hx hb dX6_commonYears_16 rfl (lv_at hl 2 rfl) ?_
        have hf_2 := h_si (ey i)
        have hPc := hP.sub (ws' := [(qW, .inr (6, [.ref qT, .ref qA, .ref qK, .ref qC, .ref qE, .ref qI, .ref qF, .ref qH, .ref qO, .int (iI (fi))])), (qC, .inr (0, [.ref qCy, .ref qCl, .ref qCb, .int (iI (ex)), .int (iI (be)), .int (iI (op)), .int (iI (es)), .int (iI (ge)), .int (iI (rc)), .int (iI (lr)), .int (iI (lw))])), (qCy, .inl (cyI, 60, .inl (xA (ey)))), (qI, .inl (cyI, 60, .inl (xA (si))))]) [0, 1, 2, 3] rfl
        refine xc_i (va_runV (As := [.int (iI (i))]) (rest := []) ⟨hx, hb, hml, hown, hts⟩ (c_X6_sisterOf l D cyI cyJ cyO qW qT qA qK qC qE qI qF qH qO fi qCy qCl qCb ex be op es ge rc lr lw ey si i (by first | exact h_ey | assumption | omega) (by first | exact h_si | assumption | omega) (by first | exact h_k | assumption | omega)) (cwV 1 hts gX6_commonYears_X6_sisterOf rfl rfl rfl (by decide +kernel) ⟨Nat.le_of_ble_eq_true rfl, Nat.le_of_ble_eq_true rfl⟩) (xpV hPc hK (ci := 6) (q0 := 0) (q := (RX6, TX6, 10)) rfl rfl) rfl rfl hl.1 rfl (lv_room (Nat.le_of_ble_eq_true rfl)) dX6_commonYears_17 ⟨Nat.le_of_ble_eq_true rfl, Nat.le_of_ble_eq_true rfl⟩) ?_
        refine xi_const hx hb dX6_commonYears_20 ?_
        refine xb_icmp_eq (tgt := 27) hx hb dX6_commonYears_21 (by decide) (by omega) (fun h_3 => ?_) (fun h_3 => ?_)
        · refine xi_inc (k := 2) (lv' := [(2, .int (iI (i + 1))), (0, .ref qW), (1, .int (iI (a)))]) hx hb dX6_commonYears_27 hl rfl (by decide) rfl (fun ls hl => ?_)
          refine lv_goto (tgt := 4) hx hb dX6_commonYears_30 (by decide) ?_
          exact ih_4 (i + 1) (a) (by first | assumption | omega | (constructor <;> omega)) (by first | (rw [cntZ_t (by omega) (by omega)]; omega) | (rw [cntZ_f (by omega) (by omega)]; omega) | rfl) (by omega) ls (lv_sub hl [1, 2, 0] rfl)
        · refine xi_inc (k := 1) (lv' := [(1, .int (iI (a + 1))), (0, .ref qW), (2, .int (iI (i)))]) hx hb dX6_commonYears_24 hl rfl (by decide) rfl (fun ls hl => ?_)
          refine xi_inc (k := 2) (lv' := [(2, .int (iI (i + 1))), (1, .int (iI (a + 1))), (0, .ref qW)]) hx hb dX6_commonYears_27 hl rfl (by decide) rfl (fun ls hl => ?_)
          refine lv_goto (tgt := 4) hx hb dX6_commonYears_30 (by decide) ?_
          exact ih_4 (i + 1) (a + 1) (by first | assumption | omega | (constructor <;> omega)) (by first | (rw [cntZ_t (by omega) (by omega)]; omega) | (rw [cntZ_f (by omega) (by omega)]; omega) | rfl) (by omega) ls (lv_sub hl [2, 1, 0] rfl)
  refine xi_const hx hb dX6_commonYears_0 ?_
  refine lv_istore_n (lv' := [(1, .int (iI (0))), (0, .ref qW)]) hx hb dX6_commonYears_1 rfl hl (by decide) rfl (fun ls hl => ?_)
  refine xi_const hx hb dX6_commonYears_2 ?_
  refine lv_istore_n (lv' := [(2, .int (iI (0))), (1, .int (iI (0))), (0, .ref qW)]) hx hb dX6_commonYears_3 rfl hl (by decide) rfl (fun ls hl => ?_)
  exact cut_4 ((ex - 0 : Int).toNat + 1) (0) (0) (by first | assumption | omega | (constructor <;> omega)) (by first | (rw [cntZ_t (by omega) (by omega)]; omega) | (rw [cntZ_f (by omega) (by omega)]; omega) | rfl) (by exact Nat.lt_succ_self _) ls (lv_sub hl [2, 1, 0] rfl)
set_option maxHeartbeats 1000000 in
set_option maxRecDepth 100000 in
theorem c_X6_tie (l : Launch) (D : va_G) (cyI cyJ cyO : ClassId) (qW : Nat) (qT : Nat) (qA : Nat) (qK : Nat) (qC : Nat) (qE : Nat) (qI : Nat) (qF : Nat) (qH : Nat) (qO : Nat) (fi : Int) (qCy : Nat) (qCl : Nat) (qCb : Nat) (ex : Int) (be : Int) (op : Int) (es : Int) (ge : Int) (rc : Int) (lr : Int) (lw : Int) (ey : Int → Int) (el : Int → Int) (si : Int → Int) (a : Int) (b : Int) (h_ey : ∀ j, 0 ≤ ey j ∧ ey j ≤ 59) (h_el : ∀ j, 0 ≤ el j ∧ el j ≤ 999) (h_si : ∀ j, -1 ≤ si j ∧ si j ≤ 999) (h_a : 0 ≤ a ∧ a < 60) (h_b : 0 ≤ b ∧ b < 60) : Met l yX6_tie wsX6_tie ({ frames := 1, cells := 0, slots := 0, locals := 21 }) (va_Pc [.ref qW, .int (iI (a)), .int (iI (b))] (xR D vwCl [(qW, .inr (6, [.ref qT, .ref qA, .ref qK, .ref qC, .ref qE, .ref qI, .ref qF, .ref qH, .ref qO, .int (iI (fi))])), (qC, .inr (0, [.ref qCy, .ref qCl, .ref qCb, .int (iI (ex)), .int (iI (be)), .int (iI (op)), .int (iI (es)), .int (iI (ge)), .int (iI (rc)), .int (iI (lr)), .int (iI (lw))])), (qCy, .inl (cyI, 60, .inl (xA (ey)))), (qCl, .inl (cyI, 60, .inl (xA (el)))), (qI, .inl (cyI, 60, .inl (xA (si))))] (xT cyI cyJ cyO))) (xq (some (.int (iI (tieF si ey el a b))))) 0 0 (fun _ => False) := by
  refine Met.ofW (cc := cX6_tie) (maxL := 3) (ret := (some .int)) (by decide) rfl ?_
  intro p e s m args below meth c s₁ B hml hv
  obtain ⟨rfl, hP, hK⟩ := hv
  have hx := B.exec
  have hb := B.bytes
  have hr := B.returns
  have hts := atoms_spec (ws := wsX6_tie) B.pre
  have hown : s.vm.findClass RX6 = some m.cls := findClass_of_methodNamed B.named
  have hlocks := B.notSynchronized
  have hcX0 : ∀ w ∈ wsX00, w ∈ wsX6_tie := fun _ h => List.mem_cons_of_mem _ (List.mem_append_right _ h)
  have hcX6 : ∀ w ∈ wsX60, w ∈ wsX6_tie := fun _ h => List.mem_cons_of_mem _ (List.mem_append_left _ (List.mem_append_right _ h))
  have hP : va_P D vwCl [(qW, .inr (6, [.ref qT, .ref qA, .ref qK, .ref qC, .ref qE, .ref qI, .ref qF, .ref qH, .ref qO, .int (iI (fi))])), (qC, .inr (0, [.ref qCy, .ref qCl, .ref qCb, .int (iI (ex)), .int (iI (be)), .int (iI (op)), .int (iI (es)), .int (iI (ge)), .int (iI (rc)), .int (iI (lr)), .int (iI (lw))])), (qCy, .inl (cyI, 60, .inl (xA (ey)))), (qCl, .inl (cyI, 60, .inl (xA (el)))), (qI, .inl (cyI, 60, .inl (xA (si))))] s.heap := hP
  have hl := lv_entry ([.ref qW, .int (iI (a)), .int (iI (b))]) (n := 3) (Nat.le_of_ble_eq_true rfl)
  rw [lg_entry_eq]
  generalize (lg_sl ([.ref qW, .int (iI (a)), .int (iI (b))]) ++ List.replicate (3 - (lg_sl ([.ref qW, .int (iI (a)), .int (iI (b))])).length) Slot.unset).toArray = ls at hl ⊢
  have hl : lv_has ls 3 [(0, .ref qW), (1, .int (iI (a))), (2, .int (iI (b)))] := hl
  refine lv_aload_n hx hb dX6_tie_0 rfl (lv_at hl 0 rfl) ?_
  refine lv_iload_n hx hb dX6_tie_1 rfl (lv_at hl 1 rfl) ?_
  have hf_1 := h_si (ey a)
  have hPc := hP.sub (ws' := [(qW, .inr (6, [.ref qT, .ref qA, .ref qK, .ref qC, .ref qE, .ref qI, .ref qF, .ref qH, .ref qO, .int (iI (fi))])), (qC, .inr (0, [.ref qCy, .ref qCl, .ref qCb, .int (iI (ex)), .int (iI (be)), .int (iI (op)), .int (iI (es)), .int (iI (ge)), .int (iI (rc)), .int (iI (lr)), .int (iI (lw))])), (qCy, .inl (cyI, 60, .inl (xA (ey)))), (qI, .inl (cyI, 60, .inl (xA (si))))]) [0, 1, 2, 4] rfl
  refine xc_i (va_runV (As := [.int (iI (a))]) (rest := []) ⟨hx, hb, hml, hown, hts⟩ (c_X6_sisterOf l D cyI cyJ cyO qW qT qA qK qC qE qI qF qH qO fi qCy qCl qCb ex be op es ge rc lr lw ey si a (by first | exact h_ey | assumption | omega) (by first | exact h_si | assumption | omega) (by first | exact h_k | assumption | omega)) (cwV 1 hts gX6_tie_X6_sisterOf rfl rfl rfl (by decide +kernel) ⟨Nat.le_of_ble_eq_true rfl, Nat.le_of_ble_eq_true rfl⟩) (xpV hPc hK (ci := 6) (q0 := 0) (q := (RX6, TX6, 10)) rfl rfl) rfl rfl hl.1 rfl (lv_room (Nat.le_of_ble_eq_true rfl)) dX6_tie_2 ⟨Nat.le_of_ble_eq_true rfl, Nat.le_of_ble_eq_true rfl⟩) ?_
  refine xi_const hx hb dX6_tie_5 ?_
  refine xb_icmp_eq (tgt := 18) hx hb dX6_tie_6 (by decide) (by omega) (fun h_2 => ?_) (fun h_2 => ?_)
  · refine xi_const hx hb dX6_tie_18 ?_
    exact W.iret (v := iI (0)) hx hb hr (fun t_ ht_ _ => ⟨congrArg (fun z => Outcome.returned (some (Value.int (iI z)))) (show (0) = (tieF si ey el a b) from by unfold tieF; first | rw [if_pos (by omega)] | rw [if_neg (by omega)]), ht_⟩) (fun _ h9 => absurd h9 List.not_mem_nil) dX6_tie_19
  · refine lv_aload_n hx hb dX6_tie_9 rfl (lv_at hl 0 rfl) ?_
    refine lv_iload_n hx hb dX6_tie_10 rfl (lv_at hl 2 rfl) ?_
    have hf_3 := h_si (ey b)
    have hPc := hP.sub (ws' := [(qW, .inr (6, [.ref qT, .ref qA, .ref qK, .ref qC, .ref qE, .ref qI, .ref qF, .ref qH, .ref qO, .int (iI (fi))])), (qC, .inr (0, [.ref qCy, .ref qCl, .ref qCb, .int (iI (ex)), .int (iI (be)), .int (iI (op)), .int (iI (es)), .int (iI (ge)), .int (iI (rc)), .int (iI (lr)), .int (iI (lw))])), (qCy, .inl (cyI, 60, .inl (xA (ey)))), (qI, .inl (cyI, 60, .inl (xA (si))))]) [0, 1, 2, 4] rfl
    refine xc_i (va_runV (As := [.int (iI (b))]) (rest := []) ⟨hx, hb, hml, hown, hts⟩ (c_X6_sisterOf l D cyI cyJ cyO qW qT qA qK qC qE qI qF qH qO fi qCy qCl qCb ex be op es ge rc lr lw ey si b (by first | exact h_ey | assumption | omega) (by first | exact h_si | assumption | omega) (by first | exact h_k | assumption | omega)) (cwV 1 hts gX6_tie_X6_sisterOf rfl rfl rfl (by decide +kernel) ⟨Nat.le_of_ble_eq_true rfl, Nat.le_of_ble_eq_true rfl⟩) (xpV hPc hK (ci := 6) (q0 := 0) (q := (RX6, TX6, 10)) rfl rfl) rfl rfl hl.1 rfl (lv_room (Nat.le_of_ble_eq_true rfl)) dX6_tie_11 ⟨Nat.le_of_ble_eq_true rfl, Nat.le_of_ble_eq_true rfl⟩) ?_
    refine xi_const hx hb dX6_tie_14 ?_
    refine xb_icmp_ne (tgt := 20) hx hb dX6_tie_15 (by decide) (by omega) (fun h_4 => ?_) (fun h_4 => ?_)
    · refine lv_aload_n hx hb dX6_tie_20 rfl (lv_at hl 0 rfl) ?_
      refine va_get (D := D) (ci := 6) (C := RX6) (T := TX6) (N := 10) hx hb hts hcX6 hown hK hP 0 rfl rfl 3 (by decide) (hts (.fieldLink RX6 33 "WallMarks" "counted" "LWallMarks$Counted;") (List.mem_of_getElem? (i := 1) (by decide +kernel))) (fun _ h9 => h9) rfl dX6_tie_21 ?_
      refine va_get (D := D) (ci := 0) (C := RX0) (T := TX0) (N := 11) hx hb hts hcX0 hown hK hP 1 rfl rfl 1 (by decide) (hts (.fieldLink RX6 173 "WallMarks$Counted" "exactLevels" "[I") (List.mem_of_getElem? (i := 2) (by decide +kernel))) (fun _ h9 => h9) rfl dX6_tie_24 ?_
      refine lv_iload_n hx hb dX6_tie_27 rfl (lv_at hl 1 rfl) ?_
      refine xi_ald (D := D) hx hb hK hP 3 0 rfl rfl (by decide) (by omega) dX6_tie_28 ?_
      have hr_5 := h_el (a)
      refine lv_aload_n hx hb dX6_tie_29 rfl (lv_at hl 0 rfl) ?_
      refine va_get (D := D) (ci := 6) (C := RX6) (T := TX6) (N := 10) hx hb hts hcX6 hown hK hP 0 rfl rfl 3 (by decide) (hts (.fieldLink RX6 33 "WallMarks" "counted" "LWallMarks$Counted;") (List.mem_of_getElem? (i := 1) (by decide +kernel))) (fun _ h9 => h9) rfl dX6_tie_30 ?_
      refine va_get (D := D) (ci := 0) (C := RX0) (T := TX0) (N := 11) hx hb hts hcX0 hown hK hP 1 rfl rfl 1 (by decide) (hts (.fieldLink RX6 173 "WallMarks$Counted" "exactLevels" "[I") (List.mem_of_getElem? (i := 2) (by decide +kernel))) (fun _ h9 => h9) rfl dX6_tie_33 ?_
      refine lv_iload_n hx hb dX6_tie_36 rfl (lv_at hl 2 rfl) ?_
      refine xi_ald (D := D) hx hb hK hP 3 0 rfl rfl (by decide) (by omega) dX6_tie_37 ?_
      have hr_6 := h_el (b)
      have hPc := hP.sub (ws' := []) [] rfl
      refine xc_i (va_runS (As := [.int (iI (el (a))), .int (iI (el (b)))]) (rest := []) ⟨hx, hb, hml, hown, hts⟩ (c_X6_direction l D cyI cyJ cyO (el (a)) (el (b)) (by first | exact h_f | assumption | omega) (by first | exact h_t | assumption | omega)) (va_cwS 2 hts gX6_tie_X6_direction rfl rfl rfl (by decide +kernel) ⟨Nat.le_of_ble_eq_true rfl, Nat.le_of_ble_eq_true rfl⟩) (xpS hPc hK) rfl rfl hl.1 rfl (lv_room (Nat.le_of_ble_eq_true rfl)) dX6_tie_38 ⟨Nat.le_of_ble_eq_true rfl, Nat.le_of_ble_eq_true rfl⟩) ?_
      refine lv_aload_n hx hb dX6_tie_41 rfl (lv_at hl 0 rfl) ?_
      refine lv_iload_n hx hb dX6_tie_42 rfl (lv_at hl 1 rfl) ?_
      have hf_7 := h_si (ey a)
      have hPc := hP.sub (ws' := [(qW, .inr (6, [.ref qT, .ref qA, .ref qK, .ref qC, .ref qE, .ref qI, .ref qF, .ref qH, .ref qO, .int (iI (fi))])), (qC, .inr (0, [.ref qCy, .ref qCl, .ref qCb, .int (iI (ex)), .int (iI (be)), .int (iI (op)), .int (iI (es)), .int (iI (ge)), .int (iI (rc)), .int (iI (lr)), .int (iI (lw))])), (qCy, .inl (cyI, 60, .inl (xA (ey)))), (qI, .inl (cyI, 60, .inl (xA (si))))]) [0, 1, 2, 4] rfl
      refine xc_i (va_runV (As := [.int (iI (a))]) (rest := [.int (iI (zsg (el (a)) (el (b))))]) ⟨hx, hb, hml, hown, hts⟩ (c_X6_sisterOf l D cyI cyJ cyO qW qT qA qK qC qE qI qF qH qO fi qCy qCl qCb ex be op es ge rc lr lw ey si a (by first | exact h_ey | assumption | omega) (by first | exact h_si | assumption | omega) (by first | exact h_k | assumption | omega)) (cwV 1 hts gX6_tie_X6_sisterOf rfl rfl rfl (by decide +kernel) ⟨Nat.le_of_ble_eq_true rfl, Nat.le_of_ble_eq_true rfl⟩) (xpV hPc hK (ci := 6) (q0 := 0) (q := (RX6, TX6, 10)) rfl rfl) rfl rfl hl.1 rfl (lv_room (Nat.le_of_ble_eq_true rfl)) dX6_tie_43 ⟨Nat.le_of_ble_eq_true rfl, Nat.le_of_ble_eq_true rfl⟩) ?_
      refine lv_aload_n hx hb dX6_tie_46 rfl (lv_at hl 0 rfl) ?_
      refine lv_iload_n hx hb dX6_tie_47 rfl (lv_at hl 2 rfl) ?_
      have hf_8 := h_si (ey b)
      have hPc := hP.sub (ws' := [(qW, .inr (6, [.ref qT, .ref qA, .ref qK, .ref qC, .ref qE, .ref qI, .ref qF, .ref qH, .ref qO, .int (iI (fi))])), (qC, .inr (0, [.ref qCy, .ref qCl, .ref qCb, .int (iI (ex)), .int (iI (be)), .int (iI (op)), .int (iI (es)), .int (iI (ge)), .int (iI (rc)), .int (iI (lr)), .int (iI (lw))])), (qCy, .inl (cyI, 60, .inl (xA (ey)))), (qI, .inl (cyI, 60, .inl (xA (si))))]) [0, 1, 2, 4] rfl
      refine xc_i (va_runV (As := [.int (iI (b))]) (rest := [.int (iI (si (ey a))), .int (iI (zsg (el (a)) (el (b))))]) ⟨hx, hb, hml, hown, hts⟩ (c_X6_sisterOf l D cyI cyJ cyO qW qT qA qK qC qE qI qF qH qO fi qCy qCl qCb ex be op es ge rc lr lw ey si b (by first | exact h_ey | assumption | omega) (by first | exact h_si | assumption | omega) (by first | exact h_k | assumption | omega)) (cwV 1 hts gX6_tie_X6_sisterOf rfl rfl rfl (by decide +kernel) ⟨Nat.le_of_ble_eq_true rfl, Nat.le_of_ble_eq_true rfl⟩) (xpV hPc hK (ci := 6) (q0 := 0) (q := (RX6, TX6, 10)) rfl rfl) rfl rfl hl.1 rfl (lv_room (Nat.le_of_ble_eq_true rfl)) dX6_tie_48 ⟨Nat.le_of_ble_eq_true rfl, Nat.le_of_ble_eq_true rfl⟩) ?_
      have hPc := hP.sub (ws' := []) [] rfl
      refine xc_i (va_runS (As := [.int (iI (si (ey a))), .int (iI (si (ey b)))]) (rest := [.int (iI (zsg (el (a)) (el (b))))]) ⟨hx, hb, hml, hown, hts⟩ (c_X6_direction l D cyI cyJ cyO (si (ey a)) (si (ey b)) (by first | exact h_f | assumption | omega) (by first | exact h_t | assumption | omega)) (va_cwS 2 hts gX6_tie_X6_direction rfl rfl rfl (by decide +kernel) ⟨Nat.le_of_ble_eq_true rfl, Nat.le_of_ble_eq_true rfl⟩) (xpS hPc hK) rfl rfl hl.1 rfl (lv_room (Nat.le_of_ble_eq_true rfl)) dX6_tie_51 ⟨Nat.le_of_ble_eq_true rfl, Nat.le_of_ble_eq_true rfl⟩) ?_
      refine xi_mul hx hb dX6_tie_54 ?_
      exact W.iret (v := iI ((zsg (el (a)) (el (b))) * (zsg (si (ey a)) (si (ey b))))) hx hb hr (fun t_ ht_ _ => ⟨congrArg (fun z => Outcome.returned (some (Value.int (iI z)))) (show ((zsg (el (a)) (el (b))) * (zsg (si (ey a)) (si (ey b)))) = (tieF si ey el a b) from by unfold tieF; first | rw [if_pos (by omega)] | rw [if_neg (by omega)]), ht_⟩) (fun _ h9 => absurd h9 List.not_mem_nil) dX6_tie_55
    · refine xi_const hx hb dX6_tie_18 ?_
      exact W.iret (v := iI (0)) hx hb hr (fun t_ ht_ _ => ⟨congrArg (fun z => Outcome.returned (some (Value.int (iI z)))) (show (0) = (tieF si ey el a b) from by unfold tieF; first | rw [if_pos (by omega)] | rw [if_neg (by omega)]), ht_⟩) (fun _ h9 => absurd h9 List.not_mem_nil) dX6_tie_19
set_option maxHeartbeats 1000000 in
set_option maxRecDepth 100000 in
theorem c_X6_ties (l : Launch) (D : va_G) (cyI cyJ cyO : ClassId) (qW : Nat) (qT : Nat) (qA : Nat) (qK : Nat) (qC : Nat) (qE : Nat) (qI : Nat) (qF : Nat) (qH : Nat) (qO : Nat) (fi : Int) (qCy : Nat) (qCl : Nat) (qCb : Nat) (ex : Int) (be : Int) (op : Int) (es : Int) (ge : Int) (rc : Int) (lr : Int) (lw : Int) (ey : Int → Int) (el : Int → Int) (si : Int → Int) (h_ex : 0 ≤ ex ∧ ex ≤ 60) (h_be : 0 ≤ be ∧ be ≤ 60) (h_op : 0 ≤ op ∧ op ≤ 60) (h_ey : ∀ j, 0 ≤ ey j ∧ ey j ≤ 59) (h_el : ∀ j, 0 ≤ el j ∧ el j ≤ 999) (h_si : ∀ j, -1 ≤ si j ∧ si j ≤ 999) : Met l yX6_ties wsX6_ties ({ frames := 2, cells := 0, slots := 0, locals := 43 }) (va_Pc [.ref qW] (xR D vwCl [(qW, .inr (6, [.ref qT, .ref qA, .ref qK, .ref qC, .ref qE, .ref qI, .ref qF, .ref qH, .ref qO, .int (iI (fi))])), (qC, .inr (0, [.ref qCy, .ref qCl, .ref qCb, .int (iI (ex)), .int (iI (be)), .int (iI (op)), .int (iI (es)), .int (iI (ge)), .int (iI (rc)), .int (iI (lr)), .int (iI (lw))])), (qCy, .inl (cyI, 60, .inl (xA (ey)))), (qCl, .inl (cyI, 60, .inl (xA (el)))), (qI, .inl (cyI, 60, .inl (xA (si))))] (xT cyI cyJ cyO))) (xq (some (.int (iI (tieT si ey el ex))))) 0 0 (fun _ => False) := by
  refine Met.ofW (cc := cX6_ties) (maxL := 4) (ret := (some .int)) (by decide) rfl ?_
  intro p e s m args below meth c s₁ B hml hv
  obtain ⟨rfl, hP, hK⟩ := hv
  have hx := B.exec
  have hb := B.bytes
  have hr := B.returns
  have hts := atoms_spec (ws := wsX6_ties) B.pre
  have hown : s.vm.findClass RX6 = some m.cls := findClass_of_methodNamed B.named
  have hlocks := B.notSynchronized
  have hcX0 : ∀ w ∈ wsX00, w ∈ wsX6_ties := fun _ h => List.mem_cons_of_mem _ (List.mem_append_right _ h)
  have hcX6 : ∀ w ∈ wsX60, w ∈ wsX6_ties := fun _ h => List.mem_cons_of_mem _ (List.mem_append_left _ (List.mem_append_right _ h))
  have hP : va_P D vwCl [(qW, .inr (6, [.ref qT, .ref qA, .ref qK, .ref qC, .ref qE, .ref qI, .ref qF, .ref qH, .ref qO, .int (iI (fi))])), (qC, .inr (0, [.ref qCy, .ref qCl, .ref qCb, .int (iI (ex)), .int (iI (be)), .int (iI (op)), .int (iI (es)), .int (iI (ge)), .int (iI (rc)), .int (iI (lr)), .int (iI (lw))])), (qCy, .inl (cyI, 60, .inl (xA (ey)))), (qCl, .inl (cyI, 60, .inl (xA (el)))), (qI, .inl (cyI, 60, .inl (xA (si))))] s.heap := hP
  have hl := lv_entry ([.ref qW]) (n := 4) (Nat.le_of_ble_eq_true rfl)
  rw [lg_entry_eq]
  generalize (lg_sl ([.ref qW]) ++ List.replicate (4 - (lg_sl ([.ref qW])).length) Slot.unset).toArray = ls at hl ⊢
  have hl : lv_has ls 4 [(0, .ref qW)] := hl
  have cut_4 : ∀ (N_ : Nat) (i : Int) (t : Int) (hi : 1 ≤ i ∧ (i ≤ ex ∨ i = 1)) (ht9 : t = sumZ (fun b => sumZ (fun a => tieF si ey el a b) b) i) (hN_ : (61 - i).toNat < N_) (ls : Array Slot) (hl : lv_has ls 4 [(0, .ref qW), (1, .int (iI (t))), (2, .int (iI (i)))]), W p l e (headSpec wsX6_ties ({ frames := 2, cells := 0, slots := 0, locals := 43 })).room s m ([.ref qW] : List Value).toArray below meth c s.heap [] 0 0 (MQ below (xq (some (.int (iI (tieT si ey el ex))))) ([.ref qW] : List Value).toArray s 0 0 (fun _ => False)) (F0 m 4 ls []) := by
    intro N_
    induction N_ with
    | zero => intro i t hi ht9 hN_ ls hl; exact absurd hN_ (Nat.not_lt_zero _)
    | succ N_ ih_4 =>
      intro i t hi ht9 hN_ ls hl
      have cut_17 : ∀ (N_ : Nat) (j : Int) (u1 : Int) (hj : 0 ≤ j ∧ j ≤ i) (hix : i < ex) (ht8 : u1 = t + sumZ (fun a => tieF si ey el a i) j) (hN_ : (i - j).toNat < N_) (ls : Array Slot) (hl : lv_has ls 4 [(0, .ref qW), (1, .int (iI (u1))), (2, .int (iI (i))), (3, .int (iI (j)))]), W p l e (headSpec wsX6_ties ({ frames := 2, cells := 0, slots := 0, locals := 43 })).room s m ([.ref qW] : List Value).toArray below meth c s.heap [] 0 0 (MQ below (xq (some (.int (iI (tieT si ey el ex))))) ([.ref qW] : List Value).toArray s 0 0 (fun _ => False)) (F0 m 17 ls []) := by
        intro N_
        induction N_ with
        | zero => intro j u1 hj hix ht8 hN_ ls hl; exact absurd hN_ (Nat.not_lt_zero _)
        | succ N_ ih_17 =>
          intro j u1 hj hix ht8 hN_ ls hl
          refine lv_iload_n hx hb dX6_ties_17 rfl (lv_at hl 3 rfl) ?_
          refine lv_iload_n hx hb dX6_ties_18 rfl (lv_at hl 2 rfl) ?_
          refine xb_icmp_ge (tgt := 37) hx hb dX6_ties_19 (by decide) (by omega) (fun h_1 => ?_) (fun h_1 => ?_)
          · refine xi_inc (k := 2) (lv' := [(2, .int (iI (i + 1))), (0, .ref qW), (1, .int (iI (u1))), (3, .int (iI (j)))]) hx hb dX6_ties_37 hl rfl (by decide) rfl (fun ls hl => ?_)
            refine lv_goto (tgt := 4) hx hb dX6_ties_40 (by decide) ?_
            exact ih_4 (i + 1) (u1) (by first | assumption | omega | (constructor <;> omega)) (by first | (rw [sumZ_s _ (by omega), ← ht9, ht8, show j = i from by omega]) | rfl) (by omega) ls (lv_sub hl [1, 2, 0] rfl)
          · refine lv_iload_n hx hb dX6_ties_22 rfl (lv_at hl 1 rfl) ?_
            refine lv_aload_n hx hb dX6_ties_23 rfl (lv_at hl 0 rfl) ?_
            refine lv_iload_n hx hb dX6_ties_24 rfl (lv_at hl 3 rfl) ?_
            refine lv_iload_n hx hb dX6_ties_25 rfl (lv_at hl 2 rfl) ?_
            have hPc := hP.sub (ws' := [(qW, .inr (6, [.ref qT, .ref qA, .ref qK, .ref qC, .ref qE, .ref qI, .ref qF, .ref qH, .ref qO, .int (iI (fi))])), (qC, .inr (0, [.ref qCy, .ref qCl, .ref qCb, .int (iI (ex)), .int (iI (be)), .int (iI (op)), .int (iI (es)), .int (iI (ge)), .int (iI (rc)), .int (iI (lr)), .int (iI (lw))])), (qCy, .inl (cyI, 60, .inl (xA (ey)))), (qCl, .inl (cyI, 60, .inl (xA (el)))), (qI, .inl (cyI, 60, .inl (xA (si))))]) [0, 1, 2, 3, 4] rfl
            refine xc_i (va_runV (As := [.int (iI (j)), .int (iI (i))]) (rest := [.int (iI (u1))]) ⟨hx, hb, hml, hown, hts⟩ (c_X6_tie l D cyI cyJ cyO qW qT qA qK qC qE qI qF qH qO fi qCy qCl qCb ex be op es ge rc lr lw ey el si j i (by first | exact h_ey | assumption | omega) (by first | exact h_el | assumption | omega) (by first | exact h_si | assumption | omega) (by first | exact h_a | assumption | omega) (by first | exact h_b | assumption | omega)) (cwV 2 hts gX6_ties_X6_tie rfl rfl rfl (by decide +kernel) ⟨Nat.le_of_ble_eq_true rfl, Nat.le_of_ble_eq_true rfl⟩) (xpV hPc hK (ci := 6) (q0 := 0) (q := (RX6, TX6, 10)) rfl rfl) rfl rfl hl.1 rfl (lv_room (Nat.le_of_ble_eq_true rfl)) dX6_ties_26 ⟨Nat.le_of_ble_eq_true rfl, Nat.le_of_ble_eq_true rfl⟩) ?_
            refine xi_add hx hb dX6_ties_29 ?_
            refine lv_istore_n (lv' := [(1, .int (iI (u1 + (tieF si ey el j i)))), (0, .ref qW), (2, .int (iI (i))), (3, .int (iI (j)))]) hx hb dX6_ties_30 rfl hl (by decide) rfl (fun ls hl => ?_)
            refine xi_inc (k := 3) (lv' := [(3, .int (iI (j + 1))), (1, .int (iI (u1 + (tieF si ey el j i)))), (0, .ref qW), (2, .int (iI (i)))]) hx hb dX6_ties_31 hl rfl (by decide) rfl (fun ls hl => ?_)
            refine lv_goto (tgt := 17) hx hb dX6_ties_34 (by decide) ?_
            exact ih_17 (j + 1) (u1 + (tieF si ey el j i)) (by first | assumption | omega | (constructor <;> omega)) (by first | assumption | omega | (constructor <;> omega)) (by first | (rw [sumZ_s _ (by omega), ht8]; omega) | (rw [sumZ_0]; omega)) (by omega) ls (lv_sub hl [2, 1, 3, 0] rfl)
      refine lv_iload_n hx hb dX6_ties_4 rfl (lv_at hl 2 rfl) ?_
      refine lv_aload_n hx hb dX6_ties_5 rfl (lv_at hl 0 rfl) ?_
      refine va_get (D := D) (ci := 6) (C := RX6) (T := TX6) (N := 10) hx hb hts hcX6 hown hK hP 0 rfl rfl 3 (by decide) (hts (.fieldLink RX6 33 "WallMarks" "counted" "LWallMarks$Counted;") (List.mem_of_getElem? (i := 1) (by decide +kernel))) (fun _ h9 => h9) rfl dX6_ties_6 ?_
      refine va_get (D := D) (ci := 0) (C := RX0) (T := TX0) (N := 11) hx hb hts hcX0 hown hK hP 1 rfl rfl 3 (by decide) (hts (.fieldLink RX6 170 "WallMarks$Counted" "exacts" "I") (List.mem_of_getElem? (i := 2) (by decide +kernel))) (fun _ h9 => h9) rfl dX6_ties_9 ?_
      refine xb_icmp_ge (tgt := 43) hx hb dX6_ties_12 (by decide) (by omega) (fun h_2 => ?_) (fun h_2 => ?_)
      · refine lv_iload_n hx hb dX6_ties_43 rfl (lv_at hl 1 rfl) ?_
        exact W.iret (v := iI (t)) hx hb hr (fun t_ ht_ _ => ⟨congrArg (fun z => Outcome.returned (some (Value.int (iI z)))) (show (t) = (tieT si ey el ex) from by rcases (show i = ex ∨ (i = 1 ∧ ex = 0) from by omega) with h9 | h9 <;> first | (rw [ht9, h9]; rfl) | (rw [ht9, h9.1, h9.2]; rfl)), ht_⟩) (fun _ h9 => absurd h9 List.not_mem_nil) dX6_ties_44
      · refine xi_const hx hb dX6_ties_15 ?_
        refine lv_istore_n (lv' := [(3, .int (iI (0))), (0, .ref qW), (1, .int (iI (t))), (2, .int (iI (i)))]) hx hb dX6_ties_16 rfl hl (by decide) rfl (fun ls hl => ?_)
        exact cut_17 ((i - 0 : Int).toNat + 1) (0) (t) (by first | assumption | omega | (constructor <;> omega)) (by first | assumption | omega | (constructor <;> omega)) (by first | (rw [sumZ_s _ (by omega), ht8]; omega) | (rw [sumZ_0]; omega)) (by exact Nat.lt_succ_self _) ls (lv_sub hl [1, 2, 3, 0] rfl)
  refine xi_const hx hb dX6_ties_0 ?_
  refine lv_istore_n (lv' := [(1, .int (iI (0))), (0, .ref qW)]) hx hb dX6_ties_1 rfl hl (by decide) rfl (fun ls hl => ?_)
  refine xi_const hx hb dX6_ties_2 ?_
  refine lv_istore_n (lv' := [(2, .int (iI (1))), (1, .int (iI (0))), (0, .ref qW)]) hx hb dX6_ties_3 rfl hl (by decide) rfl (fun ls hl => ?_)
  exact cut_4 ((61 - 1 : Int).toNat + 1) (1) (0) (by first | assumption | omega | (constructor <;> omega)) (by first | (rw [sumZ_s _ (by omega), ← ht9, ht8, show j = i from by omega]) | rfl) (by exact Nat.lt_succ_self _) ls (lv_sub hl [2, 1, 0] rfl)
set_option maxHeartbeats 1000000 in
set_option maxRecDepth 100000 in
theorem c_X6_common (l : Launch) (D : va_G) (cyI cyJ cyO : ClassId) (qW : Nat) (qT : Nat) (qA : Nat) (qK : Nat) (qC : Nat) (qE : Nat) (qI : Nat) (qF : Nat) (qH : Nat) (qO : Nat) (fi : Int) (qCy : Nat) (qCl : Nat) (qCb : Nat) (ex : Int) (be : Int) (op : Int) (es : Int) (ge : Int) (rc : Int) (lr : Int) (lw : Int) (ey : Int → Int) (el : Int → Int) (si : Int → Int) (w : Int) (h_ex : 0 ≤ ex ∧ ex ≤ 60) (h_be : 0 ≤ be ∧ be ≤ 60) (h_op : 0 ≤ op ∧ op ≤ 60) (h_ey : ∀ j, 0 ≤ ey j ∧ ey j ≤ 59) (h_el : ∀ j, 0 ≤ el j ∧ el j ≤ 999) (h_si : ∀ j, -1 ≤ si j ∧ si j ≤ 999) (h_w : -2147483648 ≤ w ∧ w ≤ 2147483647) : Met l yX6_common wsX6_common ({ frames := 3, cells := 0, slots := 0, locals := 66 }) (va_Pc [.ref qW, .int (iI (w))] (xR D vwCl [(qW, .inr (6, [.ref qT, .ref qA, .ref qK, .ref qC, .ref qE, .ref qI, .ref qF, .ref qH, .ref qO, .int (iI (fi))])), (qC, .inr (0, [.ref qCy, .ref qCl, .ref qCb, .int (iI (ex)), .int (iI (be)), .int (iI (op)), .int (iI (es)), .int (iI (ge)), .int (iI (rc)), .int (iI (lr)), .int (iI (lw))])), (qCy, .inl (cyI, 60, .inl (xA (ey)))), (qCl, .inl (cyI, 60, .inl (xA (el)))), (qI, .inl (cyI, 60, .inl (xA (si))))] (xT cyI cyJ cyO))) (xq (some (.int (iI (if w = 0 ∨ w = 1 then (if w = 0 then cntZ (fun j => si (ey j) ≠ -1) ex else tieT si ey el ex) else -10002))))) 0 0 (fun _ => False) := by
  refine Met.ofW (cc := cX6_common) (maxL := 2) (ret := (some .int)) (by decide) rfl ?_
  intro p e s m args below meth c s₁ B hml hv
  obtain ⟨rfl, hP, hK⟩ := hv
  have hx := B.exec
  have hb := B.bytes
  have hr := B.returns
  have hts := atoms_spec (ws := wsX6_common) B.pre
  have hown : s.vm.findClass RX6 = some m.cls := findClass_of_methodNamed B.named
  have hlocks := B.notSynchronized
  have hP : va_P D vwCl [(qW, .inr (6, [.ref qT, .ref qA, .ref qK, .ref qC, .ref qE, .ref qI, .ref qF, .ref qH, .ref qO, .int (iI (fi))])), (qC, .inr (0, [.ref qCy, .ref qCl, .ref qCb, .int (iI (ex)), .int (iI (be)), .int (iI (op)), .int (iI (es)), .int (iI (ge)), .int (iI (rc)), .int (iI (lr)), .int (iI (lw))])), (qCy, .inl (cyI, 60, .inl (xA (ey)))), (qCl, .inl (cyI, 60, .inl (xA (el)))), (qI, .inl (cyI, 60, .inl (xA (si))))] s.heap := hP
  have hl := lv_entry ([.ref qW, .int (iI (w))]) (n := 2) (Nat.le_of_ble_eq_true rfl)
  rw [lg_entry_eq]
  generalize (lg_sl ([.ref qW, .int (iI (w))]) ++ List.replicate (2 - (lg_sl ([.ref qW, .int (iI (w))])).length) Slot.unset).toArray = ls at hl ⊢
  have hl : lv_has ls 2 [(0, .ref qW), (1, .int (iI (w)))] := hl
  refine lv_iload_n hx hb dX6_common_0 rfl (lv_at hl 1 rfl) ?_
  have hPc := hP.sub (ws' := []) [] rfl
  refine xc_i (va_runS (As := [.int (iI (w))]) (rest := []) ⟨hx, hb, hml, hown, hts⟩ (c_X6_isEither l D cyI cyJ cyO w (by first | exact h_y | assumption | omega)) (va_cwS 1 hts gX6_common_X6_isEither rfl rfl rfl (by decide +kernel) ⟨Nat.le_of_ble_eq_true rfl, Nat.le_of_ble_eq_true rfl⟩) (xpS hPc hK) rfl rfl hl.1 rfl (lv_room (Nat.le_of_ble_eq_true rfl)) dX6_common_1 ⟨Nat.le_of_ble_eq_true rfl, Nat.le_of_ble_eq_true rfl⟩) ?_
  refine xb_if_neB (tgt := 11) hx hb dX6_common_4 (by decide) (fun h_1 => ?_) (fun h_1 => ?_)
  · refine lv_iload_n hx hb dX6_common_11 rfl (lv_at hl 1 rfl) ?_
    refine xb_if_ne (tgt := 22) hx hb dX6_common_12 (by decide) (by omega) (fun h_2 => ?_) (fun h_2 => ?_)
    · refine lv_aload_n hx hb dX6_common_22 rfl (lv_at hl 0 rfl) ?_
      have hPc := hP.sub (ws' := [(qW, .inr (6, [.ref qT, .ref qA, .ref qK, .ref qC, .ref qE, .ref qI, .ref qF, .ref qH, .ref qO, .int (iI (fi))])), (qC, .inr (0, [.ref qCy, .ref qCl, .ref qCb, .int (iI (ex)), .int (iI (be)), .int (iI (op)), .int (iI (es)), .int (iI (ge)), .int (iI (rc)), .int (iI (lr)), .int (iI (lw))])), (qCy, .inl (cyI, 60, .inl (xA (ey)))), (qCl, .inl (cyI, 60, .inl (xA (el)))), (qI, .inl (cyI, 60, .inl (xA (si))))]) [0, 1, 2, 3, 4] rfl
      refine xc_i (va_runV (As := []) (rest := []) ⟨hx, hb, hml, hown, hts⟩ (c_X6_ties l D cyI cyJ cyO qW qT qA qK qC qE qI qF qH qO fi qCy qCl qCb ex be op es ge rc lr lw ey el si (by first | exact h_ex | assumption | omega) (by first | exact h_be | assumption | omega) (by first | exact h_op | assumption | omega) (by first | exact h_ey | assumption | omega) (by first | exact h_el | assumption | omega) (by first | exact h_si | assumption | omega)) (cwV 0 hts gX6_common_X6_ties rfl rfl rfl (by decide +kernel) ⟨Nat.le_of_ble_eq_true rfl, Nat.le_of_ble_eq_true rfl⟩) (xpV hPc hK (ci := 6) (q0 := 0) (q := (RX6, TX6, 10)) rfl rfl) rfl rfl hl.1 rfl (lv_room (Nat.le_of_ble_eq_true rfl)) dX6_common_23 ⟨Nat.le_of_ble_eq_true rfl, Nat.le_of_ble_eq_true rfl⟩) ?_
      exact W.iret (v := iI (tieT si ey el ex)) hx hb hr (fun t_ ht_ _ => ⟨congrArg (fun z => Outcome.returned (some (Value.int (iI z)))) (show (tieT si ey el ex) = (if w = 0 ∨ w = 1 then (if w = 0 then cntZ (fun j => si (ey j) ≠ -1) ex else tieT si ey el ex) else -10002) from by first | rfl | ((repeat (first | rw [if_pos (by omega)] | rw [if_neg (by omega)])); done) | ((repeat (first | rw [if_pos (by omega)] | rw [if_neg (by omega)])); rfl) | omega), ht_⟩) (fun _ h9 => absurd h9 List.not_mem_nil) dX6_common_26
    · refine lv_aload_n hx hb dX6_common_15 rfl (lv_at hl 0 rfl) ?_
      have hPc := hP.sub (ws' := [(qW, .inr (6, [.ref qT, .ref qA, .ref qK, .ref qC, .ref qE, .ref qI, .ref qF, .ref qH, .ref qO, .int (iI (fi))])), (qC, .inr (0, [.ref qCy, .ref qCl, .ref qCb, .int (iI (ex)), .int (iI (be)), .int (iI (op)), .int (iI (es)), .int (iI (ge)), .int (iI (rc)), .int (iI (lr)), .int (iI (lw))])), (qCy, .inl (cyI, 60, .inl (xA (ey)))), (qI, .inl (cyI, 60, .inl (xA (si))))]) [0, 1, 2, 4] rfl
      refine xc_i (va_runV (As := []) (rest := []) ⟨hx, hb, hml, hown, hts⟩ (c_X6_commonYears l D cyI cyJ cyO qW qT qA qK qC qE qI qF qH qO fi qCy qCl qCb ex be op es ge rc lr lw ey si (by first | exact h_ex | assumption | omega) (by first | exact h_be | assumption | omega) (by first | exact h_op | assumption | omega) (by first | exact h_ey | assumption | omega) (by first | exact h_si | assumption | omega)) (cwV 0 hts gX6_common_X6_commonYears rfl rfl rfl (by decide +kernel) ⟨Nat.le_of_ble_eq_true rfl, Nat.le_of_ble_eq_true rfl⟩) (xpV hPc hK (ci := 6) (q0 := 0) (q := (RX6, TX6, 10)) rfl rfl) rfl rfl hl.1 rfl (lv_room (Nat.le_of_ble_eq_true rfl)) dX6_common_16 ⟨Nat.le_of_ble_eq_true rfl, Nat.le_of_ble_eq_true rfl⟩) ?_
      refine lv_goto (tgt := 26) hx hb dX6_common_19 (by decide) ?_
      exact W.iret (v := iI (cntZ (fun j => si (ey j) ≠ -1) ex)) hx hb hr (fun t_ ht_ _ => ⟨congrArg (fun z => Outcome.returned (some (Value.int (iI z)))) (show (cntZ (fun j => si (ey j) ≠ -1) ex) = (if w = 0 ∨ w = 1 then (if w = 0 then cntZ (fun j => si (ey j) ≠ -1) ex else tieT si ey el ex) else -10002) from by first | rfl | ((repeat (first | rw [if_pos (by omega)] | rw [if_neg (by omega)])); done) | ((repeat (first | rw [if_pos (by omega)] | rw [if_neg (by omega)])); rfl) | omega), ht_⟩) (fun _ h9 => absurd h9 List.not_mem_nil) dX6_common_26
  · refine xi_sipush hx hb dX6_common_7 (by decide +kernel) ?_
    exact W.iret (v := iI (-10002)) hx hb hr (fun t_ ht_ _ => ⟨congrArg (fun z => Outcome.returned (some (Value.int (iI z)))) (show (-10002) = (if w = 0 ∨ w = 1 then (if w = 0 then cntZ (fun j => si (ey j) ≠ -1) ex else tieT si ey el ex) else -10002) from by first | rfl | ((repeat (first | rw [if_pos (by omega)] | rw [if_neg (by omega)])); done) | ((repeat (first | rw [if_pos (by omega)] | rw [if_neg (by omega)])); rfl) | omega), ht_⟩) (fun _ h9 => absurd h9 List.not_mem_nil) dX6_common_10
set_option maxHeartbeats 1000000 in
set_option maxRecDepth 100000 in
theorem c_X6_filledBySums (l : Launch) (D : va_G) (cyI cyJ cyO : ClassId) (qW : Nat) (qT : Nat) (qA : Nat) (qK : Nat) (qC : Nat) (qE : Nat) (qI : Nat) (qF : Nat) (qH : Nat) (qO : Nat) (fi : Int) (qCy : Nat) (qCl : Nat) (qCb : Nat) (ex : Int) (be : Int) (op : Int) (es : Int) (ge : Int) (rc : Int) (lr : Int) (lw : Int) (ey : Int → Int) (el : Int → Int) (si : Int → Int) (v : Int) (h_ex : 0 ≤ ex ∧ ex ≤ 60) (h_be : 0 ≤ be ∧ be ≤ 60) (h_op : 0 ≤ op ∧ op ≤ 60) (h_ey : ∀ j, 0 ≤ ey j ∧ ey j ≤ 59) (h_el : ∀ j, 0 ≤ el j ∧ el j ≤ 999) (h_si : ∀ j, -1 ≤ si j ∧ si j ≤ 999) (h_v : 0 ≤ v ∧ v ≤ 999) : Met l yX6_filledBySums wsX6_filledBySums ({ frames := 1, cells := 0, slots := 0, locals := 21 }) (va_Pc [.ref qW, .int (iI (v))] (xR D vwCl [(qW, .inr (6, [.ref qT, .ref qA, .ref qK, .ref qC, .ref qE, .ref qI, .ref qF, .ref qH, .ref qO, .int (iI (fi))])), (qC, .inr (0, [.ref qCy, .ref qCl, .ref qCb, .int (iI (ex)), .int (iI (be)), .int (iI (op)), .int (iI (es)), .int (iI (ge)), .int (iI (rc)), .int (iI (lr)), .int (iI (lw))])), (qCy, .inl (cyI, 60, .inl (xA (ey)))), (qCl, .inl (cyI, 60, .inl (xA (el)))), (qI, .inl (cyI, 60, .inl (xA (si))))] (xT cyI cyJ cyO))) (xq (some (.int (iI (fsF si ey el ex v))))) 0 0 (fun _ => False) := by
  refine Met.ofW (cc := cX6_filledBySums) (maxL := 5) (ret := (some .int)) (by decide) rfl ?_
  intro p e s m args below meth c s₁ B hml hv
  obtain ⟨rfl, hP, hK⟩ := hv
  have hx := B.exec
  have hb := B.bytes
  have hr := B.returns
  have hts := atoms_spec (ws := wsX6_filledBySums) B.pre
  have hown : s.vm.findClass RX6 = some m.cls := findClass_of_methodNamed B.named
  have hlocks := B.notSynchronized
  have hcX0 : ∀ w ∈ wsX00, w ∈ wsX6_filledBySums := fun _ h => List.mem_cons_of_mem _ (List.mem_append_right _ h)
  have hcX6 : ∀ w ∈ wsX60, w ∈ wsX6_filledBySums := fun _ h => List.mem_cons_of_mem _ (List.mem_append_left _ (List.mem_append_right _ h))
  have hP : va_P D vwCl [(qW, .inr (6, [.ref qT, .ref qA, .ref qK, .ref qC, .ref qE, .ref qI, .ref qF, .ref qH, .ref qO, .int (iI (fi))])), (qC, .inr (0, [.ref qCy, .ref qCl, .ref qCb, .int (iI (ex)), .int (iI (be)), .int (iI (op)), .int (iI (es)), .int (iI (ge)), .int (iI (rc)), .int (iI (lr)), .int (iI (lw))])), (qCy, .inl (cyI, 60, .inl (xA (ey)))), (qCl, .inl (cyI, 60, .inl (xA (el)))), (qI, .inl (cyI, 60, .inl (xA (si))))] s.heap := hP
  have hl := lv_entry ([.ref qW, .int (iI (v))]) (n := 5) (Nat.le_of_ble_eq_true rfl)
  rw [lg_entry_eq]
  generalize (lg_sl ([.ref qW, .int (iI (v))]) ++ List.replicate (5 - (lg_sl ([.ref qW, .int (iI (v))])).length) Slot.unset).toArray = ls at hl ⊢
  have hl : lv_has ls 5 [(0, .ref qW), (1, .int (iI (v)))] := hl
  have cut_7 : ∀ (N_ : Nat) (i : Int) (a : Int) (b : Int) (hi : 0 ≤ i ∧ i ≤ ex) (ha : a = sumZ (fun j => if si (ey j) = -1 then 0 else el j) i) (hb9 : b = sumZ (fun j => if si (ey j) = -1 then 0 else si (ey j)) i) (hN_ : (ex - i).toNat < N_) (ls : Array Slot) (hl : lv_has ls 5 [(0, .ref qW), (1, .int (iI (v))), (2, .int (iI (a))), (3, .int (iI (b))), (4, .int (iI (i)))]), W p l e (headSpec wsX6_filledBySums ({ frames := 1, cells := 0, slots := 0, locals := 21 })).room s m ([.ref qW, .int (iI (v))] : List Value).toArray below meth c s.heap [] 0 0 (MQ below (xq (some (.int (iI (fsF si ey el ex v))))) ([.ref qW, .int (iI (v))] : List Value).toArray s 0 0 (fun _ => False)) (F0 m 7 ls []) := by
    intro N_
    induction N_ with
    | zero => intro i a b hi ha hb9 hN_ ls hl; exact absurd hN_ (Nat.not_lt_zero _)
    | succ N_ ih_7 =>
      intro i a b hi ha hb9 hN_ ls hl
      refine lv_iload hx hb dX6_filledBySums_7 (lv_at hl 4 rfl) ?_
      refine lv_aload_n hx hb dX6_filledBySums_9 rfl (lv_at hl 0 rfl) ?_
      refine va_get (D := D) (ci := 6) (C := RX6) (T := TX6) (N := 10) hx hb hts hcX6 hown hK hP 0 rfl rfl 3 (by decide) (hts (.fieldLink RX6 33 "WallMarks" "counted" "LWallMarks$Counted;") (List.mem_of_getElem? (i := 1) (by decide +kernel))) (fun _ h9 => h9) rfl dX6_filledBySums_10 ?_
      refine va_get (D := D) (ci := 0) (C := RX0) (T := TX0) (N := 11) hx hb hts hcX0 hown hK hP 1 rfl rfl 3 (by decide) (hts (.fieldLink RX6 170 "WallMarks$Counted" "exacts" "I") (List.mem_of_getElem? (i := 2) (by decide +kernel))) (fun _ h9 => h9) rfl dX6_filledBySums_13 ?_
      refine xb_icmp_ge (tgt := 57) hx hb dX6_filledBySums_16 (by decide) (by omega) (fun h_1 => ?_) (fun h_1 => ?_)
      · have hcs := cmS_in (ey := ey) (ex := ex) h_ex.1 h_si
        have hco := cmO_in (si := si) (ey := ey) (ex := ex) h_ex.1 h_el
        have hb8 : b = cmS si ey ex := by rw [hb9, show i = ex from by omega]; rfl
        have ha8 : a = cmO si ey el ex := by rw [ha, show i = ex from by omega]; rfl
        have hm5 := mul_in (a := v) (b := a) (A := 999) (B := 59940) (by omega) (by omega)
        refine lv_iload_n hx hb dX6_filledBySums_57 rfl (lv_at hl 3 rfl) ?_
        refine xb_if_ne (tgt := 66) hx hb dX6_filledBySums_58 (by decide) (by omega) (fun h_2 => ?_) (fun h_2 => ?_)
        · refine lv_iload_n hx hb dX6_filledBySums_66 rfl (lv_at hl 1 rfl) ?_
          refine lv_iload_n hx hb dX6_filledBySums_67 rfl (lv_at hl 2 rfl) ?_
          refine xi_mul hx hb dX6_filledBySums_68 ?_
          refine lv_iload_n hx hb dX6_filledBySums_69 rfl (lv_at hl 3 rfl) ?_
          refine xi_div hx hb dX6_filledBySums_70 (by omega) ?_
          exact W.iret (v := iI ((v * a) / b)) hx hb hr (fun t_ ht_ _ => ⟨congrArg (fun z => Outcome.returned (some (Value.int (iI z)))) (show ((v * a) / b) = (fsF si ey el ex v) from by unfold fsF; first | rw [if_pos (by omega)] | rw [if_neg (by omega), ← ha8, ← hb8]), ht_⟩) (fun _ h9 => absurd h9 List.not_mem_nil) dX6_filledBySums_71
        · refine xi_bipush hx hb dX6_filledBySums_61 (by decide +kernel) ?_
          refine lv_goto (tgt := 71) hx hb dX6_filledBySums_63 (by decide) ?_
          exact W.iret (v := iI (-3)) hx hb hr (fun t_ ht_ _ => ⟨congrArg (fun z => Outcome.returned (some (Value.int (iI z)))) (show (-3) = (fsF si ey el ex v) from by unfold fsF; first | rw [if_pos (by omega)] | rw [if_neg (by omega), ← ha8, ← hb8]), ht_⟩) (fun _ h9 => absurd h9 List.not_mem_nil) dX6_filledBySums_71
      · refine lv_aload_n hx hb dX6_filledBySums_19 rfl (lv_at hl 0 rfl) ?_
        refine lv_iload hx hb dX6_filledBySums_20 (lv_at hl 4 rfl) ?_
        have hf_3 := h_si (ey i)
        have hPc := hP.sub (ws' := [(qW, .inr (6, [.ref qT, .ref qA, .ref qK, .ref qC, .ref qE, .ref qI, .ref qF, .ref qH, .ref qO, .int (iI (fi))])), (qC, .inr (0, [.ref qCy, .ref qCl, .ref qCb, .int (iI (ex)), .int (iI (be)), .int (iI (op)), .int (iI (es)), .int (iI (ge)), .int (iI (rc)), .int (iI (lr)), .int (iI (lw))])), (qCy, .inl (cyI, 60, .inl (xA (ey)))), (qI, .inl (cyI, 60, .inl (xA (si))))]) [0, 1, 2, 4] rfl
        refine xc_i (va_runV (As := [.int (iI (i))]) (rest := []) ⟨hx, hb, hml, hown, hts⟩ (c_X6_sisterOf l D cyI cyJ cyO qW qT qA qK qC qE qI qF qH qO fi qCy qCl qCb ex be op es ge rc lr lw ey si i (by first | exact h_ey | assumption | omega) (by first | exact h_si | assumption | omega) (by first | exact h_k | assumption | omega)) (cwV 1 hts gX6_filledBySums_X6_sisterOf rfl rfl rfl (by decide +kernel) ⟨Nat.le_of_ble_eq_true rfl, Nat.le_of_ble_eq_true rfl⟩) (xpV hPc hK (ci := 6) (q0 := 0) (q := (RX6, TX6, 10)) rfl rfl) rfl rfl hl.1 rfl (lv_room (Nat.le_of_ble_eq_true rfl)) dX6_filledBySums_22 ⟨Nat.le_of_ble_eq_true rfl, Nat.le_of_ble_eq_true rfl⟩) ?_
        refine xi_const hx hb dX6_filledBySums_25 ?_
        refine xb_icmp_eq (tgt := 51) hx hb dX6_filledBySums_26 (by decide) (by omega) (fun h_4 => ?_) (fun h_4 => ?_)
        · refine xi_inc (k := 4) (lv' := [(4, .int (iI (i + 1))), (0, .ref qW), (1, .int (iI (v))), (2, .int (iI (a))), (3, .int (iI (b)))]) hx hb dX6_filledBySums_51 hl rfl (by decide) rfl (fun ls hl => ?_)
          refine lv_goto (tgt := 7) hx hb dX6_filledBySums_54 (by decide) ?_
          exact ih_7 (i + 1) (a) (b) (by first | assumption | omega | (constructor <;> omega)) (by first | rfl | (rw [sumZ_s _ (by omega), if_pos (by omega)]; omega) | (rw [sumZ_s _ (by omega), if_neg (by omega)]; omega)) (by first | rfl | (rw [sumZ_s _ (by omega), if_pos (by omega)]; omega) | (rw [sumZ_s _ (by omega), if_neg (by omega)]; omega)) (by omega) ls (lv_sub hl [1, 2, 3, 4, 0] rfl)
        · refine lv_iload_n hx hb dX6_filledBySums_29 rfl (lv_at hl 2 rfl) ?_
          refine lv_aload_n hx hb dX6_filledBySums_30 rfl (lv_at hl 0 rfl) ?_
          refine va_get (D := D) (ci := 6) (C := RX6) (T := TX6) (N := 10) hx hb hts hcX6 hown hK hP 0 rfl rfl 3 (by decide) (hts (.fieldLink RX6 33 "WallMarks" "counted" "LWallMarks$Counted;") (List.mem_of_getElem? (i := 1) (by decide +kernel))) (fun _ h9 => h9) rfl dX6_filledBySums_31 ?_
          refine va_get (D := D) (ci := 0) (C := RX0) (T := TX0) (N := 11) hx hb hts hcX0 hown hK hP 1 rfl rfl 1 (by decide) (hts (.fieldLink RX6 173 "WallMarks$Counted" "exactLevels" "[I") (List.mem_of_getElem? (i := 3) (by decide +kernel))) (fun _ h9 => h9) rfl dX6_filledBySums_34 ?_
          refine lv_iload hx hb dX6_filledBySums_37 (lv_at hl 4 rfl) ?_
          refine xi_ald (D := D) hx hb hK hP 3 0 rfl rfl (by decide) (by omega) dX6_filledBySums_39 ?_
          have hr_5 := h_el (i)
          refine xi_add hx hb dX6_filledBySums_40 ?_
          refine lv_istore_n (lv' := [(2, .int (iI (a + (el (i))))), (0, .ref qW), (1, .int (iI (v))), (3, .int (iI (b))), (4, .int (iI (i)))]) hx hb dX6_filledBySums_41 rfl hl (by decide) rfl (fun ls hl => ?_)
          refine lv_iload_n hx hb dX6_filledBySums_42 rfl (lv_at hl 3 rfl) ?_
          refine lv_aload_n hx hb dX6_filledBySums_43 rfl (lv_at hl 1 rfl) ?_
          refine lv_iload hx hb dX6_filledBySums_44 (lv_at hl 4 rfl) ?_
          have hf_6 := h_si (ey i)
          have hPc := hP.sub (ws' := [(qW, .inr (6, [.ref qT, .ref qA, .ref qK, .ref qC, .ref qE, .ref qI, .ref qF, .ref qH, .ref qO, .int (iI (fi))])), (qC, .inr (0, [.ref qCy, .ref qCl, .ref qCb, .int (iI (ex)), .int (iI (be)), .int (iI (op)), .int (iI (es)), .int (iI (ge)), .int (iI (rc)), .int (iI (lr)), .int (iI (lw))])), (qCy, .inl (cyI, 60, .inl (xA (ey)))), (qI, .inl (cyI, 60, .inl (xA (si))))]) [0, 1, 2, 4] rfl
          refine xc_i (va_runV (As := [.int (iI (i))]) (rest := [.int (iI (b))]) ⟨hx, hb, hml, hown, hts⟩ (c_X6_sisterOf l D cyI cyJ cyO qW qT qA qK qC qE qI qF qH qO fi qCy qCl qCb ex be op es ge rc lr lw ey si i (by first | exact h_ey | assumption | omega) (by first | exact h_si | assumption | omega) (by first | exact h_k | assumption | omega)) (cwV 1 hts gX6_filledBySums_X6_sisterOf rfl rfl rfl (by decide +kernel) ⟨Nat.le_of_ble_eq_true rfl, Nat.le_of_ble_eq_true rfl⟩) (xpV hPc hK (ci := 6) (q0 := 0) (q := (RX6, TX6, 10)) rfl rfl) rfl rfl hl.1 rfl (lv_room (Nat.le_of_ble_eq_true rfl)) dX6_filledBySums_46 ⟨Nat.le_of_ble_eq_true rfl, Nat.le_of_ble_eq_true rfl⟩) ?_
          refine xi_add hx hb dX6_filledBySums_49 ?_
          refine lv_istore_n (lv' := [(3, .int (iI (b + (si (ey i))))), (2, .int (iI (a + (el (i))))), (0, .ref qW), (1, .int (iI (v))), (4, .int (iI (i)))]) hx hb dX6_filledBySums_50 rfl hl (by decide) rfl (fun ls hl => ?_)
          refine xi_inc (k := 4) (lv' := [(4, .int (iI (i + 1))), (3, .int (iI (b + (si (ey i))))), (2, .int (iI (a + (el (i))))), (0, .ref qW), (1, .int (iI (v)))]) hx hb dX6_filledBySums_51 hl rfl (by decide) rfl (fun ls hl => ?_)
          refine lv_goto (tgt := 7) hx hb dX6_filledBySums_54 (by decide) ?_
          exact ih_7 (i + 1) (a + (el (i))) (b + (si (ey i))) (by first | assumption | omega | (constructor <;> omega)) (by first | rfl | (rw [sumZ_s _ (by omega), if_pos (by omega)]; omega) | (rw [sumZ_s _ (by omega), if_neg (by omega)]; omega)) (by first | rfl | (rw [sumZ_s _ (by omega), if_pos (by omega)]; omega) | (rw [sumZ_s _ (by omega), if_neg (by omega)]; omega)) (by omega) ls (lv_sub hl [3, 4, 2, 1, 0] rfl)
  refine xi_const hx hb dX6_filledBySums_0 ?_
  refine lv_istore_n (lv' := [(2, .int (iI (0))), (0, .ref qW), (1, .int (iI (v)))]) hx hb dX6_filledBySums_1 rfl hl (by decide) rfl (fun ls hl => ?_)
  refine xi_const hx hb dX6_filledBySums_2 ?_
  refine lv_istore_n (lv' := [(3, .int (iI (0))), (2, .int (iI (0))), (0, .ref qW), (1, .int (iI (v)))]) hx hb dX6_filledBySums_3 rfl hl (by decide) rfl (fun ls hl => ?_)
  refine xi_const hx hb dX6_filledBySums_4 ?_
  refine lv_istore (lv' := [(4, .int (iI (0))), (3, .int (iI (0))), (2, .int (iI (0))), (0, .ref qW), (1, .int (iI (v)))]) hx hb dX6_filledBySums_5 hl (by decide) rfl (fun ls hl => ?_)
  exact cut_7 ((ex - 0 : Int).toNat + 1) (0) (0) (0) (by first | assumption | omega | (constructor <;> omega)) (by first | rfl | (rw [sumZ_s _ (by omega), if_pos (by omega)]; omega) | (rw [sumZ_s _ (by omega), if_neg (by omega)]; omega)) (by first | rfl | (rw [sumZ_s _ (by omega), if_pos (by omega)]; omega) | (rw [sumZ_s _ (by omega), if_neg (by omega)]; omega)) (by exact Nat.lt_succ_self _) ls (lv_sub hl [3, 4, 2, 1, 0] rfl)
set_option maxHeartbeats 1000000 in
set_option maxRecDepth 100000 in
theorem c_X6_filledByOne (l : Launch) (D : va_G) (cyI cyJ cyO : ClassId) (qW : Nat) (qT : Nat) (qA : Nat) (qK : Nat) (qC : Nat) (qE : Nat) (qI : Nat) (qF : Nat) (qH : Nat) (qO : Nat) (fi : Int) (qCy : Nat) (qCl : Nat) (qCb : Nat) (ex : Int) (be : Int) (op : Int) (es : Int) (ge : Int) (rc : Int) (lr : Int) (lw : Int) (ey : Int → Int) (el : Int → Int) (si : Int → Int) (v : Int) (w : Int) (h_ex : 0 ≤ ex ∧ ex ≤ 60) (h_be : 0 ≤ be ∧ be ≤ 60) (h_op : 0 ≤ op ∧ op ≤ 60) (h_ey : ∀ j, 0 ≤ ey j ∧ ey j ≤ 59) (h_el : ∀ j, 0 ≤ el j ∧ el j ≤ 999) (h_si : ∀ j, -1 ≤ si j ∧ si j ≤ 999) (h_v : 0 ≤ v ∧ v ≤ 999) (h_w : 0 ≤ w ∧ w ≤ 1) : Met l yX6_filledByOne wsX6_filledByOne ({ frames := 1, cells := 0, slots := 0, locals := 21 }) (va_Pc [.ref qW, .int (iI (v)), .int (iI (w))] (xR D vwCl [(qW, .inr (6, [.ref qT, .ref qA, .ref qK, .ref qC, .ref qE, .ref qI, .ref qF, .ref qH, .ref qO, .int (iI (fi))])), (qC, .inr (0, [.ref qCy, .ref qCl, .ref qCb, .int (iI (ex)), .int (iI (be)), .int (iI (op)), .int (iI (es)), .int (iI (ge)), .int (iI (rc)), .int (iI (lr)), .int (iI (lw))])), (qCy, .inl (cyI, 60, .inl (xA (ey)))), (qCl, .inl (cyI, 60, .inl (xA (el)))), (qI, .inl (cyI, 60, .inl (xA (si))))] (xT cyI cyJ cyO))) (xq (some (.int (iI (foF si ey el ex v w))))) 0 0 (fun _ => False) := by
  refine Met.ofW (cc := cX6_filledByOne) (maxL := 7) (ret := (some .int)) (by decide) rfl ?_
  intro p e s m args below meth c s₁ B hml hv
  obtain ⟨rfl, hP, hK⟩ := hv
  have hx := B.exec
  have hb := B.bytes
  have hr := B.returns
  have hts := atoms_spec (ws := wsX6_filledByOne) B.pre
  have hown : s.vm.findClass RX6 = some m.cls := findClass_of_methodNamed B.named
  have hlocks := B.notSynchronized
  have hcX0 : ∀ w ∈ wsX00, w ∈ wsX6_filledByOne := fun _ h => List.mem_cons_of_mem _ (List.mem_append_right _ h)
  have hcX6 : ∀ w ∈ wsX60, w ∈ wsX6_filledByOne := fun _ h => List.mem_cons_of_mem _ (List.mem_append_left _ (List.mem_append_right _ h))
  have hP : va_P D vwCl [(qW, .inr (6, [.ref qT, .ref qA, .ref qK, .ref qC, .ref qE, .ref qI, .ref qF, .ref qH, .ref qO, .int (iI (fi))])), (qC, .inr (0, [.ref qCy, .ref qCl, .ref qCb, .int (iI (ex)), .int (iI (be)), .int (iI (op)), .int (iI (es)), .int (iI (ge)), .int (iI (rc)), .int (iI (lr)), .int (iI (lw))])), (qCy, .inl (cyI, 60, .inl (xA (ey)))), (qCl, .inl (cyI, 60, .inl (xA (el)))), (qI, .inl (cyI, 60, .inl (xA (si))))] s.heap := hP
  have hl := lv_entry ([.ref qW, .int (iI (v)), .int (iI (w))]) (n := 7) (Nat.le_of_ble_eq_true rfl)
  rw [lg_entry_eq]
  generalize (lg_sl ([.ref qW, .int (iI (v)), .int (iI (w))]) ++ List.replicate (7 - (lg_sl ([.ref qW, .int (iI (v)), .int (iI (w))])).length) Slot.unset).toArray = ls at hl ⊢
  have hl : lv_has ls 7 [(0, .ref qW), (1, .int (iI (v))), (2, .int (iI (w)))] := hl
  have cut_6 : ∀ (N_ : Nat) (i : Int) (a : Int) (hi : 0 ≤ i ∧ i ≤ ex) (ha : a = foldZ (foS si ey el v w) i (-3)) (hb9 : -3 ≤ a ∧ a ≤ 998001) (hN_ : (ex - i).toNat < N_) (ls : Array Slot) (hl : lv_has ls 7 [(0, .ref qW), (1, .int (iI (v))), (2, .int (iI (w))), (3, .int (iI (a))), (4, .int (iI (i)))]), W p l e (headSpec wsX6_filledByOne ({ frames := 1, cells := 0, slots := 0, locals := 21 })).room s m ([.ref qW, .int (iI (v)), .int (iI (w))] : List Value).toArray below meth c s.heap [] 0 0 (MQ below (xq (some (.int (iI (foF si ey el ex v w))))) ([.ref qW, .int (iI (v)), .int (iI (w))] : List Value).toArray s 0 0 (fun _ => False)) (F0 m 6 ls []) := by
    intro N_
    induction N_ with
    | zero => intro i a hi ha hb9 hN_ ls hl; exact absurd hN_ (Nat.not_lt_zero _)
    | succ N_ ih_6 =>
      intro i a hi ha hb9 hN_ ls hl
      refine lv_iload hx hb dX6_filledByOne_6 (lv_at hl 4 rfl) ?_
      refine lv_aload_n hx hb dX6_filledByOne_8 rfl (lv_at hl 0 rfl) ?_
      refine va_get (D := D) (ci := 6) (C := RX6) (T := TX6) (N := 10) hx hb hts hcX6 hown hK hP 0 rfl rfl 3 (by decide) (hts (.fieldLink RX6 33 "WallMarks" "counted" "LWallMarks$Counted;") (List.mem_of_getElem? (i := 1) (by decide +kernel))) (fun _ h9 => h9) rfl dX6_filledByOne_9 ?_
      refine va_get (D := D) (ci := 0) (C := RX0) (T := TX0) (N := 11) hx hb hts hcX0 hown hK hP 1 rfl rfl 3 (by decide) (hts (.fieldLink RX6 170 "WallMarks$Counted" "exacts" "I") (List.mem_of_getElem? (i := 2) (by decide +kernel))) (fun _ h9 => h9) rfl dX6_filledByOne_12 ?_
      refine xb_icmp_ge (tgt := 82) hx hb dX6_filledByOne_15 (by decide) (by omega) (fun h_1 => ?_) (fun h_1 => ?_)
      · refine lv_iload_n hx hb dX6_filledByOne_82 rfl (lv_at hl 3 rfl) ?_
        exact W.iret (v := iI (a)) hx hb hr (fun t_ ht_ _ => ⟨congrArg (fun z => Outcome.returned (some (Value.int (iI z)))) (show (a) = (foF si ey el ex v w) from by rw [ha, show i = ex from by omega]; rfl), ht_⟩) (fun _ h9 => absurd h9 List.not_mem_nil) dX6_filledByOne_83
      · refine lv_aload_n hx hb dX6_filledByOne_18 rfl (lv_at hl 0 rfl) ?_
        refine lv_iload hx hb dX6_filledByOne_19 (lv_at hl 4 rfl) ?_
        have hf_2 := h_si (ey i)
        have hPc := hP.sub (ws' := [(qW, .inr (6, [.ref qT, .ref qA, .ref qK, .ref qC, .ref qE, .ref qI, .ref qF, .ref qH, .ref qO, .int (iI (fi))])), (qC, .inr (0, [.ref qCy, .ref qCl, .ref qCb, .int (iI (ex)), .int (iI (be)), .int (iI (op)), .int (iI (es)), .int (iI (ge)), .int (iI (rc)), .int (iI (lr)), .int (iI (lw))])), (qCy, .inl (cyI, 60, .inl (xA (ey)))), (qI, .inl (cyI, 60, .inl (xA (si))))]) [0, 1, 2, 4] rfl
        refine xc_i (va_runV (As := [.int (iI (i))]) (rest := []) ⟨hx, hb, hml, hown, hts⟩ (c_X6_sisterOf l D cyI cyJ cyO qW qT qA qK qC qE qI qF qH qO fi qCy qCl qCb ex be op es ge rc lr lw ey si i (by first | exact h_ey | assumption | omega) (by first | exact h_si | assumption | omega) (by first | exact h_k | assumption | omega)) (cwV 1 hts gX6_filledByOne_X6_sisterOf rfl rfl rfl (by decide +kernel) ⟨Nat.le_of_ble_eq_true rfl, Nat.le_of_ble_eq_true rfl⟩) (xpV hPc hK (ci := 6) (q0 := 0) (q := (RX6, TX6, 10)) rfl rfl) rfl rfl hl.1 rfl (lv_room (Nat.le_of_ble_eq_true rfl)) dX6_filledByOne_21 ⟨Nat.le_of_ble_eq_true rfl, Nat.le_of_ble_eq_true rfl⟩) ?_
        refine lv_istore (lv' := [(5, .int (iI (si (ey i)))), (0, .ref qW), (1, .int (iI (v))), (2, .int (iI (w))), (3, .int (iI (a))), (4, .int (iI (i)))]) hx hb dX6_filledByOne_24 hl (by decide) rfl (fun ls hl => ?_)
        refine lv_iload hx hb dX6_filledByOne_26 (lv_at hl 0 rfl) ?_
        refine xb_if_le (tgt := 76) hx hb dX6_filledByOne_28 (by decide) (by omega) (fun h_3 => ?_) (fun h_3 => ?_)
        · refine xi_inc (k := 5) (lv' := [(4, .int (iI (i + 1))), (5, .int (iI (si (ey i)))), (0, .ref qW), (1, .int (iI (v))), (2, .int (iI (w))), (3, .int (iI (a)))]) hx hb dX6_filledByOne_76 hl rfl (by decide) rfl (fun ls hl => ?_)
          refine lv_goto (tgt := 6) hx hb dX6_filledByOne_79 (by decide) ?_
          exact ih_6 (i + 1) (a) (by first | assumption | omega | (constructor <;> omega)) (by first | rfl | (rw [foldZ_s _ (by omega), ← ha]; unfold foS; first | rw [if_pos (by omega)] | rw [if_neg (by omega)])) (by first | assumption | omega | (constructor <;> omega)) (by omega) ls (lv_sub hl [2, 3, 4, 5, 0] rfl)
        · refine lv_iload_n hx hb dX6_filledByOne_31 rfl (lv_at hl 2 rfl) ?_
          refine lv_aload_n hx hb dX6_filledByOne_32 rfl (lv_at hl 1 rfl) ?_
          refine va_get (D := D) (ci := 6) (C := RX6) (T := TX6) (N := 10) hx hb hts hcX6 hown hK hP 0 rfl rfl 3 (by decide) (hts (.fieldLink RX6 33 "WallMarks" "counted" "LWallMarks$Counted;") (List.mem_of_getElem? (i := 1) (by decide +kernel))) (fun _ h9 => h9) rfl dX6_filledByOne_33 ?_
          refine va_get (D := D) (ci := 0) (C := RX0) (T := TX0) (N := 11) hx hb hts hcX0 hown hK hP 1 rfl rfl 1 (by decide) (hts (.fieldLink RX6 173 "WallMarks$Counted" "exactLevels" "[I") (List.mem_of_getElem? (i := 3) (by decide +kernel))) (fun _ h9 => h9) rfl dX6_filledByOne_36 ?_
          refine lv_iload hx hb dX6_filledByOne_39 (lv_at hl 5 rfl) ?_
          refine xi_ald (D := D) hx hb hK hP 3 0 rfl rfl (by decide) (by omega) dX6_filledByOne_41 ?_
          have hr_4 := h_el (i)
          refine xi_mul hx hb dX6_filledByOne_42 ?_
          refine lv_iload hx hb dX6_filledByOne_43 (lv_at hl 0 rfl) ?_
          have hm5 := mul_in (a := v) (b := el i) (A := 999) (B := 999) (by omega) (by omega)
          have hd1 := Int.ediv_nonneg hm5.1 (show 0 ≤ si (ey i) from by omega)
          have hd2 := Int.ediv_le_self (si (ey i)) hm5.1
          refine xi_div hx hb dX6_filledByOne_45 (by omega) ?_
          refine lv_istore (lv' := [(6, .int (iI ((v * (el (i))) / (si (ey i))))), (5, .int (iI (si (ey i)))), (0, .ref qW), (1, .int (iI (v))), (2, .int (iI (w))), (3, .int (iI (a))), (4, .int (iI (i)))]) hx hb dX6_filledByOne_46 hl (by decide) rfl (fun ls hl => ?_)
          refine lv_iload_n hx hb dX6_filledByOne_48 rfl (lv_at hl 5 rfl) ?_
          refine xi_bipush hx hb dX6_filledByOne_49 (by decide +kernel) ?_
          refine xb_icmp_eq (tgt := 73) hx hb dX6_filledByOne_51 (by decide) (by omega) (fun h_5 => ?_) (fun h_5 => ?_)
          · refine lv_iload hx hb dX6_filledByOne_73 (lv_at hl 0 rfl) ?_
            refine lv_istore_n (lv' := [(3, .int (iI ((v * (el (i))) / (si (ey i))))), (6, .int (iI ((v * (el (i))) / (si (ey i))))), (5, .int (iI (si (ey i)))), (0, .ref qW), (1, .int (iI (v))), (2, .int (iI (w))), (4, .int (iI (i)))]) hx hb dX6_filledByOne_75 rfl hl (by decide) rfl (fun ls hl => ?_)
            refine xi_inc (k := 6) (lv' := [(4, .int (iI (i + 1))), (3, .int (iI ((v * (el (i))) / (si (ey i))))), (6, .int (iI ((v * (el (i))) / (si (ey i))))), (5, .int (iI (si (ey i)))), (0, .ref qW), (1, .int (iI (v))), (2, .int (iI (w)))]) hx hb dX6_filledByOne_76 hl rfl (by decide) rfl (fun ls hl => ?_)
            refine lv_goto (tgt := 6) hx hb dX6_filledByOne_79 (by decide) ?_
            exact ih_6 (i + 1) ((v * (el (i))) / (si (ey i))) (by first | assumption | omega | (constructor <;> omega)) (by first | rfl | (rw [foldZ_s _ (by omega), ← ha]; unfold foS; first | rw [if_pos (by omega)] | rw [if_neg (by omega)])) (by first | assumption | omega | (constructor <;> omega)) (by omega) ls (lv_sub hl [4, 5, 6, 1, 0] rfl)
          · refine lv_iload_n hx hb dX6_filledByOne_54 rfl (lv_at hl 4 rfl) ?_
            refine xb_if_eq (tgt := 67) hx hb dX6_filledByOne_55 (by decide) (by omega) (fun h_6 => ?_) (fun h_6 => ?_)
            · refine lv_iload hx hb dX6_filledByOne_67 (lv_at hl 0 rfl) ?_
              refine lv_iload_n hx hb dX6_filledByOne_69 rfl (lv_at hl 5 rfl) ?_
              refine xb_icmp_le (tgt := 76) hx hb dX6_filledByOne_70 (by decide) (by omega) (fun h_7 => ?_) (fun h_7 => ?_)
              · refine xi_inc (k := 6) (lv' := [(4, .int (iI (i + 1))), (6, .int (iI ((v * (el (i))) / (si (ey i))))), (5, .int (iI (si (ey i)))), (0, .ref qW), (1, .int (iI (v))), (2, .int (iI (w))), (3, .int (iI (a)))]) hx hb dX6_filledByOne_76 hl rfl (by decide) rfl (fun ls hl => ?_)
                refine lv_goto (tgt := 6) hx hb dX6_filledByOne_79 (by decide) ?_
                exact ih_6 (i + 1) (a) (by first | assumption | omega | (constructor <;> omega)) (by first | rfl | (rw [foldZ_s _ (by omega), ← ha]; unfold foS; first | rw [if_pos (by omega)] | rw [if_neg (by omega)])) (by first | assumption | omega | (constructor <;> omega)) (by omega) ls (lv_sub hl [3, 4, 5, 6, 0] rfl)
              · refine lv_iload hx hb dX6_filledByOne_73 (lv_at hl 0 rfl) ?_
                refine lv_istore_n (lv' := [(3, .int (iI ((v * (el (i))) / (si (ey i))))), (6, .int (iI ((v * (el (i))) / (si (ey i))))), (5, .int (iI (si (ey i)))), (0, .ref qW), (1, .int (iI (v))), (2, .int (iI (w))), (4, .int (iI (i)))]) hx hb dX6_filledByOne_75 rfl hl (by decide) rfl (fun ls hl => ?_)
                refine xi_inc (k := 6) (lv' := [(4, .int (iI (i + 1))), (3, .int (iI ((v * (el (i))) / (si (ey i))))), (6, .int (iI ((v * (el (i))) / (si (ey i))))), (5, .int (iI (si (ey i)))), (0, .ref qW), (1, .int (iI (v))), (2, .int (iI (w)))]) hx hb dX6_filledByOne_76 hl rfl (by decide) rfl (fun ls hl => ?_)
                refine lv_goto (tgt := 6) hx hb dX6_filledByOne_79 (by decide) ?_
                exact ih_6 (i + 1) ((v * (el (i))) / (si (ey i))) (by first | assumption | omega | (constructor <;> omega)) (by first | rfl | (rw [foldZ_s _ (by omega), ← ha]; unfold foS; first | rw [if_pos (by omega)] | rw [if_neg (by omega)])) (by first | assumption | omega | (constructor <;> omega)) (by omega) ls (lv_sub hl [4, 5, 6, 1, 0] rfl)
            · refine lv_iload hx hb dX6_filledByOne_58 (lv_at hl 0 rfl) ?_
              refine lv_iload_n hx hb dX6_filledByOne_60 rfl (lv_at hl 5 rfl) ?_
              refine xb_icmp_ge (tgt := 76) hx hb dX6_filledByOne_61 (by decide) (by omega) (fun h_8 => ?_) (fun h_8 => ?_)
              · refine xi_inc (k := 6) (lv' := [(4, .int (iI (i + 1))), (6, .int (iI ((v * (el (i))) / (si (ey i))))), (5, .int (iI (si (ey i)))), (0, .ref qW), (1, .int (iI (v))), (2, .int (iI (w))), (3, .int (iI (a)))]) hx hb dX6_filledByOne_76 hl rfl (by decide) rfl (fun ls hl => ?_)
                refine lv_goto (tgt := 6) hx hb dX6_filledByOne_79 (by decide) ?_
                exact ih_6 (i + 1) (a) (by first | assumption | omega | (constructor <;> omega)) (by first | rfl | (rw [foldZ_s _ (by omega), ← ha]; unfold foS; first | rw [if_pos (by omega)] | rw [if_neg (by omega)])) (by first | assumption | omega | (constructor <;> omega)) (by omega) ls (lv_sub hl [3, 4, 5, 6, 0] rfl)
              · refine lv_goto (tgt := 73) hx hb dX6_filledByOne_64 (by decide) ?_
                refine lv_iload hx hb dX6_filledByOne_73 (lv_at hl 0 rfl) ?_
                refine lv_istore_n (lv' := [(3, .int (iI ((v * (el (i))) / (si (ey i))))), (6, .int (iI ((v * (el (i))) / (si (ey i))))), (5, .int (iI (si (ey i)))), (0, .ref qW), (1, .int (iI (v))), (2, .int (iI (w))), (4, .int (iI (i)))]) hx hb dX6_filledByOne_75 rfl hl (by decide) rfl (fun ls hl => ?_)
                refine xi_inc (k := 6) (lv' := [(4, .int (iI (i + 1))), (3, .int (iI ((v * (el (i))) / (si (ey i))))), (6, .int (iI ((v * (el (i))) / (si (ey i))))), (5, .int (iI (si (ey i)))), (0, .ref qW), (1, .int (iI (v))), (2, .int (iI (w)))]) hx hb dX6_filledByOne_76 hl rfl (by decide) rfl (fun ls hl => ?_)
                refine lv_goto (tgt := 6) hx hb dX6_filledByOne_79 (by decide) ?_
                exact ih_6 (i + 1) ((v * (el (i))) / (si (ey i))) (by first | assumption | omega | (constructor <;> omega)) (by first | rfl | (rw [foldZ_s _ (by omega), ← ha]; unfold foS; first | rw [if_pos (by omega)] | rw [if_neg (by omega)])) (by first | assumption | omega | (constructor <;> omega)) (by omega) ls (lv_sub hl [4, 5, 6, 1, 0] rfl)
  refine xi_bipush hx hb dX6_filledByOne_0 (by decide +kernel) ?_
  refine lv_istore_n (lv' := [(3, .int (iI (-3))), (0, .ref qW), (1, .int (iI (v))), (2, .int (iI (w)))]) hx hb dX6_filledByOne_2 rfl hl (by decide) rfl (fun ls hl => ?_)
  refine xi_const hx hb dX6_filledByOne_3 ?_
  refine lv_istore (lv' := [(4, .int (iI (0))), (3, .int (iI (-3))), (0, .ref qW), (1, .int (iI (v))), (2, .int (iI (w)))]) hx hb dX6_filledByOne_4 hl (by decide) rfl (fun ls hl => ?_)
  exact cut_6 ((ex - 0 : Int).toNat + 1) (0) (-3) (by first | assumption | omega | (constructor <;> omega)) (by first | rfl | (rw [foldZ_s _ (by omega), ← ha]; unfold foS; first | rw [if_pos (by omega)] | rw [if_neg (by omega)])) (by first | assumption | omega | (constructor <;> omega)) (by exact Nat.lt_succ_self _) ls (lv_sub hl [2, 3, 4, 1, 0] rfl)
set_option maxHeartbeats 1000000 in
set_option maxRecDepth 100000 in
theorem c_X6_filled (l : Launch) (D : va_G) (cyI cyJ cyO : ClassId) (qW : Nat) (qT : Nat) (qA : Nat) (qK : Nat) (qC : Nat) (qE : Nat) (qI : Nat) (qF : Nat) (qH : Nat) (qO : Nat) (fi : Int) (qCy : Nat) (qCl : Nat) (qCb : Nat) (ex : Int) (be : Int) (op : Int) (es : Int) (ge : Int) (rc : Int) (lr : Int) (lw : Int) (ey : Int → Int) (el : Int → Int) (si : Int → Int) (qKk : Nat) (qKl : Nat) (kk : Int → Int) (y : Int) (w : Int) (h_ex : 0 ≤ ex ∧ ex ≤ 60) (h_be : 0 ≤ be ∧ be ≤ 60) (h_op : 0 ≤ op ∧ op ≤ 60) (h_ey : ∀ j, 0 ≤ ey j ∧ ey j ≤ 59) (h_el : ∀ j, 0 ≤ el j ∧ el j ≤ 999) (h_si : ∀ j, -1 ≤ si j ∧ si j ≤ 999) (h_kk : ∀ j, 0 ≤ kk j ∧ kk j ≤ 2) (h_y : -2147483648 ≤ y ∧ y ≤ 2147483647) (h_w : -2147483648 ≤ w ∧ w ≤ 2147483647) : Met l yX6_filled wsX6_filled ({ frames := 2, cells := 0, slots := 0, locals := 47 }) (va_Pc [.ref qW, .int (iI (y)), .int (iI (w))] (xR D vwCl [(qW, .inr (6, [.ref qT, .ref qA, .ref qK, .ref qC, .ref qE, .ref qI, .ref qF, .ref qH, .ref qO, .int (iI (fi))])), (qC, .inr (0, [.ref qCy, .ref qCl, .ref qCb, .int (iI (ex)), .int (iI (be)), .int (iI (op)), .int (iI (es)), .int (iI (ge)), .int (iI (rc)), .int (iI (lr)), .int (iI (lw))])), (qCy, .inl (cyI, 60, .inl (xA (ey)))), (qCl, .inl (cyI, 60, .inl (xA (el)))), (qI, .inl (cyI, 60, .inl (xA (si)))), (qK, .inr (2, [.ref qKk, .ref qKl])), (qKk, .inl (cyI, 60, .inl (xA (kk))))] (xT cyI cyJ cyO))) (xq (some (.int (iI (if (0 ≤ y ∧ y < 60) ∧ 0 ≤ w ∧ w ≤ 2 then (if kk y = 0 ∨ si y = -1 then -3 else if w = 0 then fsF si ey el ex (si y) else foF si ey el ex (si y) (if w = 1 then 1 else 0)) else -2))))) 0 0 (fun _ => False) := by
  refine Met.ofW (cc := cX6_filled) (maxL := 4) (ret := (some .int)) (by decide) rfl ?_
  intro p e s m args below meth c s₁ B hml hv
  obtain ⟨rfl, hP, hK⟩ := hv
  have hx := B.exec
  have hb := B.bytes
  have hr := B.returns
  have hts := atoms_spec (ws := wsX6_filled) B.pre
  have hown : s.vm.findClass RX6 = some m.cls := findClass_of_methodNamed B.named
  have hlocks := B.notSynchronized
  have hcX2 : ∀ w ∈ wsX20, w ∈ wsX6_filled := fun _ h => List.mem_cons_of_mem _ (List.mem_append_left _ (List.mem_append_right _ h))
  have hcX6 : ∀ w ∈ wsX60, w ∈ wsX6_filled := fun _ h => List.mem_cons_of_mem _ (List.mem_append_left _ (List.mem_append_left _ (List.mem_append_right _ h)))
  have hP : va_P D vwCl [(qW, .inr (6, [.ref qT, .ref qA, .ref qK, .ref qC, .ref qE, .ref qI, .ref qF, .ref qH, .ref qO, .int (iI (fi))])), (qC, .inr (0, [.ref qCy, .ref qCl, .ref qCb, .int (iI (ex)), .int (iI (be)), .int (iI (op)), .int (iI (es)), .int (iI (ge)), .int (iI (rc)), .int (iI (lr)), .int (iI (lw))])), (qCy, .inl (cyI, 60, .inl (xA (ey)))), (qCl, .inl (cyI, 60, .inl (xA (el)))), (qI, .inl (cyI, 60, .inl (xA (si)))), (qK, .inr (2, [.ref qKk, .ref qKl])), (qKk, .inl (cyI, 60, .inl (xA (kk))))] s.heap := hP
  have hl := lv_entry ([.ref qW, .int (iI (y)), .int (iI (w))]) (n := 4) (Nat.le_of_ble_eq_true rfl)
  rw [lg_entry_eq]
  generalize (lg_sl ([.ref qW, .int (iI (y)), .int (iI (w))]) ++ List.replicate (4 - (lg_sl ([.ref qW, .int (iI (y)), .int (iI (w))])).length) Slot.unset).toArray = ls at hl ⊢
  have hl : lv_has ls 4 [(0, .ref qW), (1, .int (iI (y))), (2, .int (iI (w)))] := hl
  refine lv_iload_n hx hb dX6_filled_0 rfl (lv_at hl 1 rfl) ?_
  have hPc := hP.sub (ws' := []) [] rfl
  refine xc_i (va_runS (As := [.int (iI (y))]) (rest := []) ⟨hx, hb, hml, hown, hts⟩ (c_X6_isYear l D cyI cyJ cyO y (by first | exact h_y | assumption | omega)) (va_cwS 1 hts gX6_filled_X6_isYear rfl rfl rfl (by decide +kernel) ⟨Nat.le_of_ble_eq_true rfl, Nat.le_of_ble_eq_true rfl⟩) (xpS hPc hK) rfl rfl hl.1 rfl (lv_room (Nat.le_of_ble_eq_true rfl)) dX6_filled_1 ⟨Nat.le_of_ble_eq_true rfl, Nat.le_of_ble_eq_true rfl⟩) ?_
  refine xb_if_eqB (tgt := 16) hx hb dX6_filled_4 (by decide) (fun h_1 => ?_) (fun h_1 => ?_)
  · refine xi_bipush hx hb dX6_filled_16 (by decide +kernel) ?_
    exact W.iret (v := iI (-2)) hx hb hr (fun t_ ht_ _ => ⟨congrArg (fun z => Outcome.returned (some (Value.int (iI z)))) (show (-2) = (if (0 ≤ y ∧ y < 60) ∧ 0 ≤ w ∧ w ≤ 2 then (if kk y = 0 ∨ si y = -1 then -3 else if w = 0 then fsF si ey el ex (si y) else foF si ey el ex (si y) (if w = 1 then 1 else 0)) else -2) from by first | rfl | ((repeat (first | rw [if_pos (by omega)] | rw [if_neg (by omega)])); done) | ((repeat (first | rw [if_pos (by omega)] | rw [if_neg (by omega)])); rfl) | omega), ht_⟩) (fun _ h9 => absurd h9 List.not_mem_nil) dX6_filled_18
  · refine lv_iload_n hx hb dX6_filled_7 rfl (lv_at hl 2 rfl) ?_
    refine xb_if_lt (tgt := 16) hx hb dX6_filled_8 (by decide) (by omega) (fun h_2 => ?_) (fun h_2 => ?_)
    · refine xi_bipush hx hb dX6_filled_16 (by decide +kernel) ?_
      exact W.iret (v := iI (-2)) hx hb hr (fun t_ ht_ _ => ⟨congrArg (fun z => Outcome.returned (some (Value.int (iI z)))) (show (-2) = (if (0 ≤ y ∧ y < 60) ∧ 0 ≤ w ∧ w ≤ 2 then (if kk y = 0 ∨ si y = -1 then -3 else if w = 0 then fsF si ey el ex (si y) else foF si ey el ex (si y) (if w = 1 then 1 else 0)) else -2) from by first | rfl | ((repeat (first | rw [if_pos (by omega)] | rw [if_neg (by omega)])); done) | ((repeat (first | rw [if_pos (by omega)] | rw [if_neg (by omega)])); rfl) | omega), ht_⟩) (fun _ h9 => absurd h9 List.not_mem_nil) dX6_filled_18
    · refine lv_iload_n hx hb dX6_filled_11 rfl (lv_at hl 2 rfl) ?_
      refine xi_const hx hb dX6_filled_12 ?_
      refine xb_icmp_le (tgt := 19) hx hb dX6_filled_13 (by decide) (by omega) (fun h_3 => ?_) (fun h_3 => ?_)
      · refine lv_aload_n hx hb dX6_filled_19 rfl (lv_at hl 0 rfl) ?_
        refine va_get (D := D) (ci := 6) (C := RX6) (T := TX6) (N := 10) hx hb hts hcX6 hown hK hP 0 rfl rfl 5 (by decide) (hts (.fieldLink RX6 49 "WallMarks" "sisterLevels" "[I") (List.mem_of_getElem? (i := 1) (by decide +kernel))) (fun _ h9 => h9) rfl dX6_filled_20 ?_
        refine lv_iload_n hx hb dX6_filled_23 rfl (lv_at hl 1 rfl) ?_
        refine xi_ald (D := D) hx hb hK hP 4 0 rfl rfl (by decide) (by omega) dX6_filled_24 ?_
        have hr_4 := h_si (y)
        refine lv_istore_n (lv' := [(3, .int (iI (si (y)))), (0, .ref qW), (1, .int (iI (y))), (2, .int (iI (w)))]) hx hb dX6_filled_25 rfl hl (by decide) rfl (fun ls hl => ?_)
        refine lv_aload_n hx hb dX6_filled_26 rfl (lv_at hl 1 rfl) ?_
        refine va_get (D := D) (ci := 6) (C := RX6) (T := TX6) (N := 10) hx hb hts hcX6 hown hK hP 0 rfl rfl 2 (by decide) (hts (.fieldLink RX6 26 "WallMarks" "knowledge" "LWallMarks$Known;") (List.mem_of_getElem? (i := 2) (by decide +kernel))) (fun _ h9 => h9) rfl dX6_filled_27 ?_
        refine va_get (D := D) (ci := 2) (C := RX2) (T := TX2) (N := 2) hx hb hts hcX2 hown hK hP 5 rfl rfl 0 (by decide) (hts (.fieldLink RX6 137 "WallMarks$Known" "kinds" "[I") (List.mem_of_getElem? (i := 3) (by decide +kernel))) (fun _ h9 => h9) rfl dX6_filled_30 ?_
        refine lv_iload_n hx hb dX6_filled_33 rfl (lv_at hl 2 rfl) ?_
        refine xi_ald (D := D) hx hb hK hP 6 0 rfl rfl (by decide) (by omega) dX6_filled_34 ?_
        have hr_5 := h_kk (y)
        refine xb_if_eq (tgt := 43) hx hb dX6_filled_35 (by decide) (by omega) (fun h_6 => ?_) (fun h_6 => ?_)
        · refine xi_bipush hx hb dX6_filled_43 (by decide +kernel) ?_
          exact W.iret (v := iI (-3)) hx hb hr (fun t_ ht_ _ => ⟨congrArg (fun z => Outcome.returned (some (Value.int (iI z)))) (show (-3) = (if (0 ≤ y ∧ y < 60) ∧ 0 ≤ w ∧ w ≤ 2 then (if kk y = 0 ∨ si y = -1 then -3 else if w = 0 then fsF si ey el ex (si y) else foF si ey el ex (si y) (if w = 1 then 1 else 0)) else -2) from by first | rfl | ((repeat (first | rw [if_pos (by omega)] | rw [if_neg (by omega)])); done) | ((repeat (first | rw [if_pos (by omega)] | rw [if_neg (by omega)])); rfl) | omega), ht_⟩) (fun _ h9 => absurd h9 List.not_mem_nil) dX6_filled_45
        · refine lv_iload_n hx hb dX6_filled_38 rfl (lv_at hl 0 rfl) ?_
          refine xi_const hx hb dX6_filled_39 ?_
          refine xb_icmp_ne (tgt := 46) hx hb dX6_filled_40 (by decide) (by omega) (fun h_7 => ?_) (fun h_7 => ?_)
          · refine lv_iload_n hx hb dX6_filled_46 rfl (lv_at hl 3 rfl) ?_
            refine xb_if_ne (tgt := 58) hx hb dX6_filled_47 (by decide) (by omega) (fun h_8 => ?_) (fun h_8 => ?_)
            · refine lv_aload_n hx hb dX6_filled_58 rfl (lv_at hl 1 rfl) ?_
              refine lv_iload_n hx hb dX6_filled_59 rfl (lv_at hl 0 rfl) ?_
              refine lv_iload_n hx hb dX6_filled_60 rfl (lv_at hl 3 rfl) ?_
              refine xi_const hx hb dX6_filled_61 ?_
              refine xb_icmp_ne (tgt := 69) hx hb dX6_filled_62 (by decide) (by omega) (fun h_9 => ?_) (fun h_9 => ?_)
              · refine xi_const hx hb dX6_filled_69 ?_
                have hPc := hP.sub (ws' := [(qW, .inr (6, [.ref qT, .ref qA, .ref qK, .ref qC, .ref qE, .ref qI, .ref qF, .ref qH, .ref qO, .int (iI (fi))])), (qC, .inr (0, [.ref qCy, .ref qCl, .ref qCb, .int (iI (ex)), .int (iI (be)), .int (iI (op)), .int (iI (es)), .int (iI (ge)), .int (iI (rc)), .int (iI (lr)), .int (iI (lw))])), (qCy, .inl (cyI, 60, .inl (xA (ey)))), (qCl, .inl (cyI, 60, .inl (xA (el)))), (qI, .inl (cyI, 60, .inl (xA (si))))]) [0, 1, 2, 3, 4] rfl
                refine xc_i (va_runV (As := [.int (iI (si (y))), .int (iI (0))]) (rest := []) ⟨hx, hb, hml, hown, hts⟩ (c_X6_filledByOne l D cyI cyJ cyO qW qT qA qK qC qE qI qF qH qO fi qCy qCl qCb ex be op es ge rc lr lw ey el si (si (y)) 0 (by first | exact h_ex | assumption | omega) (by first | exact h_be | assumption | omega) (by first | exact h_op | assumption | omega) (by first | exact h_ey | assumption | omega) (by first | exact h_el | assumption | omega) (by first | exact h_si | assumption | omega) (by first | exact h_v | assumption | omega) (by first | exact h_w | assumption | omega)) (cwV 2 hts gX6_filled_X6_filledByOne rfl rfl rfl (by decide +kernel) ⟨Nat.le_of_ble_eq_true rfl, Nat.le_of_ble_eq_true rfl⟩) (xpV hPc hK (ci := 6) (q0 := 0) (q := (RX6, TX6, 10)) rfl rfl) rfl rfl hl.1 rfl (lv_room (Nat.le_of_ble_eq_true rfl)) dX6_filled_70 ⟨Nat.le_of_ble_eq_true rfl, Nat.le_of_ble_eq_true rfl⟩) ?_
                exact W.iret (v := iI (foF si ey el ex (si (y)) 0)) hx hb hr (fun t_ ht_ _ => ⟨congrArg (fun z => Outcome.returned (some (Value.int (iI z)))) (show (foF si ey el ex (si (y)) 0) = (if (0 ≤ y ∧ y < 60) ∧ 0 ≤ w ∧ w ≤ 2 then (if kk y = 0 ∨ si y = -1 then -3 else if w = 0 then fsF si ey el ex (si y) else foF si ey el ex (si y) (if w = 1 then 1 else 0)) else -2) from by first | rfl | ((repeat (first | rw [if_pos (by omega)] | rw [if_neg (by omega)])); done) | ((repeat (first | rw [if_pos (by omega)] | rw [if_neg (by omega)])); rfl) | omega), ht_⟩) (fun _ h9 => absurd h9 List.not_mem_nil) dX6_filled_73
              · refine xi_const hx hb dX6_filled_65 ?_
                refine lv_goto (tgt := 70) hx hb dX6_filled_66 (by decide) ?_
                have hPc := hP.sub (ws' := [(qW, .inr (6, [.ref qT, .ref qA, .ref qK, .ref qC, .ref qE, .ref qI, .ref qF, .ref qH, .ref qO, .int (iI (fi))])), (qC, .inr (0, [.ref qCy, .ref qCl, .ref qCb, .int (iI (ex)), .int (iI (be)), .int (iI (op)), .int (iI (es)), .int (iI (ge)), .int (iI (rc)), .int (iI (lr)), .int (iI (lw))])), (qCy, .inl (cyI, 60, .inl (xA (ey)))), (qCl, .inl (cyI, 60, .inl (xA (el)))), (qI, .inl (cyI, 60, .inl (xA (si))))]) [0, 1, 2, 3, 4] rfl
                refine xc_i (va_runV (As := [.int (iI (si (y))), .int (iI (1))]) (rest := []) ⟨hx, hb, hml, hown, hts⟩ (c_X6_filledByOne l D cyI cyJ cyO qW qT qA qK qC qE qI qF qH qO fi qCy qCl qCb ex be op es ge rc lr lw ey el si (si (y)) 1 (by first | exact h_ex | assumption | omega) (by first | exact h_be | assumption | omega) (by first | exact h_op | assumption | omega) (by first | exact h_ey | assumption | omega) (by first | exact h_el | assumption | omega) (by first | exact h_si | assumption | omega) (by first | exact h_v | assumption | omega) (by first | exact h_w | assumption | omega)) (cwV 2 hts gX6_filled_X6_filledByOne rfl rfl rfl (by decide +kernel) ⟨Nat.le_of_ble_eq_true rfl, Nat.le_of_ble_eq_true rfl⟩) (xpV hPc hK (ci := 6) (q0 := 0) (q := (RX6, TX6, 10)) rfl rfl) rfl rfl hl.1 rfl (lv_room (Nat.le_of_ble_eq_true rfl)) dX6_filled_70 ⟨Nat.le_of_ble_eq_true rfl, Nat.le_of_ble_eq_true rfl⟩) ?_
                exact W.iret (v := iI (foF si ey el ex (si (y)) 1)) hx hb hr (fun t_ ht_ _ => ⟨congrArg (fun z => Outcome.returned (some (Value.int (iI z)))) (show (foF si ey el ex (si (y)) 1) = (if (0 ≤ y ∧ y < 60) ∧ 0 ≤ w ∧ w ≤ 2 then (if kk y = 0 ∨ si y = -1 then -3 else if w = 0 then fsF si ey el ex (si y) else foF si ey el ex (si y) (if w = 1 then 1 else 0)) else -2) from by first | rfl | ((repeat (first | rw [if_pos (by omega)] | rw [if_neg (by omega)])); done) | ((repeat (first | rw [if_pos (by omega)] | rw [if_neg (by omega)])); rfl) | omega), ht_⟩) (fun _ h9 => absurd h9 List.not_mem_nil) dX6_filled_73
            · refine lv_aload_n hx hb dX6_filled_50 rfl (lv_at hl 1 rfl) ?_
              refine lv_iload_n hx hb dX6_filled_51 rfl (lv_at hl 0 rfl) ?_
              have hPc := hP.sub (ws' := [(qW, .inr (6, [.ref qT, .ref qA, .ref qK, .ref qC, .ref qE, .ref qI, .ref qF, .ref qH, .ref qO, .int (iI (fi))])), (qC, .inr (0, [.ref qCy, .ref qCl, .ref qCb, .int (iI (ex)), .int (iI (be)), .int (iI (op)), .int (iI (es)), .int (iI (ge)), .int (iI (rc)), .int (iI (lr)), .int (iI (lw))])), (qCy, .inl (cyI, 60, .inl (xA (ey)))), (qCl, .inl (cyI, 60, .inl (xA (el)))), (qI, .inl (cyI, 60, .inl (xA (si))))]) [0, 1, 2, 3, 4] rfl
              refine xc_i (va_runV (As := [.int (iI (si (y)))]) (rest := []) ⟨hx, hb, hml, hown, hts⟩ (c_X6_filledBySums l D cyI cyJ cyO qW qT qA qK qC qE qI qF qH qO fi qCy qCl qCb ex be op es ge rc lr lw ey el si (si (y)) (by first | exact h_ex | assumption | omega) (by first | exact h_be | assumption | omega) (by first | exact h_op | assumption | omega) (by first | exact h_ey | assumption | omega) (by first | exact h_el | assumption | omega) (by first | exact h_si | assumption | omega) (by first | exact h_v | assumption | omega)) (cwV 1 hts gX6_filled_X6_filledBySums rfl rfl rfl (by decide +kernel) ⟨Nat.le_of_ble_eq_true rfl, Nat.le_of_ble_eq_true rfl⟩) (xpV hPc hK (ci := 6) (q0 := 0) (q := (RX6, TX6, 10)) rfl rfl) rfl rfl hl.1 rfl (lv_room (Nat.le_of_ble_eq_true rfl)) dX6_filled_52 ⟨Nat.le_of_ble_eq_true rfl, Nat.le_of_ble_eq_true rfl⟩) ?_
              refine lv_goto (tgt := 73) hx hb dX6_filled_55 (by decide) ?_
              exact W.iret (v := iI (fsF si ey el ex (si (y)))) hx hb hr (fun t_ ht_ _ => ⟨congrArg (fun z => Outcome.returned (some (Value.int (iI z)))) (show (fsF si ey el ex (si (y))) = (if (0 ≤ y ∧ y < 60) ∧ 0 ≤ w ∧ w ≤ 2 then (if kk y = 0 ∨ si y = -1 then -3 else if w = 0 then fsF si ey el ex (si y) else foF si ey el ex (si y) (if w = 1 then 1 else 0)) else -2) from by first | rfl | ((repeat (first | rw [if_pos (by omega)] | rw [if_neg (by omega)])); done) | ((repeat (first | rw [if_pos (by omega)] | rw [if_neg (by omega)])); rfl) | omega), ht_⟩) (fun _ h9 => absurd h9 List.not_mem_nil) dX6_filled_73
          · refine xi_bipush hx hb dX6_filled_43 (by decide +kernel) ?_
            exact W.iret (v := iI (-3)) hx hb hr (fun t_ ht_ _ => ⟨congrArg (fun z => Outcome.returned (some (Value.int (iI z)))) (show (-3) = (if (0 ≤ y ∧ y < 60) ∧ 0 ≤ w ∧ w ≤ 2 then (if kk y = 0 ∨ si y = -1 then -3 else if w = 0 then fsF si ey el ex (si y) else foF si ey el ex (si y) (if w = 1 then 1 else 0)) else -2) from by first | rfl | ((repeat (first | rw [if_pos (by omega)] | rw [if_neg (by omega)])); done) | ((repeat (first | rw [if_pos (by omega)] | rw [if_neg (by omega)])); rfl) | omega), ht_⟩) (fun _ h9 => absurd h9 List.not_mem_nil) dX6_filled_45
      · refine xi_bipush hx hb dX6_filled_16 (by decide +kernel) ?_
        exact W.iret (v := iI (-2)) hx hb hr (fun t_ ht_ _ => ⟨congrArg (fun z => Outcome.returned (some (Value.int (iI z)))) (show (-2) = (if (0 ≤ y ∧ y < 60) ∧ 0 ≤ w ∧ w ≤ 2 then (if kk y = 0 ∨ si y = -1 then -3 else if w = 0 then fsF si ey el ex (si y) else foF si ey el ex (si y) (if w = 1 then 1 else 0)) else -2) from by first | rfl | ((repeat (first | rw [if_pos (by omega)] | rw [if_neg (by omega)])); done) | ((repeat (first | rw [if_pos (by omega)] | rw [if_neg (by omega)])); rfl) | omega), ht_⟩) (fun _ h9 => absurd h9 List.not_mem_nil) dX6_filled_18
set_option maxHeartbeats 1000000 in
set_option maxRecDepth 100000 in
theorem c_X6_dykeAbove (l : Launch) (D : va_G) (cyI cyJ cyO : ClassId) (qW : Nat) (qT : Nat) (qA : Nat) (qK : Nat) (qC : Nat) (qE : Nat) (qI : Nat) (qF : Nat) (qH : Nat) (qO : Nat) (fi : Int) (se : Int → Int) (qCy : Nat) (qCl : Nat) (qCb : Nat) (ex : Int) (be : Int) (op : Int) (es : Int) (ge : Int) (rc : Int) (lr : Int) (lw : Int) (el : Int → Int) (bl : Int → Int) (x : Int) (h_s3 : 0 ≤ se 3 ∧ se 3 ≤ 99) (h_s4 : 0 ≤ se 4 ∧ se 4 ≤ 9999) (h_s5 : 0 ≤ se 5 ∧ se 5 ≤ 99) (h_ex : 0 ≤ ex ∧ ex ≤ 60) (h_be : 0 ≤ be ∧ be ≤ 60) (h_op : 0 ≤ op ∧ op ≤ 60) (h_el : ∀ j, 0 ≤ el j ∧ el j ≤ 999) (h_bl : ∀ j, 0 ≤ bl j ∧ bl j ≤ 999) (h_x : 0 ≤ x ∧ x ≤ 1000) : Met l yX6_dykeAbove wsX6_dykeAbove ({ frames := 2, cells := 0, slots := 0, locals := 44 }) (va_Pc [.ref qW, .int (iI (x))] (xR D vwCl [(qW, .inr (6, [.ref qT, .ref qA, .ref qK, .ref qC, .ref qE, .ref qI, .ref qF, .ref qH, .ref qO, .int (iI (fi))])), (qE, .inl (cyI, 6, .inl (xA (se)))), (qC, .inr (0, [.ref qCy, .ref qCl, .ref qCb, .int (iI (ex)), .int (iI (be)), .int (iI (op)), .int (iI (es)), .int (iI (ge)), .int (iI (rc)), .int (iI (lr)), .int (iI (lw))])), (qCl, .inl (cyI, 60, .inl (xA (el)))), (qCb, .inl (cyI, 60, .inl (xA (bl))))] (xT cyI cyJ cyO))) (xq (some (.long (lI (dkA se el bl ex be x))))) 0 0 (fun _ => False) := by
  refine Met.ofW (cc := cX6_dykeAbove) (maxL := 4) (ret := (some .long)) (by decide) rfl ?_
  intro p e s m args below meth c s₁ B hml hv
  obtain ⟨rfl, hP, hK⟩ := hv
  have hx := B.exec
  have hb := B.bytes
  have hr := B.returns
  have hts := atoms_spec (ws := wsX6_dykeAbove) B.pre
  have hown : s.vm.findClass RX6 = some m.cls := findClass_of_methodNamed B.named
  have hlocks := B.notSynchronized
  have hcX6 : ∀ w ∈ wsX60, w ∈ wsX6_dykeAbove := fun _ h => List.mem_cons_of_mem _ (List.mem_append_left _ (List.mem_append_right _ h))
  have hP : va_P D vwCl [(qW, .inr (6, [.ref qT, .ref qA, .ref qK, .ref qC, .ref qE, .ref qI, .ref qF, .ref qH, .ref qO, .int (iI (fi))])), (qE, .inl (cyI, 6, .inl (xA (se)))), (qC, .inr (0, [.ref qCy, .ref qCl, .ref qCb, .int (iI (ex)), .int (iI (be)), .int (iI (op)), .int (iI (es)), .int (iI (ge)), .int (iI (rc)), .int (iI (lr)), .int (iI (lw))])), (qCl, .inl (cyI, 60, .inl (xA (el)))), (qCb, .inl (cyI, 60, .inl (xA (bl))))] s.heap := hP
  have hl := lv_entry ([.ref qW, .int (iI (x))]) (n := 4) (Nat.le_of_ble_eq_true rfl)
  rw [lg_entry_eq]
  generalize (lg_sl ([.ref qW, .int (iI (x))]) ++ List.replicate (4 - (lg_sl ([.ref qW, .int (iI (x))])).length) Slot.unset).toArray = ls at hl ⊢
  have hl : lv_has ls 4 [(0, .ref qW), (1, .int (iI (x)))] := hl
  refine lv_aload_n hx hb dX6_dykeAbove_0 rfl (lv_at hl 0 rfl) ?_
  refine va_get (D := D) (ci := 6) (C := RX6) (T := TX6) (N := 10) hx hb hts hcX6 hown hK hP 0 rfl rfl 4 (by decide) (hts (.fieldLink RX6 46 "WallMarks" "settings" "[I") (List.mem_of_getElem? (i := 1) (by decide +kernel))) (fun _ h9 => h9) rfl dX6_dykeAbove_1 ?_
  refine xi_const hx hb dX6_dykeAbove_4 ?_
  refine xi_ald (D := D) hx hb hK hP 1 0 rfl rfl (by decide) (by omega) dX6_dykeAbove_5 ?_
  refine xi_i2l hx hb dX6_dykeAbove_6 (by omega) ?_
  refine lv_iload_n hx hb dX6_dykeAbove_7 rfl (lv_at hl 1 rfl) ?_
  refine xi_i2l hx hb dX6_dykeAbove_8 (by omega) ?_
  refine xl_mul hx hb dX6_dykeAbove_9 ?_
  refine lv_aload_n hx hb dX6_dykeAbove_10 rfl (lv_at hl 0 rfl) ?_
  refine va_get (D := D) (ci := 6) (C := RX6) (T := TX6) (N := 10) hx hb hts hcX6 hown hK hP 0 rfl rfl 3 (by decide) (hts (.fieldLink RX6 33 "WallMarks" "counted" "LWallMarks$Counted;") (List.mem_of_getElem? (i := 2) (by decide +kernel))) (fun _ h9 => h9) rfl dX6_dykeAbove_11 ?_
  refine lv_iload_n hx hb dX6_dykeAbove_14 rfl (lv_at hl 1 rfl) ?_
  have hf_1 := buZ_in bl be x (by omega)
  have hPc := hP.sub (ws' := [(qC, .inr (0, [.ref qCy, .ref qCl, .ref qCb, .int (iI (ex)), .int (iI (be)), .int (iI (op)), .int (iI (es)), .int (iI (ge)), .int (iI (rc)), .int (iI (lr)), .int (iI (lw))])), (qCb, .inl (cyI, 60, .inl (xA (bl))))]) [2, 4] rfl
  refine xc_i (va_runV (As := [.int (iI (x))]) (rest := [.long (lI ((se (3)) * x))]) ⟨hx, hb, hml, hown, hts⟩ (c_X0_rareBelow l D cyI cyJ cyO qC qCy qCl qCb ex be op es ge rc lr lw bl x (by first | exact h_ex | assumption | omega) (by first | exact h_be | assumption | omega) (by first | exact h_op | assumption | omega) (by first | exact h_bl | assumption | omega) (by first | exact h_x | assumption | omega)) (cwV 1 hts gX6_dykeAbove_X0_rareBelow rfl rfl rfl (by decide +kernel) ⟨Nat.le_of_ble_eq_true rfl, Nat.le_of_ble_eq_true rfl⟩) (xpV hPc hK (ci := 0) (q0 := 0) (q := (RX0, TX0, 11)) rfl rfl) rfl rfl hl.1 rfl (lv_room (Nat.le_of_ble_eq_true rfl)) dX6_dykeAbove_15 ⟨Nat.le_of_ble_eq_true rfl, Nat.le_of_ble_eq_true rfl⟩) ?_
  refine xi_i2l hx hb dX6_dykeAbove_18 (by omega) ?_
  refine xl_mul hx hb dX6_dykeAbove_19 ?_
  refine lv_lstore_n (lv' := [(2, .long (lI (((se (3)) * x) * (ex + buZ bl be x + 1)))), (0, .ref qW), (1, .int (iI (x)))]) hx hb dX6_dykeAbove_20 rfl hl (by decide) rfl (fun ls hl => ?_)
  refine lv_lload_n hx hb dX6_dykeAbove_21 rfl (lv_at hl 0 rfl) ?_
  refine lv_aload_n hx hb dX6_dykeAbove_22 rfl (lv_at hl 1 rfl) ?_
  refine va_get (D := D) (ci := 6) (C := RX6) (T := TX6) (N := 10) hx hb hts hcX6 hown hK hP 0 rfl rfl 4 (by decide) (hts (.fieldLink RX6 46 "WallMarks" "settings" "[I") (List.mem_of_getElem? (i := 1) (by decide +kernel))) (fun _ h9 => h9) rfl dX6_dykeAbove_23 ?_
  refine xi_const hx hb dX6_dykeAbove_26 ?_
  refine xi_ald (D := D) hx hb hK hP 1 0 rfl rfl (by decide) (by omega) dX6_dykeAbove_27 ?_
  refine xi_i2l hx hb dX6_dykeAbove_28 (by omega) ?_
  refine lv_aload_n hx hb dX6_dykeAbove_29 rfl (lv_at hl 1 rfl) ?_
  refine va_get (D := D) (ci := 6) (C := RX6) (T := TX6) (N := 10) hx hb hts hcX6 hown hK hP 0 rfl rfl 4 (by decide) (hts (.fieldLink RX6 46 "WallMarks" "settings" "[I") (List.mem_of_getElem? (i := 1) (by decide +kernel))) (fun _ h9 => h9) rfl dX6_dykeAbove_30 ?_
  refine xi_const hx hb dX6_dykeAbove_33 ?_
  refine xi_ald (D := D) hx hb hK hP 1 0 rfl rfl (by decide) (by omega) dX6_dykeAbove_34 ?_
  refine xi_i2l hx hb dX6_dykeAbove_35 (by omega) ?_
  refine xl_mul hx hb dX6_dykeAbove_36 ?_
  refine lv_aload_n hx hb dX6_dykeAbove_37 rfl (lv_at hl 1 rfl) ?_
  refine va_get (D := D) (ci := 6) (C := RX6) (T := TX6) (N := 10) hx hb hts hcX6 hown hK hP 0 rfl rfl 3 (by decide) (hts (.fieldLink RX6 33 "WallMarks" "counted" "LWallMarks$Counted;") (List.mem_of_getElem? (i := 2) (by decide +kernel))) (fun _ h9 => h9) rfl dX6_dykeAbove_38 ?_
  refine lv_iload_n hx hb dX6_dykeAbove_41 rfl (lv_at hl 2 rfl) ?_
  have hf_2 := ovZ_in el ex x (by omega)
  have hPc := hP.sub (ws' := [(qC, .inr (0, [.ref qCy, .ref qCl, .ref qCb, .int (iI (ex)), .int (iI (be)), .int (iI (op)), .int (iI (es)), .int (iI (ge)), .int (iI (rc)), .int (iI (lr)), .int (iI (lw))])), (qCl, .inl (cyI, 60, .inl (xA (el))))]) [2, 3] rfl
  refine xc_i (va_runV (As := [.int (iI (x))]) (rest := [.long (lI ((se (4)) * (se (5)))), .long (lI (((se (3)) * x) * (ex + buZ bl be x + 1)))]) ⟨hx, hb, hml, hown, hts⟩ (c_X0_overs l D cyI cyJ cyO qC qCy qCl qCb ex be op es ge rc lr lw el x (by first | exact h_ex | assumption | omega) (by first | exact h_be | assumption | omega) (by first | exact h_op | assumption | omega) (by first | exact h_el | assumption | omega) (by first | exact h_x | assumption | omega)) (cwV 1 hts gX6_dykeAbove_X0_overs rfl rfl rfl (by decide +kernel) ⟨Nat.le_of_ble_eq_true rfl, Nat.le_of_ble_eq_true rfl⟩) (xpV hPc hK (ci := 0) (q0 := 0) (q := (RX0, TX0, 11)) rfl rfl) rfl rfl hl.1 rfl (lv_room (Nat.le_of_ble_eq_true rfl)) dX6_dykeAbove_42 ⟨Nat.le_of_ble_eq_true rfl, Nat.le_of_ble_eq_true rfl⟩) ?_
  refine xi_i2l hx hb dX6_dykeAbove_45 (by omega) ?_
  refine xl_mul hx hb dX6_dykeAbove_46 ?_
  refine xl_add hx hb dX6_dykeAbove_47 ?_
  exact W.lret (v := lI ((((se (3)) * x) * (ex + buZ bl be x + 1)) + (((se (4)) * (se (5))) * (ovZ el ex x)))) hx hb hr (fun t_ ht_ _ => ⟨congrArg (fun z => Outcome.returned (some (Value.long (lI z)))) (show ((((se (3)) * x) * (ex + buZ bl be x + 1)) + (((se (4)) * (se (5))) * (ovZ el ex x))) = (dkA se el bl ex be x) from by rfl), ht_⟩) (fun _ h9 => absurd h9 List.not_mem_nil) dX6_dykeAbove_48
set_option maxHeartbeats 1000000 in
set_option maxRecDepth 100000 in
theorem c_X6_isBetter (l : Launch) (D : va_G) (cyI cyJ cyO : ClassId) (qW : Nat) (qT : Nat) (qA : Nat) (qK : Nat) (qC : Nat) (qE : Nat) (qI : Nat) (qF : Nat) (qH : Nat) (qO : Nat) (fi : Int) (se : Int → Int) (qCy : Nat) (qCl : Nat) (qCb : Nat) (ex : Int) (be : Int) (op : Int) (es : Int) (ge : Int) (rc : Int) (lr : Int) (lw : Int) (el : Int → Int) (bl : Int → Int) (x : Int) (y : Int) (h_s3 : 0 ≤ se 3 ∧ se 3 ≤ 99) (h_s4 : 0 ≤ se 4 ∧ se 4 ≤ 9999) (h_s5 : 0 ≤ se 5 ∧ se 5 ≤ 99) (h_ex : 0 ≤ ex ∧ ex ≤ 60) (h_be : 0 ≤ be ∧ be ≤ 60) (h_op : 0 ≤ op ∧ op ≤ 60) (h_el : ∀ j, 0 ≤ el j ∧ el j ≤ 999) (h_bl : ∀ j, 0 ≤ bl j ∧ bl j ≤ 999) (h_x : 0 ≤ x ∧ x ≤ 1000) (h_y : 0 ≤ y ∧ y ≤ 1000) : Met l yX6_isBetter wsX6_isBetter ({ frames := 3, cells := 0, slots := 0, locals := 67 }) (va_Pc [.ref qW, .int (iI (x)), .int (iI (y))] (xR D vwCl [(qW, .inr (6, [.ref qT, .ref qA, .ref qK, .ref qC, .ref qE, .ref qI, .ref qF, .ref qH, .ref qO, .int (iI (fi))])), (qE, .inl (cyI, 6, .inl (xA (se)))), (qC, .inr (0, [.ref qCy, .ref qCl, .ref qCb, .int (iI (ex)), .int (iI (be)), .int (iI (op)), .int (iI (es)), .int (iI (ge)), .int (iI (rc)), .int (iI (lr)), .int (iI (lw))])), (qCl, .inl (cyI, 60, .inl (xA (el)))), (qCb, .inl (cyI, 60, .inl (xA (bl))))] (xT cyI cyJ cyO))) (xq (some (.int (iI (b2 (btP se el bl ex be x y)))))) 0 0 (fun _ => False) := by
  refine Met.ofW (cc := cX6_isBetter) (maxL := 7) (ret := (some .boolean)) (by decide) rfl ?_
  intro p e s m args below meth c s₁ B hml hv
  obtain ⟨rfl, hP, hK⟩ := hv
  have hx := B.exec
  have hb := B.bytes
  have hr := B.returns
  have hts := atoms_spec (ws := wsX6_isBetter) B.pre
  have hown : s.vm.findClass RX6 = some m.cls := findClass_of_methodNamed B.named
  have hlocks := B.notSynchronized
  have hcX6 : ∀ w ∈ wsX60, w ∈ wsX6_isBetter := fun _ h => List.mem_cons_of_mem _ (List.mem_append_left _ (List.mem_append_right _ h))
  have hP : va_P D vwCl [(qW, .inr (6, [.ref qT, .ref qA, .ref qK, .ref qC, .ref qE, .ref qI, .ref qF, .ref qH, .ref qO, .int (iI (fi))])), (qE, .inl (cyI, 6, .inl (xA (se)))), (qC, .inr (0, [.ref qCy, .ref qCl, .ref qCb, .int (iI (ex)), .int (iI (be)), .int (iI (op)), .int (iI (es)), .int (iI (ge)), .int (iI (rc)), .int (iI (lr)), .int (iI (lw))])), (qCl, .inl (cyI, 60, .inl (xA (el)))), (qCb, .inl (cyI, 60, .inl (xA (bl))))] s.heap := hP
  have hl := lv_entry ([.ref qW, .int (iI (x)), .int (iI (y))]) (n := 7) (Nat.le_of_ble_eq_true rfl)
  rw [lg_entry_eq]
  generalize (lg_sl ([.ref qW, .int (iI (x)), .int (iI (y))]) ++ List.replicate (7 - (lg_sl ([.ref qW, .int (iI (x)), .int (iI (y))])).length) Slot.unset).toArray = ls at hl ⊢
  have hl : lv_has ls 7 [(0, .ref qW), (1, .int (iI (x))), (2, .int (iI (y)))] := hl
  refine lv_aload_n hx hb dX6_isBetter_0 rfl (lv_at hl 0 rfl) ?_
  refine lv_iload_n hx hb dX6_isBetter_1 rfl (lv_at hl 1 rfl) ?_
  have hf_1 := dkA_in (se := se) (el := el) (bl := bl) (ex := ex) (be := be) (h := x) (by omega) (by omega) (by assumption) (by assumption) (by assumption) (by omega)
  have hPc := hP.sub (ws' := [(qW, .inr (6, [.ref qT, .ref qA, .ref qK, .ref qC, .ref qE, .ref qI, .ref qF, .ref qH, .ref qO, .int (iI (fi))])), (qE, .inl (cyI, 6, .inl (xA (se)))), (qC, .inr (0, [.ref qCy, .ref qCl, .ref qCb, .int (iI (ex)), .int (iI (be)), .int (iI (op)), .int (iI (es)), .int (iI (ge)), .int (iI (rc)), .int (iI (lr)), .int (iI (lw))])), (qCl, .inl (cyI, 60, .inl (xA (el)))), (qCb, .inl (cyI, 60, .inl (xA (bl))))]) [0, 1, 2, 3, 4] rfl
  refine xc_l (va_runV (As := [.int (iI (x))]) (rest := []) ⟨hx, hb, hml, hown, hts⟩ (c_X6_dykeAbove l D cyI cyJ cyO qW qT qA qK qC qE qI qF qH qO fi se qCy qCl qCb ex be op es ge rc lr lw el bl x (by first | exact h_s3 | assumption | omega) (by first | exact h_s4 | assumption | omega) (by first | exact h_s5 | assumption | omega) (by first | exact h_ex | assumption | omega) (by first | exact h_be | assumption | omega) (by first | exact h_op | assumption | omega) (by first | exact h_el | assumption | omega) (by first | exact h_bl | assumption | omega) (by first | exact h_x | assumption | omega)) (cwV 1 hts gX6_isBetter_X6_dykeAbove rfl rfl rfl (by decide +kernel) ⟨Nat.le_of_ble_eq_true rfl, Nat.le_of_ble_eq_true rfl⟩) (xpV hPc hK (ci := 6) (q0 := 0) (q := (RX6, TX6, 10)) rfl rfl) rfl rfl hl.1 rfl (lv_room (Nat.le_of_ble_eq_true rfl)) dX6_isBetter_2 ⟨Nat.le_of_ble_eq_true rfl, Nat.le_of_ble_eq_true rfl⟩) ?_
  refine lv_aload_n hx hb dX6_isBetter_5 rfl (lv_at hl 0 rfl) ?_
  refine va_get (D := D) (ci := 6) (C := RX6) (T := TX6) (N := 10) hx hb hts hcX6 hown hK hP 0 rfl rfl 3 (by decide) (hts (.fieldLink RX6 33 "WallMarks" "counted" "LWallMarks$Counted;") (List.mem_of_getElem? (i := 1) (by decide +kernel))) (fun _ h9 => h9) rfl dX6_isBetter_6 ?_
  refine lv_iload_n hx hb dX6_isBetter_9 rfl (lv_at hl 2 rfl) ?_
  have hf_2 := buZ_in bl be y (by omega)
  have hPc := hP.sub (ws' := [(qC, .inr (0, [.ref qCy, .ref qCl, .ref qCb, .int (iI (ex)), .int (iI (be)), .int (iI (op)), .int (iI (es)), .int (iI (ge)), .int (iI (rc)), .int (iI (lr)), .int (iI (lw))])), (qCb, .inl (cyI, 60, .inl (xA (bl))))]) [2, 4] rfl
  refine xc_i (va_runV (As := [.int (iI (y))]) (rest := [.long (lI (dkA se el bl ex be x))]) ⟨hx, hb, hml, hown, hts⟩ (c_X0_rareBelow l D cyI cyJ cyO qC qCy qCl qCb ex be op es ge rc lr lw bl y (by first | exact h_ex | assumption | omega) (by first | exact h_be | assumption | omega) (by first | exact h_op | assumption | omega) (by first | exact h_bl | assumption | omega) (by first | exact h_x | assumption | omega)) (cwV 1 hts gX6_isBetter_X0_rareBelow rfl rfl rfl (by decide +kernel) ⟨Nat.le_of_ble_eq_true rfl, Nat.le_of_ble_eq_true rfl⟩) (xpV hPc hK (ci := 0) (q0 := 0) (q := (RX0, TX0, 11)) rfl rfl) rfl rfl hl.1 rfl (lv_room (Nat.le_of_ble_eq_true rfl)) dX6_isBetter_10 ⟨Nat.le_of_ble_eq_true rfl, Nat.le_of_ble_eq_true rfl⟩) ?_
  refine xi_i2l hx hb dX6_isBetter_13 (by omega) ?_
  refine xl_mul hx hb dX6_isBetter_14 ?_
  refine lv_lstore_n (lv' := [(3, .long (lI ((dkA se el bl ex be x) * (ex + buZ bl be y + 1)))), (0, .ref qW), (1, .int (iI (x))), (2, .int (iI (y)))]) hx hb dX6_isBetter_15 rfl hl (by decide) rfl (fun ls hl => ?_)
  refine lv_aload_n hx hb dX6_isBetter_16 rfl (lv_at hl 1 rfl) ?_
  refine lv_iload_n hx hb dX6_isBetter_17 rfl (lv_at hl 3 rfl) ?_
  have hf_3 := dkA_in (se := se) (el := el) (bl := bl) (ex := ex) (be := be) (h := y) (by omega) (by omega) (by assumption) (by assumption) (by assumption) (by omega)
  have hPc := hP.sub (ws' := [(qW, .inr (6, [.ref qT, .ref qA, .ref qK, .ref qC, .ref qE, .ref qI, .ref qF, .ref qH, .ref qO, .int (iI (fi))])), (qE, .inl (cyI, 6, .inl (xA (se)))), (qC, .inr (0, [.ref qCy, .ref qCl, .ref qCb, .int (iI (ex)), .int (iI (be)), .int (iI (op)), .int (iI (es)), .int (iI (ge)), .int (iI (rc)), .int (iI (lr)), .int (iI (lw))])), (qCl, .inl (cyI, 60, .inl (xA (el)))), (qCb, .inl (cyI, 60, .inl (xA (bl))))]) [0, 1, 2, 3, 4] rfl
  refine xc_l (va_runV (As := [.int (iI (y))]) (rest := []) ⟨hx, hb, hml, hown, hts⟩ (c_X6_dykeAbove l D cyI cyJ cyO qW qT qA qK qC qE qI qF qH qO fi se qCy qCl qCb ex be op es ge rc lr lw el bl y (by first | exact h_s3 | assumption | omega) (by first | exact h_s4 | assumption | omega) (by first | exact h_s5 | assumption | omega) (by first | exact h_ex | assumption | omega) (by first | exact h_be | assumption | omega) (by first | exact h_op | assumption | omega) (by first | exact h_el | assumption | omega) (by first | exact h_bl | assumption | omega) (by first | exact h_x | assumption | omega)) (cwV 1 hts gX6_isBetter_X6_dykeAbove rfl rfl rfl (by decide +kernel) ⟨Nat.le_of_ble_eq_true rfl, Nat.le_of_ble_eq_true rfl⟩) (xpV hPc hK (ci := 6) (q0 := 0) (q := (RX6, TX6, 10)) rfl rfl) rfl rfl hl.1 rfl (lv_room (Nat.le_of_ble_eq_true rfl)) dX6_isBetter_18 ⟨Nat.le_of_ble_eq_true rfl, Nat.le_of_ble_eq_true rfl⟩) ?_
  refine lv_aload_n hx hb dX6_isBetter_21 rfl (lv_at hl 1 rfl) ?_
  refine va_get (D := D) (ci := 6) (C := RX6) (T := TX6) (N := 10) hx hb hts hcX6 hown hK hP 0 rfl rfl 3 (by decide) (hts (.fieldLink RX6 33 "WallMarks" "counted" "LWallMarks$Counted;") (List.mem_of_getElem? (i := 1) (by decide +kernel))) (fun _ h9 => h9) rfl dX6_isBetter_22 ?_
  refine lv_iload_n hx hb dX6_isBetter_25 rfl (lv_at hl 2 rfl) ?_
  have hf_4 := buZ_in bl be x (by omega)
  have hPc := hP.sub (ws' := [(qC, .inr (0, [.ref qCy, .ref qCl, .ref qCb, .int (iI (ex)), .int (iI (be)), .int (iI (op)), .int (iI (es)), .int (iI (ge)), .int (iI (rc)), .int (iI (lr)), .int (iI (lw))])), (qCb, .inl (cyI, 60, .inl (xA (bl))))]) [2, 4] rfl
  refine xc_i (va_runV (As := [.int (iI (x))]) (rest := [.long (lI (dkA se el bl ex be y))]) ⟨hx, hb, hml, hown, hts⟩ (c_X0_rareBelow l D cyI cyJ cyO qC qCy qCl qCb ex be op es ge rc lr lw bl x (by first | exact h_ex | assumption | omega) (by first | exact h_be | assumption | omega) (by first | exact h_op | assumption | omega) (by first | exact h_bl | assumption | omega) (by first | exact h_x | assumption | omega)) (cwV 1 hts gX6_isBetter_X0_rareBelow rfl rfl rfl (by decide +kernel) ⟨Nat.le_of_ble_eq_true rfl, Nat.le_of_ble_eq_true rfl⟩) (xpV hPc hK (ci := 0) (q0 := 0) (q := (RX0, TX0, 11)) rfl rfl) rfl rfl hl.1 rfl (lv_room (Nat.le_of_ble_eq_true rfl)) dX6_isBetter_26 ⟨Nat.le_of_ble_eq_true rfl, Nat.le_of_ble_eq_true rfl⟩) ?_
  refine xi_i2l hx hb dX6_isBetter_29 (by omega) ?_
  refine xl_mul hx hb dX6_isBetter_30 ?_
  refine lv_lstore (lv' := [(5, .long (lI ((dkA se el bl ex be y) * (ex + buZ bl be x + 1)))), (3, .long (lI ((dkA se el bl ex be x) * (ex + buZ bl be y + 1)))), (0, .ref qW), (1, .int (iI (x))), (2, .int (iI (y)))]) hx hb dX6_isBetter_31 hl (by decide) rfl (fun ls hl => ?_)
  refine lv_lload_n hx hb dX6_isBetter_33 rfl (lv_at hl 1 rfl) ?_
  refine lv_lload hx hb dX6_isBetter_34 (lv_at hl 0 rfl) ?_
  have hm5 := mul_in (a := dkA se el bl ex be x) (b := rbZ bl ex be y) (A := 71373060) (B := 121) (by omega) (by omega)
  have hm6 := mul_in (a := dkA se el bl ex be y) (b := rbZ bl ex be x) (A := 71373060) (B := 121) (by omega) (by omega)
  unfold rbZ at hm5 hm6
  refine xl_if_lt (tgt := 52) hx hb dX6_isBetter_36 dX6_isBetter_37 (by decide) (by omega) (fun h_5 => ?_) (fun h_5 => ?_)
  · refine xi_const hx hb dX6_isBetter_52 ?_
    refine lv_goto (tgt := 57) hx hb dX6_isBetter_53 (by decide) ?_
    exact W.zret (v := iI (1)) hx hb hr (by decide +kernel) (fun t_ ht_ _ => ⟨congrArg (fun z => Outcome.returned (some (Value.int (iI z)))) (show (1 : Int) = b2 (btP se el bl ex be x y) from (b2_t (by unfold btP rbZ; omega)).symm), ht_⟩) (fun _ h9 => absurd h9 List.not_mem_nil) dX6_isBetter_57
  · refine lv_lload_n hx hb dX6_isBetter_40 rfl (lv_at hl 1 rfl) ?_
    refine lv_lload hx hb dX6_isBetter_41 (lv_at hl 0 rfl) ?_
    refine xl_if_ne (tgt := 56) hx hb dX6_isBetter_43 dX6_isBetter_44 (by decide) (by omega) (fun h_6 => ?_) (fun h_6 => ?_)
    · refine xi_const hx hb dX6_isBetter_56 ?_
      exact W.zret (v := iI (0)) hx hb hr (by decide +kernel) (fun t_ ht_ _ => ⟨congrArg (fun z => Outcome.returned (some (Value.int (iI z)))) (show (0 : Int) = b2 (btP se el bl ex be x y) from (b2_f (by unfold btP rbZ; omega)).symm), ht_⟩) (fun _ h9 => absurd h9 List.not_mem_nil) dX6_isBetter_57
    · refine lv_iload_n hx hb dX6_isBetter_47 rfl (lv_at hl 3 rfl) ?_
      refine lv_iload_n hx hb dX6_isBetter_48 rfl (lv_at hl 4 rfl) ?_
      refine xb_icmp_ge (tgt := 56) hx hb dX6_isBetter_49 (by decide) (by omega) (fun h_7 => ?_) (fun h_7 => ?_)
      · refine xi_const hx hb dX6_isBetter_56 ?_
        exact W.zret (v := iI (0)) hx hb hr (by decide +kernel) (fun t_ ht_ _ => ⟨congrArg (fun z => Outcome.returned (some (Value.int (iI z)))) (show (0 : Int) = b2 (btP se el bl ex be x y) from (b2_f (by unfold btP rbZ; omega)).symm), ht_⟩) (fun _ h9 => absurd h9 List.not_mem_nil) dX6_isBetter_57
      · refine xi_const hx hb dX6_isBetter_52 ?_
        refine lv_goto (tgt := 57) hx hb dX6_isBetter_53 (by decide) ?_
        exact W.zret (v := iI (1)) hx hb hr (by decide +kernel) (fun t_ ht_ _ => ⟨congrArg (fun z => Outcome.returned (some (Value.int (iI z)))) (show (1 : Int) = b2 (btP se el bl ex be x y) from (b2_t (by unfold btP rbZ; omega)).symm), ht_⟩) (fun _ h9 => absurd h9 List.not_mem_nil) dX6_isBetter_57
set_option maxHeartbeats 1000000 in
set_option maxRecDepth 100000 in
theorem c_X6_isSure (l : Launch) (D : va_G) (cyI cyJ cyO : ClassId) (qW : Nat) (qT : Nat) (qA : Nat) (qK : Nat) (qC : Nat) (qE : Nat) (qI : Nat) (qF : Nat) (qH : Nat) (qO : Nat) (fi : Int) (qCy : Nat) (qCl : Nat) (qCb : Nat) (ex : Int) (be : Int) (op : Int) (es : Int) (ge : Int) (rc : Int) (lr : Int) (lw : Int) (el : Int → Int) (bl : Int → Int) (x : Int) (y : Int) (h_ex : 0 ≤ ex ∧ ex ≤ 60) (h_be : 0 ≤ be ∧ be ≤ 60) (h_op : 0 ≤ op ∧ op ≤ 60) (h_el : ∀ j, 0 ≤ el j ∧ el j ≤ 999) (h_bl : ∀ j, 0 ≤ bl j ∧ bl j ≤ 999) (h_x : -2147483648 ≤ x ∧ x ≤ 2147483647) (h_y : 0 ≤ y ∧ y ≤ 100) : Met l yX6_isSure wsX6_isSure ({ frames := 2, cells := 0, slots := 0, locals := 44 }) (va_Pc [.ref qW, .int (iI (x)), .int (iI (y))] (xR D vwCl [(qW, .inr (6, [.ref qT, .ref qA, .ref qK, .ref qC, .ref qE, .ref qI, .ref qF, .ref qH, .ref qO, .int (iI (fi))])), (qC, .inr (0, [.ref qCy, .ref qCl, .ref qCb, .int (iI (ex)), .int (iI (be)), .int (iI (op)), .int (iI (es)), .int (iI (ge)), .int (iI (rc)), .int (iI (lr)), .int (iI (lw))])), (qCl, .inl (cyI, 60, .inl (xA (el)))), (qCb, .inl (cyI, 60, .inl (xA (bl))))] (xT cyI cyJ cyO))) (xq (some (.int (iI (b2 (suP el bl ex be op x y)))))) 0 0 (fun _ => False) := by
  refine Met.ofW (cc := cX6_isSure) (maxL := 4) (ret := (some .boolean)) (by decide) rfl ?_
  intro p e s m args below meth c s₁ B hml hv
  obtain ⟨rfl, hP, hK⟩ := hv
  have hx := B.exec
  have hb := B.bytes
  have hr := B.returns
  have hts := atoms_spec (ws := wsX6_isSure) B.pre
  have hown : s.vm.findClass RX6 = some m.cls := findClass_of_methodNamed B.named
  have hlocks := B.notSynchronized
  have hcX6 : ∀ w ∈ wsX60, w ∈ wsX6_isSure := fun _ h => List.mem_cons_of_mem _ (List.mem_append_left _ (List.mem_append_right _ h))
  have hP : va_P D vwCl [(qW, .inr (6, [.ref qT, .ref qA, .ref qK, .ref qC, .ref qE, .ref qI, .ref qF, .ref qH, .ref qO, .int (iI (fi))])), (qC, .inr (0, [.ref qCy, .ref qCl, .ref qCb, .int (iI (ex)), .int (iI (be)), .int (iI (op)), .int (iI (es)), .int (iI (ge)), .int (iI (rc)), .int (iI (lr)), .int (iI (lw))])), (qCl, .inl (cyI, 60, .inl (xA (el)))), (qCb, .inl (cyI, 60, .inl (xA (bl))))] s.heap := hP
  have hl := lv_entry ([.ref qW, .int (iI (x)), .int (iI (y))]) (n := 4) (Nat.le_of_ble_eq_true rfl)
  rw [lg_entry_eq]
  generalize (lg_sl ([.ref qW, .int (iI (x)), .int (iI (y))]) ++ List.replicate (4 - (lg_sl ([.ref qW, .int (iI (x)), .int (iI (y))])).length) Slot.unset).toArray = ls at hl ⊢
  have hl : lv_has ls 4 [(0, .ref qW), (1, .int (iI (x))), (2, .int (iI (y)))] := hl
  refine lv_aload_n hx hb dX6_isSure_0 rfl (lv_at hl 0 rfl) ?_
  refine va_get (D := D) (ci := 6) (C := RX6) (T := TX6) (N := 10) hx hb hts hcX6 hown hK hP 0 rfl rfl 3 (by decide) (hts (.fieldLink RX6 33 "WallMarks" "counted" "LWallMarks$Counted;") (List.mem_of_getElem? (i := 1) (by decide +kernel))) (fun _ h9 => h9) rfl dX6_isSure_1 ?_
  refine lv_iload_n hx hb dX6_isSure_4 rfl (lv_at hl 1 rfl) ?_
  have hf_1 := ovZ_in el ex x (by omega)
  have hPc := hP.sub (ws' := [(qC, .inr (0, [.ref qCy, .ref qCl, .ref qCb, .int (iI (ex)), .int (iI (be)), .int (iI (op)), .int (iI (es)), .int (iI (ge)), .int (iI (rc)), .int (iI (lr)), .int (iI (lw))])), (qCl, .inl (cyI, 60, .inl (xA (el))))]) [1, 2] rfl
  refine xc_i (va_runV (As := [.int (iI (x))]) (rest := []) ⟨hx, hb, hml, hown, hts⟩ (c_X0_overs l D cyI cyJ cyO qC qCy qCl qCb ex be op es ge rc lr lw el x (by first | exact h_ex | assumption | omega) (by first | exact h_be | assumption | omega) (by first | exact h_op | assumption | omega) (by first | exact h_el | assumption | omega) (by first | exact h_x | assumption | omega)) (cwV 1 hts gX6_isSure_X0_overs rfl rfl rfl (by decide +kernel) ⟨Nat.le_of_ble_eq_true rfl, Nat.le_of_ble_eq_true rfl⟩) (xpV hPc hK (ci := 0) (q0 := 0) (q := (RX0, TX0, 11)) rfl rfl) rfl rfl hl.1 rfl (lv_room (Nat.le_of_ble_eq_true rfl)) dX6_isSure_5 ⟨Nat.le_of_ble_eq_true rfl, Nat.le_of_ble_eq_true rfl⟩) ?_
  refine lv_aload_n hx hb dX6_isSure_8 rfl (lv_at hl 0 rfl) ?_
  refine va_get (D := D) (ci := 6) (C := RX6) (T := TX6) (N := 10) hx hb hts hcX6 hown hK hP 0 rfl rfl 3 (by decide) (hts (.fieldLink RX6 33 "WallMarks" "counted" "LWallMarks$Counted;") (List.mem_of_getElem? (i := 1) (by decide +kernel))) (fun _ h9 => h9) rfl dX6_isSure_9 ?_
  refine lv_iload_n hx hb dX6_isSure_12 rfl (lv_at hl 1 rfl) ?_
  have hf_2 := buZ_in bl be x (by omega)
  have hPc := hP.sub (ws' := [(qC, .inr (0, [.ref qCy, .ref qCl, .ref qCb, .int (iI (ex)), .int (iI (be)), .int (iI (op)), .int (iI (es)), .int (iI (ge)), .int (iI (rc)), .int (iI (lr)), .int (iI (lw))])), (qCb, .inl (cyI, 60, .inl (xA (bl))))]) [1, 3] rfl
  refine xc_i (va_runV (As := [.int (iI (x))]) (rest := [.int (iI (ovZ el ex x))]) ⟨hx, hb, hml, hown, hts⟩ (c_X0_darks l D cyI cyJ cyO qC qCy qCl qCb ex be op es ge rc lr lw bl x (by first | exact h_ex | assumption | omega) (by first | exact h_be | assumption | omega) (by first | exact h_op | assumption | omega) (by first | exact h_bl | assumption | omega) (by first | exact h_x | assumption | omega)) (cwV 1 hts gX6_isSure_X0_darks rfl rfl rfl (by decide +kernel) ⟨Nat.le_of_ble_eq_true rfl, Nat.le_of_ble_eq_true rfl⟩) (xpV hPc hK (ci := 0) (q0 := 0) (q := (RX0, TX0, 11)) rfl rfl) rfl rfl hl.1 rfl (lv_room (Nat.le_of_ble_eq_true rfl)) dX6_isSure_13 ⟨Nat.le_of_ble_eq_true rfl, Nat.le_of_ble_eq_true rfl⟩) ?_
  refine xi_add hx hb dX6_isSure_16 ?_
  refine lv_istore_n (lv' := [(3, .int (iI ((ovZ el ex x) + (op + be - buZ bl be x)))), (0, .ref qW), (1, .int (iI (x))), (2, .int (iI (y)))]) hx hb dX6_isSure_17 rfl hl (by decide) rfl (fun ls hl => ?_)
  refine xi_bipush hx hb dX6_isSure_18 (by decide +kernel) ?_
  refine lv_iload_n hx hb dX6_isSure_20 rfl (lv_at hl 0 rfl) ?_
  refine xi_mul hx hb dX6_isSure_21 ?_
  refine lv_iload_n hx hb dX6_isSure_22 rfl (lv_at hl 3 rfl) ?_
  refine lv_aload_n hx hb dX6_isSure_23 rfl (lv_at hl 1 rfl) ?_
  refine va_get (D := D) (ci := 6) (C := RX6) (T := TX6) (N := 10) hx hb hts hcX6 hown hK hP 0 rfl rfl 3 (by decide) (hts (.fieldLink RX6 33 "WallMarks" "counted" "LWallMarks$Counted;") (List.mem_of_getElem? (i := 1) (by decide +kernel))) (fun _ h9 => h9) rfl dX6_isSure_24 ?_
  have hPc := hP.sub (ws' := [(qC, .inr (0, [.ref qCy, .ref qCl, .ref qCb, .int (iI (ex)), .int (iI (be)), .int (iI (op)), .int (iI (es)), .int (iI (ge)), .int (iI (rc)), .int (iI (lr)), .int (iI (lw))]))]) [1] rfl
  refine xc_i (va_runV (As := []) (rest := [.int (iI (y)), .int (iI (100 * ((ovZ el ex x) + (op + be - buZ bl be x))))]) ⟨hx, hb, hml, hown, hts⟩ (c_X0_all l D cyI cyJ cyO qC qCy qCl qCb ex be op es ge rc lr lw (by first | exact h_ex | assumption | omega) (by first | exact h_be | assumption | omega) (by first | exact h_op | assumption | omega)) (cwV 0 hts gX6_isSure_X0_all rfl rfl rfl (by decide +kernel) ⟨Nat.le_of_ble_eq_true rfl, Nat.le_of_ble_eq_true rfl⟩) (xpV hPc hK (ci := 0) (q0 := 0) (q := (RX0, TX0, 11)) rfl rfl) rfl rfl hl.1 rfl (lv_room (Nat.le_of_ble_eq_true rfl)) dX6_isSure_27 ⟨Nat.le_of_ble_eq_true rfl, Nat.le_of_ble_eq_true rfl⟩) ?_
  refine xi_const hx hb dX6_isSure_30 ?_
  refine xi_add hx hb dX6_isSure_31 ?_
  refine xi_mul hx hb dX6_isSure_32 ?_
  have hm5 := mul_in (a := y) (b := ex + be + op + 1) (A := 100) (B := 181) (by omega) (by omega)
  refine xb_icmp_gt (tgt := 40) hx hb dX6_isSure_33 (by decide) (by omega) (fun h_3 => ?_) (fun h_3 => ?_)
  · refine xi_const hx hb dX6_isSure_40 ?_
    exact W.zret (v := iI (0)) hx hb hr (by decide +kernel) (fun t_ ht_ _ => ⟨congrArg (fun z => Outcome.returned (some (Value.int (iI z)))) (show (0 : Int) = b2 (suP el bl ex be op x y) from (b2_f (by unfold suP dkZ; omega)).symm), ht_⟩) (fun _ h9 => absurd h9 List.not_mem_nil) dX6_isSure_41
  · refine xi_const hx hb dX6_isSure_36 ?_
    refine lv_goto (tgt := 41) hx hb dX6_isSure_37 (by decide) ?_
    exact W.zret (v := iI (1)) hx hb hr (by decide +kernel) (fun t_ ht_ _ => ⟨congrArg (fun z => Outcome.returned (some (Value.int (iI z)))) (show (1 : Int) = b2 (suP el bl ex be op x y) from (b2_t (by unfold suP dkZ; omega)).symm), ht_⟩) (fun _ h9 => absurd h9 List.not_mem_nil) dX6_isSure_41
set_option maxHeartbeats 1000000 in
set_option maxRecDepth 100000 in
theorem c_X6_best (l : Launch) (D : va_G) (cyI cyJ cyO : ClassId) (qW : Nat) (qT : Nat) (qA : Nat) (qK : Nat) (qC : Nat) (qE : Nat) (qI : Nat) (qF : Nat) (qH : Nat) (qO : Nat) (fi : Int) (se : Int → Int) (qCy : Nat) (qCl : Nat) (qCb : Nat) (ex : Int) (be : Int) (op : Int) (es : Int) (ge : Int) (rc : Int) (lr : Int) (lw : Int) (el : Int → Int) (bl : Int → Int) (h_s3 : 0 ≤ se 3 ∧ se 3 ≤ 99) (h_s4 : 0 ≤ se 4 ∧ se 4 ≤ 9999) (h_s5 : 0 ≤ se 5 ∧ se 5 ≤ 99) (h_ex : 0 ≤ ex ∧ ex ≤ 60) (h_be : 0 ≤ be ∧ be ≤ 60) (h_op : 0 ≤ op ∧ op ≤ 60) (h_el : ∀ j, 0 ≤ el j ∧ el j ≤ 999) (h_bl : ∀ j, 0 ≤ bl j ∧ bl j ≤ 999) : Met l yX6_best wsX6_best ({ frames := 4, cells := 0, slots := 0, locals := 93 }) (va_Pc [.ref qW] (xR D vwCl [(qW, .inr (6, [.ref qT, .ref qA, .ref qK, .ref qC, .ref qE, .ref qI, .ref qF, .ref qH, .ref qO, .int (iI (fi))])), (qE, .inl (cyI, 6, .inl (xA (se)))), (qC, .inr (0, [.ref qCy, .ref qCl, .ref qCb, .int (iI (ex)), .int (iI (be)), .int (iI (op)), .int (iI (es)), .int (iI (ge)), .int (iI (rc)), .int (iI (lr)), .int (iI (lw))])), (qCl, .inl (cyI, 60, .inl (xA (el)))), (qCb, .inl (cyI, 60, .inl (xA (bl))))] (xT cyI cyJ cyO))) (xq (some (.int (iI (foldZ (bestS se el bl ex be) (ex + be) 0))))) 0 0 (fun _ => False) := by
  refine Met.ofW (cc := cX6_best) (maxL := 4) (ret := (some .int)) (by decide) rfl ?_
  intro p e s m args below meth c s₁ B hml hv
  obtain ⟨rfl, hP, hK⟩ := hv
  have hx := B.exec
  have hb := B.bytes
  have hr := B.returns
  have hts := atoms_spec (ws := wsX6_best) B.pre
  have hown : s.vm.findClass RX6 = some m.cls := findClass_of_methodNamed B.named
  have hlocks := B.notSynchronized
  have hcX6 : ∀ w ∈ wsX60, w ∈ wsX6_best := fun _ h => List.mem_cons_of_mem _ (List.mem_append_left _ (List.mem_append_right _ h))
  have hP : va_P D vwCl [(qW, .inr (6, [.ref qT, .ref qA, .ref qK, .ref qC, .ref qE, .ref qI, .ref qF, .ref qH, .ref qO, .int (iI (fi))])), (qE, .inl (cyI, 6, .inl (xA (se)))), (qC, .inr (0, [.ref qCy, .ref qCl, .ref qCb, .int (iI (ex)), .int (iI (be)), .int (iI (op)), .int (iI (es)), .int (iI (ge)), .int (iI (rc)), .int (iI (lr)), .int (iI (lw))])), (qCl, .inl (cyI, 60, .inl (xA (el)))), (qCb, .inl (cyI, 60, .inl (xA (bl))))] s.heap := hP
  have hl := lv_entry ([.ref qW]) (n := 4) (Nat.le_of_ble_eq_true rfl)
  rw [lg_entry_eq]
  generalize (lg_sl ([.ref qW]) ++ List.replicate (4 - (lg_sl ([.ref qW])).length) Slot.unset).toArray = ls at hl ⊢
  have hl : lv_has ls 4 [(0, .ref qW)] := hl
  have cut_4 : ∀ (N_ : Nat) (i : Int) (a : Int) (hi : 0 ≤ i ∧ i ≤ ex + be) (ha : a = foldZ (bestS se el bl ex be) i 0) (hb9 : 0 ≤ a ∧ a ≤ 999) (hN_ : (ex + be - i).toNat < N_) (ls : Array Slot) (hl : lv_has ls 4 [(0, .ref qW), (1, .int (iI (a))), (2, .int (iI (i)))]), W p l e (headSpec wsX6_best ({ frames := 4, cells := 0, slots := 0, locals := 93 })).room s m ([.ref qW] : List Value).toArray below meth c s.heap [] 0 0 (MQ below (xq (some (.int (iI (foldZ (bestS se el bl ex be) (ex + be) 0))))) ([.ref qW] : List Value).toArray s 0 0 (fun _ => False)) (F0 m 4 ls []) := by
    intro N_
    induction N_ with
    | zero => intro i a hi ha hb9 hN_ ls hl; exact absurd hN_ (Nat.not_lt_zero _)
    | succ N_ ih_4 =>
      intro i a hi ha hb9 hN_ ls hl
      refine lv_iload_n hx hb dX6_best_4 rfl (lv_at hl 2 rfl) ?_
      refine lv_aload_n hx hb dX6_best_5 rfl (lv_at hl 0 rfl) ?_
      refine va_get (D := D) (ci := 6) (C := RX6) (T := TX6) (N := 10) hx hb hts hcX6 hown hK hP 0 rfl rfl 3 (by decide) (hts (.fieldLink RX6 33 "WallMarks" "counted" "LWallMarks$Counted;") (List.mem_of_getElem? (i := 1) (by decide +kernel))) (fun _ h9 => h9) rfl dX6_best_6 ?_
      have hPc := hP.sub (ws' := [(qC, .inr (0, [.ref qCy, .ref qCl, .ref qCb, .int (iI (ex)), .int (iI (be)), .int (iI (op)), .int (iI (es)), .int (iI (ge)), .int (iI (rc)), .int (iI (lr)), .int (iI (lw))]))]) [2] rfl
      refine xc_i (va_runV (As := []) (rest := [.int (iI (i))]) ⟨hx, hb, hml, hown, hts⟩ (c_X0_steps l D cyI cyJ cyO qC qCy qCl qCb ex be op es ge rc lr lw (by first | exact h_ex | assumption | omega) (by first | exact h_be | assumption | omega) (by first | exact h_op | assumption | omega)) (cwV 0 hts gX6_best_X0_steps rfl rfl rfl (by decide +kernel) ⟨Nat.le_of_ble_eq_true rfl, Nat.le_of_ble_eq_true rfl⟩) (xpV hPc hK (ci := 0) (q0 := 0) (q := (RX0, TX0, 11)) rfl rfl) rfl rfl hl.1 rfl (lv_room (Nat.le_of_ble_eq_true rfl)) dX6_best_9 ⟨Nat.le_of_ble_eq_true rfl, Nat.le_of_ble_eq_true rfl⟩) ?_
      refine xb_icmp_ge (tgt := 48) hx hb dX6_best_12 (by decide) (by omega) (fun h_1 => ?_) (fun h_1 => ?_)
      · refine lv_iload_n hx hb dX6_best_48 rfl (lv_at hl 1 rfl) ?_
        exact W.iret (v := iI (a)) hx hb hr (fun t_ ht_ _ => ⟨congrArg (fun z => Outcome.returned (some (Value.int (iI z)))) (show (a) = (foldZ (bestS se el bl ex be) (ex + be) 0) from by rw [ha, show i = ex + be from by omega]), ht_⟩) (fun _ h9 => absurd h9 List.not_mem_nil) dX6_best_49
      · refine lv_aload_n hx hb dX6_best_15 rfl (lv_at hl 0 rfl) ?_
        refine va_get (D := D) (ci := 6) (C := RX6) (T := TX6) (N := 10) hx hb hts hcX6 hown hK hP 0 rfl rfl 3 (by decide) (hts (.fieldLink RX6 33 "WallMarks" "counted" "LWallMarks$Counted;") (List.mem_of_getElem? (i := 1) (by decide +kernel))) (fun _ h9 => h9) rfl dX6_best_16 ?_
        refine lv_iload_n hx hb dX6_best_19 rfl (lv_at hl 2 rfl) ?_
        have hPc := hP.sub (ws' := [(qC, .inr (0, [.ref qCy, .ref qCl, .ref qCb, .int (iI (ex)), .int (iI (be)), .int (iI (op)), .int (iI (es)), .int (iI (ge)), .int (iI (rc)), .int (iI (lr)), .int (iI (lw))])), (qCl, .inl (cyI, 60, .inl (xA (el)))), (qCb, .inl (cyI, 60, .inl (xA (bl))))]) [2, 3, 4] rfl
        refine xc_i (va_runV (As := [.int (iI (i))]) (rest := []) ⟨hx, hb, hml, hown, hts⟩ (c_X0_stepAt l D cyI cyJ cyO qC qCy qCl qCb ex be op es ge rc lr lw el bl i (by first | exact h_ex | assumption | omega) (by first | exact h_be | assumption | omega) (by first | exact h_op | assumption | omega) (by first | exact h_el | assumption | omega) (by first | exact h_bl | assumption | omega) (by first | exact h_i | assumption | omega)) (cwV 1 hts gX6_best_X0_stepAt rfl rfl rfl (by decide +kernel) ⟨Nat.le_of_ble_eq_true rfl, Nat.le_of_ble_eq_true rfl⟩) (xpV hPc hK (ci := 0) (q0 := 0) (q := (RX0, TX0, 11)) rfl rfl) rfl rfl hl.1 rfl (lv_room (Nat.le_of_ble_eq_true rfl)) dX6_best_20 ⟨Nat.le_of_ble_eq_true rfl, Nat.le_of_ble_eq_true rfl⟩) ?_
        refine lv_istore_n (lv' := [(3, .int (iI (stepf ex be el bl i))), (0, .ref qW), (1, .int (iI (a))), (2, .int (iI (i)))]) hx hb dX6_best_23 rfl hl (by decide) rfl (fun ls hl => ?_)
        have hst := stepf_in (ex := ex) (be := be) (i := i) h_el h_bl
        refine lv_iload_n hx hb dX6_best_24 rfl (lv_at hl 0 rfl) ?_
        refine xi_sipush hx hb dX6_best_25 (by decide +kernel) ?_
        refine xb_icmp_gt (tgt := 42) hx hb dX6_best_28 (by decide) (by omega) (fun h_2 => ?_) (fun h_2 => ?_)
        · refine xi_inc (k := 3) (lv' := [(2, .int (iI (i + 1))), (3, .int (iI (stepf ex be el bl i))), (0, .ref qW), (1, .int (iI (a)))]) hx hb dX6_best_42 hl rfl (by decide) rfl (fun ls hl => ?_)
          refine lv_goto (tgt := 4) hx hb dX6_best_45 (by decide) ?_
          exact ih_4 (i + 1) (a) (by first | assumption | omega | (constructor <;> omega)) (by first | rfl | (rw [foldZ_s _ (by omega), ← ha]; first | (symm; exact bestS_t (by omega) (by assumption)) | (symm; exact bestS_f (Or.inr (by assumption))) | (symm; exact bestS_f (Or.inl (by omega))))) (by first | assumption | omega | (constructor <;> omega)) (by omega) ls (lv_sub hl [2, 3, 0] rfl)
        · refine lv_aload_n hx hb dX6_best_31 rfl (lv_at hl 1 rfl) ?_
          refine lv_iload_n hx hb dX6_best_32 rfl (lv_at hl 0 rfl) ?_
          refine lv_iload_n hx hb dX6_best_33 rfl (lv_at hl 2 rfl) ?_
          have hPc := hP.sub (ws' := [(qW, .inr (6, [.ref qT, .ref qA, .ref qK, .ref qC, .ref qE, .ref qI, .ref qF, .ref qH, .ref qO, .int (iI (fi))])), (qE, .inl (cyI, 6, .inl (xA (se)))), (qC, .inr (0, [.ref qCy, .ref qCl, .ref qCb, .int (iI (ex)), .int (iI (be)), .int (iI (op)), .int (iI (es)), .int (iI (ge)), .int (iI (rc)), .int (iI (lr)), .int (iI (lw))])), (qCl, .inl (cyI, 60, .inl (xA (el)))), (qCb, .inl (cyI, 60, .inl (xA (bl))))]) [0, 1, 2, 3, 4] rfl
          refine xc_i (va_runV (As := [.int (iI (stepf ex be el bl i)), .int (iI (a))]) (rest := []) ⟨hx, hb, hml, hown, hts⟩ (c_X6_isBetter l D cyI cyJ cyO qW qT qA qK qC qE qI qF qH qO fi se qCy qCl qCb ex be op es ge rc lr lw el bl (stepf ex be el bl i) a (by first | exact h_s3 | assumption | omega) (by first | exact h_s4 | assumption | omega) (by first | exact h_s5 | assumption | omega) (by first | exact h_ex | assumption | omega) (by first | exact h_be | assumption | omega) (by first | exact h_op | assumption | omega) (by first | exact h_el | assumption | omega) (by first | exact h_bl | assumption | omega) (by first | exact h_x | assumption | omega) (by first | exact h_y | assumption | omega)) (cwV 2 hts gX6_best_X6_isBetter rfl rfl rfl (by decide +kernel) ⟨Nat.le_of_ble_eq_true rfl, Nat.le_of_ble_eq_true rfl⟩) (xpV hPc hK (ci := 6) (q0 := 0) (q := (RX6, TX6, 10)) rfl rfl) rfl rfl hl.1 rfl (lv_room (Nat.le_of_ble_eq_true rfl)) dX6_best_34 ⟨Nat.le_of_ble_eq_true rfl, Nat.le_of_ble_eq_true rfl⟩) ?_
          refine xb_if_eqB (tgt := 42) hx hb dX6_best_37 (by decide) (fun h_3 => ?_) (fun h_3 => ?_)
          · refine xi_inc (k := 3) (lv' := [(2, .int (iI (i + 1))), (3, .int (iI (stepf ex be el bl i))), (0, .ref qW), (1, .int (iI (a)))]) hx hb dX6_best_42 hl rfl (by decide) rfl (fun ls hl => ?_)
            refine lv_goto (tgt := 4) hx hb dX6_best_45 (by decide) ?_
            exact ih_4 (i + 1) (a) (by first | assumption | omega | (constructor <;> omega)) (by first | rfl | (rw [foldZ_s _ (by omega), ← ha]; first | (symm; exact bestS_t (by omega) (by assumption)) | (symm; exact bestS_f (Or.inr (by assumption))) | (symm; exact bestS_f (Or.inl (by omega))))) (by first | assumption | omega | (constructor <;> omega)) (by omega) ls (lv_sub hl [2, 3, 0] rfl)
          · refine lv_iload_n hx hb dX6_best_40 rfl (lv_at hl 0 rfl) ?_
            refine lv_istore_n (lv' := [(1, .int (iI (stepf ex be el bl i))), (3, .int (iI (stepf ex be el bl i))), (0, .ref qW), (2, .int (iI (i)))]) hx hb dX6_best_41 rfl hl (by decide) rfl (fun ls hl => ?_)
            refine xi_inc (k := 3) (lv' := [(2, .int (iI (i + 1))), (1, .int (iI (stepf ex be el bl i))), (3, .int (iI (stepf ex be el bl i))), (0, .ref qW)]) hx hb dX6_best_42 hl rfl (by decide) rfl (fun ls hl => ?_)
            refine lv_goto (tgt := 4) hx hb dX6_best_45 (by decide) ?_
            exact ih_4 (i + 1) (stepf ex be el bl i) (by first | assumption | omega | (constructor <;> omega)) (by first | rfl | (rw [foldZ_s _ (by omega), ← ha]; first | (symm; exact bestS_t (by omega) (by assumption)) | (symm; exact bestS_f (Or.inr (by assumption))) | (symm; exact bestS_f (Or.inl (by omega))))) (by first | assumption | omega | (constructor <;> omega)) (by omega) ls (lv_sub hl [3, 1, 0] rfl)
  refine xi_const hx hb dX6_best_0 ?_
  refine lv_istore_n (lv' := [(1, .int (iI (0))), (0, .ref qW)]) hx hb dX6_best_1 rfl hl (by decide) rfl (fun ls hl => ?_)
  refine xi_const hx hb dX6_best_2 ?_
  refine lv_istore_n (lv' := [(2, .int (iI (0))), (1, .int (iI (0))), (0, .ref qW)]) hx hb dX6_best_3 rfl hl (by decide) rfl (fun ls hl => ?_)
  exact cut_4 ((ex + be - 0 : Int).toNat + 1) (0) (0) (by first | assumption | omega | (constructor <;> omega)) (by first | rfl | (rw [foldZ_s _ (by omega), ← ha]; first | (symm; exact bestS_t (by omega) (by assumption)) | (symm; exact bestS_f (Or.inr (by assumption))) | (symm; exact bestS_f (Or.inl (by omega))))) (by first | assumption | omega | (constructor <;> omega)) (by exact Nat.lt_succ_self _) ls (lv_sub hl [2, 1, 0] rfl)
set_option maxHeartbeats 1000000 in
set_option maxRecDepth 100000 in
theorem c_X6_sure (l : Launch) (D : va_G) (cyI cyJ cyO : ClassId) (qW : Nat) (qT : Nat) (qA : Nat) (qK : Nat) (qC : Nat) (qE : Nat) (qI : Nat) (qF : Nat) (qH : Nat) (qO : Nat) (fi : Int) (qCy : Nat) (qCl : Nat) (qCb : Nat) (ex : Int) (be : Int) (op : Int) (es : Int) (ge : Int) (rc : Int) (lr : Int) (lw : Int) (el : Int → Int) (bl : Int → Int) (y : Int) (h_ex : 0 ≤ ex ∧ ex ≤ 60) (h_be : 0 ≤ be ∧ be ≤ 60) (h_op : 0 ≤ op ∧ op ≤ 60) (h_el : ∀ j, 0 ≤ el j ∧ el j ≤ 999) (h_bl : ∀ j, 0 ≤ bl j ∧ bl j ≤ 999) (h_y : -2147483648 ≤ y ∧ y ≤ 2147483647) : Met l yX6_sure wsX6_sure ({ frames := 3, cells := 0, slots := 0, locals := 67 }) (va_Pc [.ref qW, .int (iI (y))] (xR D vwCl [(qW, .inr (6, [.ref qT, .ref qA, .ref qK, .ref qC, .ref qE, .ref qI, .ref qF, .ref qH, .ref qO, .int (iI (fi))])), (qC, .inr (0, [.ref qCy, .ref qCl, .ref qCb, .int (iI (ex)), .int (iI (be)), .int (iI (op)), .int (iI (es)), .int (iI (ge)), .int (iI (rc)), .int (iI (lr)), .int (iI (lw))])), (qCl, .inl (cyI, 60, .inl (xA (el)))), (qCb, .inl (cyI, 60, .inl (xA (bl))))] (xT cyI cyJ cyO))) (xq (some (.int (iI (if 0 ≤ y ∧ y ≤ 100 then foldZ (suS el bl ex be op y) (ex + be) (suB el bl ex be op y) else -2))))) 0 0 (fun _ => False) := by
  refine Met.ofW (cc := cX6_sure) (maxL := 5) (ret := (some .int)) (by decide) rfl ?_
  intro p e s m args below meth c s₁ B hml hv
  obtain ⟨rfl, hP, hK⟩ := hv
  have hx := B.exec
  have hb := B.bytes
  have hr := B.returns
  have hts := atoms_spec (ws := wsX6_sure) B.pre
  have hown : s.vm.findClass RX6 = some m.cls := findClass_of_methodNamed B.named
  have hlocks := B.notSynchronized
  have hcX6 : ∀ w ∈ wsX60, w ∈ wsX6_sure := fun _ h => List.mem_cons_of_mem _ (List.mem_append_left _ (List.mem_append_right _ h))
  have hP : va_P D vwCl [(qW, .inr (6, [.ref qT, .ref qA, .ref qK, .ref qC, .ref qE, .ref qI, .ref qF, .ref qH, .ref qO, .int (iI (fi))])), (qC, .inr (0, [.ref qCy, .ref qCl, .ref qCb, .int (iI (ex)), .int (iI (be)), .int (iI (op)), .int (iI (es)), .int (iI (ge)), .int (iI (rc)), .int (iI (lr)), .int (iI (lw))])), (qCl, .inl (cyI, 60, .inl (xA (el)))), (qCb, .inl (cyI, 60, .inl (xA (bl))))] s.heap := hP
  have hl := lv_entry ([.ref qW, .int (iI (y))]) (n := 5) (Nat.le_of_ble_eq_true rfl)
  rw [lg_entry_eq]
  generalize (lg_sl ([.ref qW, .int (iI (y))]) ++ List.replicate (5 - (lg_sl ([.ref qW, .int (iI (y))])).length) Slot.unset).toArray = ls at hl ⊢
  have hl : lv_has ls 5 [(0, .ref qW), (1, .int (iI (y)))] := hl
  have cut_27 : ∀ (N_ : Nat) (i : Int) (a : Int) (hi : 0 ≤ i ∧ i ≤ ex + be) (hy : 0 ≤ y ∧ y ≤ 100) (ha : a = foldZ (suS el bl ex be op y) i (suB el bl ex be op y)) (hb9 : -1 ≤ a ∧ a ≤ 999) (hN_ : (ex + be - i).toNat < N_) (ls : Array Slot) (hl : lv_has ls 5 [(0, .ref qW), (1, .int (iI (y))), (2, .int (iI (a))), (3, .int (iI (i)))]), W p l e (headSpec wsX6_sure ({ frames := 3, cells := 0, slots := 0, locals := 67 })).room s m ([.ref qW, .int (iI (y))] : List Value).toArray below meth c s.heap [] 0 0 (MQ below (xq (some (.int (iI (if 0 ≤ y ∧ y ≤ 100 then foldZ (suS el bl ex be op y) (ex + be) (suB el bl ex be op y) else -2))))) ([.ref qW, .int (iI (y))] : List Value).toArray s 0 0 (fun _ => False)) (F0 m 27 ls []) := by
    intro N_
    induction N_ with
    | zero => intro i a hi hy ha hb9 hN_ ls hl; exact absurd hN_ (Nat.not_lt_zero _)
    | succ N_ ih_27 =>
      intro i a hi hy ha hb9 hN_ ls hl
      refine lv_iload_n hx hb dX6_sure_27 rfl (lv_at hl 3 rfl) ?_
      refine lv_aload_n hx hb dX6_sure_28 rfl (lv_at hl 0 rfl) ?_
      refine va_get (D := D) (ci := 6) (C := RX6) (T := TX6) (N := 10) hx hb hts hcX6 hown hK hP 0 rfl rfl 3 (by decide) (hts (.fieldLink RX6 33 "WallMarks" "counted" "LWallMarks$Counted;") (List.mem_of_getElem? (i := 1) (by decide +kernel))) (fun _ h9 => h9) rfl dX6_sure_29 ?_
      have hPc := hP.sub (ws' := [(qC, .inr (0, [.ref qCy, .ref qCl, .ref qCb, .int (iI (ex)), .int (iI (be)), .int (iI (op)), .int (iI (es)), .int (iI (ge)), .int (iI (rc)), .int (iI (lr)), .int (iI (lw))]))]) [1] rfl
      refine xc_i (va_runV (As := []) (rest := [.int (iI (i))]) ⟨hx, hb, hml, hown, hts⟩ (c_X0_steps l D cyI cyJ cyO qC qCy qCl qCb ex be op es ge rc lr lw (by first | exact h_ex | assumption | omega) (by first | exact h_be | assumption | omega) (by first | exact h_op | assumption | omega)) (cwV 0 hts gX6_sure_X0_steps rfl rfl rfl (by decide +kernel) ⟨Nat.le_of_ble_eq_true rfl, Nat.le_of_ble_eq_true rfl⟩) (xpV hPc hK (ci := 0) (q0 := 0) (q := (RX0, TX0, 11)) rfl rfl) rfl rfl hl.1 rfl (lv_room (Nat.le_of_ble_eq_true rfl)) dX6_sure_32 ⟨Nat.le_of_ble_eq_true rfl, Nat.le_of_ble_eq_true rfl⟩) ?_
      refine xb_icmp_ge (tgt := 86) hx hb dX6_sure_35 (by decide) (by omega) (fun h_1 => ?_) (fun h_1 => ?_)
      · refine lv_iload_n hx hb dX6_sure_86 rfl (lv_at hl 2 rfl) ?_
        exact W.iret (v := iI (a)) hx hb hr (fun t_ ht_ _ => ⟨congrArg (fun z => Outcome.returned (some (Value.int (iI z)))) (show (a) = (if 0 ≤ y ∧ y ≤ 100 then foldZ (suS el bl ex be op y) (ex + be) (suB el bl ex be op y) else -2) from by first | rw [if_neg (by omega)] | (rw [if_pos (by omega), ha, show i = ex + be from by omega])), ht_⟩) (fun _ h9 => absurd h9 List.not_mem_nil) dX6_sure_87
      · refine lv_aload_n hx hb dX6_sure_38 rfl (lv_at hl 0 rfl) ?_
        refine va_get (D := D) (ci := 6) (C := RX6) (T := TX6) (N := 10) hx hb hts hcX6 hown hK hP 0 rfl rfl 3 (by decide) (hts (.fieldLink RX6 33 "WallMarks" "counted" "LWallMarks$Counted;") (List.mem_of_getElem? (i := 1) (by decide +kernel))) (fun _ h9 => h9) rfl dX6_sure_39 ?_
        refine lv_iload_n hx hb dX6_sure_42 rfl (lv_at hl 3 rfl) ?_
        have hPc := hP.sub (ws' := [(qC, .inr (0, [.ref qCy, .ref qCl, .ref qCb, .int (iI (ex)), .int (iI (be)), .int (iI (op)), .int (iI (es)), .int (iI (ge)), .int (iI (rc)), .int (iI (lr)), .int (iI (lw))])), (qCl, .inl (cyI, 60, .inl (xA (el)))), (qCb, .inl (cyI, 60, .inl (xA (bl))))]) [1, 2, 3] rfl
        refine xc_i (va_runV (As := [.int (iI (i))]) (rest := []) ⟨hx, hb, hml, hown, hts⟩ (c_X0_stepAt l D cyI cyJ cyO qC qCy qCl qCb ex be op es ge rc lr lw el bl i (by first | exact h_ex | assumption | omega) (by first | exact h_be | assumption | omega) (by first | exact h_op | assumption | omega) (by first | exact h_el | assumption | omega) (by first | exact h_bl | assumption | omega) (by first | exact h_i | assumption | omega)) (cwV 1 hts gX6_sure_X0_stepAt rfl rfl rfl (by decide +kernel) ⟨Nat.le_of_ble_eq_true rfl, Nat.le_of_ble_eq_true rfl⟩) (xpV hPc hK (ci := 0) (q0 := 0) (q := (RX0, TX0, 11)) rfl rfl) rfl rfl hl.1 rfl (lv_room (Nat.le_of_ble_eq_true rfl)) dX6_sure_43 ⟨Nat.le_of_ble_eq_true rfl, Nat.le_of_ble_eq_true rfl⟩) ?_
        refine lv_istore (lv' := [(4, .int (iI (stepf ex be el bl i))), (0, .ref qW), (1, .int (iI (y))), (2, .int (iI (a))), (3, .int (iI (i)))]) hx hb dX6_sure_46 hl (by decide) rfl (fun ls hl => ?_)
        have hst := stepf_in (ex := ex) (be := be) (i := i) h_el h_bl
        refine lv_iload hx hb dX6_sure_48 (lv_at hl 0 rfl) ?_
        refine xi_sipush hx hb dX6_sure_50 (by decide +kernel) ?_
        refine xb_icmp_gt (tgt := 80) hx hb dX6_sure_53 (by decide) (by omega) (fun h_2 => ?_) (fun h_2 => ?_)
        · refine xi_inc (k := 4) (lv' := [(3, .int (iI (i + 1))), (4, .int (iI (stepf ex be el bl i))), (0, .ref qW), (1, .int (iI (y))), (2, .int (iI (a)))]) hx hb dX6_sure_80 hl rfl (by decide) rfl (fun ls hl => ?_)
          refine lv_goto (tgt := 27) hx hb dX6_sure_83 (by decide) ?_
          exact ih_27 (i + 1) (a) (by first | assumption | omega | (constructor <;> omega)) (by first | assumption | omega | (constructor <;> omega)) (by first | (rw [foldZ_0]; first | exact (suB_t (by assumption)).symm | exact (suB_f (by assumption)).symm) | (rw [foldZ_s _ (by omega), ← ha]; first | (symm; exact suS_t (by omega) (by omega) (by assumption)) | (symm; exact suS_f (Or.inr (by assumption))) | (symm; exact suS_f (Or.inl (by omega))))) (by first | assumption | omega | (constructor <;> omega)) (by omega) ls (lv_sub hl [2, 3, 4, 0] rfl)
        · refine lv_iload_n hx hb dX6_sure_56 rfl (lv_at hl 3 rfl) ?_
          refine xi_const hx hb dX6_sure_57 ?_
          refine xb_icmp_eq (tgt := 67) hx hb dX6_sure_58 (by decide) (by omega) (fun h_3 => ?_) (fun h_3 => ?_)
          · refine lv_aload_n hx hb dX6_sure_67 rfl (lv_at hl 1 rfl) ?_
            refine lv_iload hx hb dX6_sure_68 (lv_at hl 0 rfl) ?_
            refine lv_iload_n hx hb dX6_sure_70 rfl (lv_at hl 2 rfl) ?_
            have hPc := hP.sub (ws' := [(qW, .inr (6, [.ref qT, .ref qA, .ref qK, .ref qC, .ref qE, .ref qI, .ref qF, .ref qH, .ref qO, .int (iI (fi))])), (qC, .inr (0, [.ref qCy, .ref qCl, .ref qCb, .int (iI (ex)), .int (iI (be)), .int (iI (op)), .int (iI (es)), .int (iI (ge)), .int (iI (rc)), .int (iI (lr)), .int (iI (lw))])), (qCl, .inl (cyI, 60, .inl (xA (el)))), (qCb, .inl (cyI, 60, .inl (xA (bl))))]) [0, 1, 2, 3] rfl
            refine xc_i (va_runV (As := [.int (iI (stepf ex be el bl i)), .int (iI (y))]) (rest := []) ⟨hx, hb, hml, hown, hts⟩ (c_X6_isSure l D cyI cyJ cyO qW qT qA qK qC qE qI qF qH qO fi qCy qCl qCb ex be op es ge rc lr lw el bl (stepf ex be el bl i) y (by first | exact h_ex | assumption | omega) (by first | exact h_be | assumption | omega) (by first | exact h_op | assumption | omega) (by first | exact h_el | assumption | omega) (by first | exact h_bl | assumption | omega) (by first | exact h_x | assumption | omega) (by first | exact h_y | assumption | omega)) (cwV 2 hts gX6_sure_X6_isSure rfl rfl rfl (by decide +kernel) ⟨Nat.le_of_ble_eq_true rfl, Nat.le_of_ble_eq_true rfl⟩) (xpV hPc hK (ci := 6) (q0 := 0) (q := (RX6, TX6, 10)) rfl rfl) rfl rfl hl.1 rfl (lv_room (Nat.le_of_ble_eq_true rfl)) dX6_sure_71 ⟨Nat.le_of_ble_eq_true rfl, Nat.le_of_ble_eq_true rfl⟩) ?_
            refine xb_if_eqB (tgt := 80) hx hb dX6_sure_74 (by decide) (fun h_4 => ?_) (fun h_4 => ?_)
            · refine xi_inc (k := 4) (lv' := [(3, .int (iI (i + 1))), (4, .int (iI (stepf ex be el bl i))), (0, .ref qW), (1, .int (iI (y))), (2, .int (iI (a)))]) hx hb dX6_sure_80 hl rfl (by decide) rfl (fun ls hl => ?_)
              refine lv_goto (tgt := 27) hx hb dX6_sure_83 (by decide) ?_
              exact ih_27 (i + 1) (a) (by first | assumption | omega | (constructor <;> omega)) (by first | assumption | omega | (constructor <;> omega)) (by first | (rw [foldZ_0]; first | exact (suB_t (by assumption)).symm | exact (suB_f (by assumption)).symm) | (rw [foldZ_s _ (by omega), ← ha]; first | (symm; exact suS_t (by omega) (by omega) (by assumption)) | (symm; exact suS_f (Or.inr (by assumption))) | (symm; exact suS_f (Or.inl (by omega))))) (by first | assumption | omega | (constructor <;> omega)) (by omega) ls (lv_sub hl [2, 3, 4, 0] rfl)
            · refine lv_iload hx hb dX6_sure_77 (lv_at hl 0 rfl) ?_
              refine lv_istore_n (lv' := [(2, .int (iI (stepf ex be el bl i))), (4, .int (iI (stepf ex be el bl i))), (0, .ref qW), (1, .int (iI (y))), (3, .int (iI (i)))]) hx hb dX6_sure_79 rfl hl (by decide) rfl (fun ls hl => ?_)
              refine xi_inc (k := 4) (lv' := [(3, .int (iI (i + 1))), (2, .int (iI (stepf ex be el bl i))), (4, .int (iI (stepf ex be el bl i))), (0, .ref qW), (1, .int (iI (y)))]) hx hb dX6_sure_80 hl rfl (by decide) rfl (fun ls hl => ?_)
              refine lv_goto (tgt := 27) hx hb dX6_sure_83 (by decide) ?_
              exact ih_27 (i + 1) (stepf ex be el bl i) (by first | assumption | omega | (constructor <;> omega)) (by first | assumption | omega | (constructor <;> omega)) (by first | (rw [foldZ_0]; first | exact (suB_t (by assumption)).symm | exact (suB_f (by assumption)).symm) | (rw [foldZ_s _ (by omega), ← ha]; first | (symm; exact suS_t (by omega) (by omega) (by assumption)) | (symm; exact suS_f (Or.inr (by assumption))) | (symm; exact suS_f (Or.inl (by omega))))) (by first | assumption | omega | (constructor <;> omega)) (by omega) ls (lv_sub hl [3, 4, 1, 0] rfl)
          · refine lv_iload hx hb dX6_sure_61 (lv_at hl 0 rfl) ?_
            refine lv_iload_n hx hb dX6_sure_63 rfl (lv_at hl 3 rfl) ?_
            refine xb_icmp_ge (tgt := 80) hx hb dX6_sure_64 (by decide) (by omega) (fun h_5 => ?_) (fun h_5 => ?_)
            · refine xi_inc (k := 4) (lv' := [(3, .int (iI (i + 1))), (4, .int (iI (stepf ex be el bl i))), (0, .ref qW), (1, .int (iI (y))), (2, .int (iI (a)))]) hx hb dX6_sure_80 hl rfl (by decide) rfl (fun ls hl => ?_)
              refine lv_goto (tgt := 27) hx hb dX6_sure_83 (by decide) ?_
              exact ih_27 (i + 1) (a) (by first | assumption | omega | (constructor <;> omega)) (by first | assumption | omega | (constructor <;> omega)) (by first | (rw [foldZ_0]; first | exact (suB_t (by assumption)).symm | exact (suB_f (by assumption)).symm) | (rw [foldZ_s _ (by omega), ← ha]; first | (symm; exact suS_t (by omega) (by omega) (by assumption)) | (symm; exact suS_f (Or.inr (by assumption))) | (symm; exact suS_f (Or.inl (by omega))))) (by first | assumption | omega | (constructor <;> omega)) (by omega) ls (lv_sub hl [2, 3, 4, 0] rfl)
            · refine lv_aload_n hx hb dX6_sure_67 rfl (lv_at hl 1 rfl) ?_
              refine lv_iload hx hb dX6_sure_68 (lv_at hl 0 rfl) ?_
              refine lv_iload_n hx hb dX6_sure_70 rfl (lv_at hl 2 rfl) ?_
              have hPc := hP.sub (ws' := [(qW, .inr (6, [.ref qT, .ref qA, .ref qK, .ref qC, .ref qE, .ref qI, .ref qF, .ref qH, .ref qO, .int (iI (fi))])), (qC, .inr (0, [.ref qCy, .ref qCl, .ref qCb, .int (iI (ex)), .int (iI (be)), .int (iI (op)), .int (iI (es)), .int (iI (ge)), .int (iI (rc)), .int (iI (lr)), .int (iI (lw))])), (qCl, .inl (cyI, 60, .inl (xA (el)))), (qCb, .inl (cyI, 60, .inl (xA (bl))))]) [0, 1, 2, 3] rfl
              refine xc_i (va_runV (As := [.int (iI (stepf ex be el bl i)), .int (iI (y))]) (rest := []) ⟨hx, hb, hml, hown, hts⟩ (c_X6_isSure l D cyI cyJ cyO qW qT qA qK qC qE qI qF qH qO fi qCy qCl qCb ex be op es ge rc lr lw el bl (stepf ex be el bl i) y (by first | exact h_ex | assumption | omega) (by first | exact h_be | assumption | omega) (by first | exact h_op | assumption | omega) (by first | exact h_el | assumption | omega) (by first | exact h_bl | assumption | omega) (by first | exact h_x | assumption | omega) (by first | exact h_y | assumption | omega)) (cwV 2 hts gX6_sure_X6_isSure rfl rfl rfl (by decide +kernel) ⟨Nat.le_of_ble_eq_true rfl, Nat.le_of_ble_eq_true rfl⟩) (xpV hPc hK (ci := 6) (q0 := 0) (q := (RX6, TX6, 10)) rfl rfl) rfl rfl hl.1 rfl (lv_room (Nat.le_of_ble_eq_true rfl)) dX6_sure_71 ⟨Nat.le_of_ble_eq_true rfl, Nat.le_of_ble_eq_true rfl⟩) ?_
              refine xb_if_eqB (tgt := 80) hx hb dX6_sure_74 (by decide) (fun h_6 => ?_) (fun h_6 => ?_)
              · refine xi_inc (k := 4) (lv' := [(3, .int (iI (i + 1))), (4, .int (iI (stepf ex be el bl i))), (0, .ref qW), (1, .int (iI (y))), (2, .int (iI (a)))]) hx hb dX6_sure_80 hl rfl (by decide) rfl (fun ls hl => ?_)
                refine lv_goto (tgt := 27) hx hb dX6_sure_83 (by decide) ?_
                exact ih_27 (i + 1) (a) (by first | assumption | omega | (constructor <;> omega)) (by first | assumption | omega | (constructor <;> omega)) (by first | (rw [foldZ_0]; first | exact (suB_t (by assumption)).symm | exact (suB_f (by assumption)).symm) | (rw [foldZ_s _ (by omega), ← ha]; first | (symm; exact suS_t (by omega) (by omega) (by assumption)) | (symm; exact suS_f (Or.inr (by assumption))) | (symm; exact suS_f (Or.inl (by omega))))) (by first | assumption | omega | (constructor <;> omega)) (by omega) ls (lv_sub hl [2, 3, 4, 0] rfl)
              · refine lv_iload hx hb dX6_sure_77 (lv_at hl 0 rfl) ?_
                refine lv_istore_n (lv' := [(2, .int (iI (stepf ex be el bl i))), (4, .int (iI (stepf ex be el bl i))), (0, .ref qW), (1, .int (iI (y))), (3, .int (iI (i)))]) hx hb dX6_sure_79 rfl hl (by decide) rfl (fun ls hl => ?_)
                refine xi_inc (k := 4) (lv' := [(3, .int (iI (i + 1))), (2, .int (iI (stepf ex be el bl i))), (4, .int (iI (stepf ex be el bl i))), (0, .ref qW), (1, .int (iI (y)))]) hx hb dX6_sure_80 hl rfl (by decide) rfl (fun ls hl => ?_)
                refine lv_goto (tgt := 27) hx hb dX6_sure_83 (by decide) ?_
                exact ih_27 (i + 1) (stepf ex be el bl i) (by first | assumption | omega | (constructor <;> omega)) (by first | assumption | omega | (constructor <;> omega)) (by first | (rw [foldZ_0]; first | exact (suB_t (by assumption)).symm | exact (suB_f (by assumption)).symm) | (rw [foldZ_s _ (by omega), ← ha]; first | (symm; exact suS_t (by omega) (by omega) (by assumption)) | (symm; exact suS_f (Or.inr (by assumption))) | (symm; exact suS_f (Or.inl (by omega))))) (by first | assumption | omega | (constructor <;> omega)) (by omega) ls (lv_sub hl [3, 4, 1, 0] rfl)
  refine lv_iload_n hx hb dX6_sure_0 rfl (lv_at hl 1 rfl) ?_
  have hPc := hP.sub (ws' := []) [] rfl
  refine xc_i (va_runS (As := [.int (iI (y))]) (rest := []) ⟨hx, hb, hml, hown, hts⟩ (c_X6_isHundredths l D cyI cyJ cyO y (by first | exact h_y | assumption | omega)) (va_cwS 1 hts gX6_sure_X6_isHundredths rfl rfl rfl (by decide +kernel) ⟨Nat.le_of_ble_eq_true rfl, Nat.le_of_ble_eq_true rfl⟩) (xpS hPc hK) rfl rfl hl.1 rfl (lv_room (Nat.le_of_ble_eq_true rfl)) dX6_sure_1 ⟨Nat.le_of_ble_eq_true rfl, Nat.le_of_ble_eq_true rfl⟩) ?_
  refine xb_if_neB (tgt := 10) hx hb dX6_sure_4 (by decide) (fun h_7 => ?_) (fun h_7 => ?_)
  · refine lv_aload_n hx hb dX6_sure_10 rfl (lv_at hl 0 rfl) ?_
    refine xi_const hx hb dX6_sure_11 ?_
    refine lv_iload_n hx hb dX6_sure_12 rfl (lv_at hl 1 rfl) ?_
    have hPc := hP.sub (ws' := [(qW, .inr (6, [.ref qT, .ref qA, .ref qK, .ref qC, .ref qE, .ref qI, .ref qF, .ref qH, .ref qO, .int (iI (fi))])), (qC, .inr (0, [.ref qCy, .ref qCl, .ref qCb, .int (iI (ex)), .int (iI (be)), .int (iI (op)), .int (iI (es)), .int (iI (ge)), .int (iI (rc)), .int (iI (lr)), .int (iI (lw))])), (qCl, .inl (cyI, 60, .inl (xA (el)))), (qCb, .inl (cyI, 60, .inl (xA (bl))))]) [0, 1, 2, 3] rfl
    refine xc_i (va_runV (As := [.int (iI (0)), .int (iI (y))]) (rest := []) ⟨hx, hb, hml, hown, hts⟩ (c_X6_isSure l D cyI cyJ cyO qW qT qA qK qC qE qI qF qH qO fi qCy qCl qCb ex be op es ge rc lr lw el bl 0 y (by first | exact h_ex | assumption | omega) (by first | exact h_be | assumption | omega) (by first | exact h_op | assumption | omega) (by first | exact h_el | assumption | omega) (by first | exact h_bl | assumption | omega) (by first | exact h_x | assumption | omega) (by first | exact h_y | assumption | omega)) (cwV 2 hts gX6_sure_X6_isSure rfl rfl rfl (by decide +kernel) ⟨Nat.le_of_ble_eq_true rfl, Nat.le_of_ble_eq_true rfl⟩) (xpV hPc hK (ci := 6) (q0 := 0) (q := (RX6, TX6, 10)) rfl rfl) rfl rfl hl.1 rfl (lv_room (Nat.le_of_ble_eq_true rfl)) dX6_sure_13 ⟨Nat.le_of_ble_eq_true rfl, Nat.le_of_ble_eq_true rfl⟩) ?_
    refine xb_if_eqB (tgt := 23) hx hb dX6_sure_16 (by decide) (fun h_8 => ?_) (fun h_8 => ?_)
    · refine xi_const hx hb dX6_sure_23 ?_
      refine lv_istore_n (lv' := [(2, .int (iI (-1))), (0, .ref qW), (1, .int (iI (y)))]) hx hb dX6_sure_24 rfl hl (by decide) rfl (fun ls hl => ?_)
      refine xi_const hx hb dX6_sure_25 ?_
      refine lv_istore_n (lv' := [(3, .int (iI (0))), (2, .int (iI (-1))), (0, .ref qW), (1, .int (iI (y)))]) hx hb dX6_sure_26 rfl hl (by decide) rfl (fun ls hl => ?_)
      exact cut_27 ((ex + be - 0 : Int).toNat + 1) (0) (-1) (by first | assumption | omega | (constructor <;> omega)) (by first | assumption | omega | (constructor <;> omega)) (by first | (rw [foldZ_0]; first | exact (suB_t (by assumption)).symm | exact (suB_f (by assumption)).symm) | (rw [foldZ_s _ (by omega), ← ha]; first | (symm; exact suS_t (by omega) (by omega) (by assumption)) | (symm; exact suS_f (Or.inr (by assumption))) | (symm; exact suS_f (Or.inl (by omega))))) (by first | assumption | omega | (constructor <;> omega)) (by exact Nat.lt_succ_self _) ls (lv_sub hl [2, 3, 1, 0] rfl)
    · refine xi_const hx hb dX6_sure_19 ?_
      refine lv_goto (tgt := 24) hx hb dX6_sure_20 (by decide) ?_
      refine lv_istore_n (lv' := [(2, .int (iI (0))), (0, .ref qW), (1, .int (iI (y)))]) hx hb dX6_sure_24 rfl hl (by decide) rfl (fun ls hl => ?_)
      refine xi_const hx hb dX6_sure_25 ?_
      refine lv_istore_n (lv' := [(3, .int (iI (0))), (2, .int (iI (0))), (0, .ref qW), (1, .int (iI (y)))]) hx hb dX6_sure_26 rfl hl (by decide) rfl (fun ls hl => ?_)
      exact cut_27 ((ex + be - 0 : Int).toNat + 1) (0) (0) (by first | assumption | omega | (constructor <;> omega)) (by first | assumption | omega | (constructor <;> omega)) (by first | (rw [foldZ_0]; first | exact (suB_t (by assumption)).symm | exact (suB_f (by assumption)).symm) | (rw [foldZ_s _ (by omega), ← ha]; first | (symm; exact suS_t (by omega) (by omega) (by assumption)) | (symm; exact suS_f (Or.inr (by assumption))) | (symm; exact suS_f (Or.inl (by omega))))) (by first | assumption | omega | (constructor <;> omega)) (by exact Nat.lt_succ_self _) ls (lv_sub hl [2, 3, 1, 0] rfl)
  · refine xi_bipush hx hb dX6_sure_7 (by decide +kernel) ?_
    exact W.iret (v := iI (-2)) hx hb hr (fun t_ ht_ _ => ⟨congrArg (fun z => Outcome.returned (some (Value.int (iI z)))) (show (-2) = (if 0 ≤ y ∧ y ≤ 100 then foldZ (suS el bl ex be op y) (ex + be) (suB el bl ex be op y) else -2) from by first | rw [if_neg (by omega)] | (rw [if_pos (by omega), ha, show i = ex + be from by omega])), ht_⟩) (fun _ h9 => absurd h9 List.not_mem_nil) dX6_sure_9
set_option maxHeartbeats 1000000 in
set_option maxRecDepth 100000 in
theorem c_X6_dyke (l : Launch) (D : va_G) (cyI cyJ cyO : ClassId) (qW : Nat) (qT : Nat) (qA : Nat) (qK : Nat) (qC : Nat) (qE : Nat) (qI : Nat) (qF : Nat) (qH : Nat) (qO : Nat) (fi : Int) (se : Int → Int) (qCy : Nat) (qCl : Nat) (qCb : Nat) (ex : Int) (be : Int) (op : Int) (es : Int) (ge : Int) (rc : Int) (lr : Int) (lw : Int) (el : Int → Int) (bl : Int → Int) (x : Int) (w : Int) (h_s3 : 0 ≤ se 3 ∧ se 3 ≤ 99) (h_s4 : 0 ≤ se 4 ∧ se 4 ≤ 9999) (h_s5 : 0 ≤ se 5 ∧ se 5 ≤ 99) (h_ex : 0 ≤ ex ∧ ex ≤ 60) (h_be : 0 ≤ be ∧ be ≤ 60) (h_op : 0 ≤ op ∧ op ≤ 60) (h_el : ∀ j, 0 ≤ el j ∧ el j ≤ 999) (h_bl : ∀ j, 0 ≤ bl j ∧ bl j ≤ 999) (h_x : -2147483648 ≤ x ∧ x ≤ 2147483647) (h_w : -2147483648 ≤ w ∧ w ≤ 2147483647) : Met l yX6_dyke wsX6_dyke ({ frames := 3, cells := 0, slots := 0, locals := 67 }) (va_Pc [.ref qW, .int (iI (x)), .int (iI (w))] (xR D vwCl [(qW, .inr (6, [.ref qT, .ref qA, .ref qK, .ref qC, .ref qE, .ref qI, .ref qF, .ref qH, .ref qO, .int (iI (fi))])), (qE, .inl (cyI, 6, .inl (xA (se)))), (qC, .inr (0, [.ref qCy, .ref qCl, .ref qCb, .int (iI (ex)), .int (iI (be)), .int (iI (op)), .int (iI (es)), .int (iI (ge)), .int (iI (rc)), .int (iI (lr)), .int (iI (lw))])), (qCl, .inl (cyI, 60, .inl (xA (el)))), (qCb, .inl (cyI, 60, .inl (xA (bl))))] (xT cyI cyJ cyO))) (xq (some (.long (lI (if (0 ≤ x ∧ x ≤ 999) ∧ (w = 0 ∨ w = 1) then frac (dkA se el bl ex be x) (rbZ bl ex be x) w else -9223372036854775806))))) 0 0 (fun _ => False) := by
  refine Met.ofW (cc := cX6_dyke) (maxL := 3) (ret := (some .long)) (by decide) rfl ?_
  intro p e s m args below meth c s₁ B hml hv
  obtain ⟨rfl, hP, hK⟩ := hv
  have hx := B.exec
  have hb := B.bytes
  have hr := B.returns
  have hts := atoms_spec (ws := wsX6_dyke) B.pre
  have hown : s.vm.findClass RX6 = some m.cls := findClass_of_methodNamed B.named
  have hlocks := B.notSynchronized
  have hcX6 : ∀ w ∈ wsX60, w ∈ wsX6_dyke := fun _ h => List.mem_cons_of_mem _ (List.mem_append_left _ (List.mem_append_right _ h))
  have hP : va_P D vwCl [(qW, .inr (6, [.ref qT, .ref qA, .ref qK, .ref qC, .ref qE, .ref qI, .ref qF, .ref qH, .ref qO, .int (iI (fi))])), (qE, .inl (cyI, 6, .inl (xA (se)))), (qC, .inr (0, [.ref qCy, .ref qCl, .ref qCb, .int (iI (ex)), .int (iI (be)), .int (iI (op)), .int (iI (es)), .int (iI (ge)), .int (iI (rc)), .int (iI (lr)), .int (iI (lw))])), (qCl, .inl (cyI, 60, .inl (xA (el)))), (qCb, .inl (cyI, 60, .inl (xA (bl))))] s.heap := hP
  have hl := lv_entry ([.ref qW, .int (iI (x)), .int (iI (w))]) (n := 3) (Nat.le_of_ble_eq_true rfl)
  rw [lg_entry_eq]
  generalize (lg_sl ([.ref qW, .int (iI (x)), .int (iI (w))]) ++ List.replicate (3 - (lg_sl ([.ref qW, .int (iI (x)), .int (iI (w))])).length) Slot.unset).toArray = ls at hl ⊢
  have hl : lv_has ls 3 [(0, .ref qW), (1, .int (iI (x))), (2, .int (iI (w)))] := hl
  refine lv_iload_n hx hb dX6_dyke_0 rfl (lv_at hl 1 rfl) ?_
  have hPc := hP.sub (ws' := []) [] rfl
  refine xc_i (va_runS (As := [.int (iI (x))]) (rest := []) ⟨hx, hb, hml, hown, hts⟩ (c_X6_isLevel l D cyI cyJ cyO x (by first | exact h_y | assumption | omega)) (va_cwS 1 hts gX6_dyke_X6_isLevel rfl rfl rfl (by decide +kernel) ⟨Nat.le_of_ble_eq_true rfl, Nat.le_of_ble_eq_true rfl⟩) (xpS hPc hK) rfl rfl hl.1 rfl (lv_room (Nat.le_of_ble_eq_true rfl)) dX6_dyke_1 ⟨Nat.le_of_ble_eq_true rfl, Nat.le_of_ble_eq_true rfl⟩) ?_
  refine xb_if_eqB (tgt := 14) hx hb dX6_dyke_4 (by decide) (fun h_1 => ?_) (fun h_1 => ?_)
  · refine xi_bipush hx hb dX6_dyke_14 (by decide +kernel) ?_
    have hPc := hP.sub (ws' := []) [] rfl
    refine xc_l (va_runS (As := [.int (iI (-2))]) (rest := []) ⟨hx, hb, hml, hown, hts⟩ (c_X6_longRefusal l D cyI cyJ cyO (-2) (by first | exact h_x | assumption | omega)) (va_cwS 1 hts gX6_dyke_X6_longRefusal rfl rfl rfl (by decide +kernel) ⟨Nat.le_of_ble_eq_true rfl, Nat.le_of_ble_eq_true rfl⟩) (xpS hPc hK) rfl rfl hl.1 rfl (lv_room (Nat.le_of_ble_eq_true rfl)) dX6_dyke_16 ⟨Nat.le_of_ble_eq_true rfl, Nat.le_of_ble_eq_true rfl⟩) ?_
    exact W.lret (v := lI (-9223372036854775808 - (-2))) hx hb hr (fun t_ ht_ _ => ⟨congrArg (fun z => Outcome.returned (some (Value.long (lI z)))) (show (-9223372036854775808 - (-2)) = (if (0 ≤ x ∧ x ≤ 999) ∧ (w = 0 ∨ w = 1) then frac (dkA se el bl ex be x) (rbZ bl ex be x) w else -9223372036854775806) from by first | rfl | ((repeat (first | rw [if_pos (by omega)] | rw [if_neg (by omega)])); done) | ((repeat (first | rw [if_pos (by omega)] | rw [if_neg (by omega)])); rfl) | omega), ht_⟩) (fun _ h9 => absurd h9 List.not_mem_nil) dX6_dyke_19
  · refine lv_iload_n hx hb dX6_dyke_7 rfl (lv_at hl 2 rfl) ?_
    have hPc := hP.sub (ws' := []) [] rfl
    refine xc_i (va_runS (As := [.int (iI (w))]) (rest := []) ⟨hx, hb, hml, hown, hts⟩ (c_X6_isEither l D cyI cyJ cyO w (by first | exact h_y | assumption | omega)) (va_cwS 1 hts gX6_dyke_X6_isEither rfl rfl rfl (by decide +kernel) ⟨Nat.le_of_ble_eq_true rfl, Nat.le_of_ble_eq_true rfl⟩) (xpS hPc hK) rfl rfl hl.1 rfl (lv_room (Nat.le_of_ble_eq_true rfl)) dX6_dyke_8 ⟨Nat.le_of_ble_eq_true rfl, Nat.le_of_ble_eq_true rfl⟩) ?_
    refine xb_if_neB (tgt := 20) hx hb dX6_dyke_11 (by decide) (fun h_2 => ?_) (fun h_2 => ?_)
    · refine lv_aload_n hx hb dX6_dyke_20 rfl (lv_at hl 0 rfl) ?_
      refine lv_iload_n hx hb dX6_dyke_21 rfl (lv_at hl 1 rfl) ?_
      have hf_3 := dkA_in (se := se) (el := el) (bl := bl) (ex := ex) (be := be) (h := x) (by omega) (by omega) (by assumption) (by assumption) (by assumption) (by omega)
      have hPc := hP.sub (ws' := [(qW, .inr (6, [.ref qT, .ref qA, .ref qK, .ref qC, .ref qE, .ref qI, .ref qF, .ref qH, .ref qO, .int (iI (fi))])), (qE, .inl (cyI, 6, .inl (xA (se)))), (qC, .inr (0, [.ref qCy, .ref qCl, .ref qCb, .int (iI (ex)), .int (iI (be)), .int (iI (op)), .int (iI (es)), .int (iI (ge)), .int (iI (rc)), .int (iI (lr)), .int (iI (lw))])), (qCl, .inl (cyI, 60, .inl (xA (el)))), (qCb, .inl (cyI, 60, .inl (xA (bl))))]) [0, 1, 2, 3, 4] rfl
      refine xc_l (va_runV (As := [.int (iI (x))]) (rest := []) ⟨hx, hb, hml, hown, hts⟩ (c_X6_dykeAbove l D cyI cyJ cyO qW qT qA qK qC qE qI qF qH qO fi se qCy qCl qCb ex be op es ge rc lr lw el bl x (by first | exact h_s3 | assumption | omega) (by first | exact h_s4 | assumption | omega) (by first | exact h_s5 | assumption | omega) (by first | exact h_ex | assumption | omega) (by first | exact h_be | assumption | omega) (by first | exact h_op | assumption | omega) (by first | exact h_el | assumption | omega) (by first | exact h_bl | assumption | omega) (by first | exact h_x | assumption | omega)) (cwV 1 hts gX6_dyke_X6_dykeAbove rfl rfl rfl (by decide +kernel) ⟨Nat.le_of_ble_eq_true rfl, Nat.le_of_ble_eq_true rfl⟩) (xpV hPc hK (ci := 6) (q0 := 0) (q := (RX6, TX6, 10)) rfl rfl) rfl rfl hl.1 rfl (lv_room (Nat.le_of_ble_eq_true rfl)) dX6_dyke_22 ⟨Nat.le_of_ble_eq_true rfl, Nat.le_of_ble_eq_true rfl⟩) ?_
      refine lv_aload_n hx hb dX6_dyke_25 rfl (lv_at hl 0 rfl) ?_
      refine va_get (D := D) (ci := 6) (C := RX6) (T := TX6) (N := 10) hx hb hts hcX6 hown hK hP 0 rfl rfl 3 (by decide) (hts (.fieldLink RX6 33 "WallMarks" "counted" "LWallMarks$Counted;") (List.mem_of_getElem? (i := 1) (by decide +kernel))) (fun _ h9 => h9) rfl dX6_dyke_26 ?_
      refine lv_iload_n hx hb dX6_dyke_29 rfl (lv_at hl 1 rfl) ?_
      have hf_4 := buZ_in bl be x (by omega)
      have hPc := hP.sub (ws' := [(qC, .inr (0, [.ref qCy, .ref qCl, .ref qCb, .int (iI (ex)), .int (iI (be)), .int (iI (op)), .int (iI (es)), .int (iI (ge)), .int (iI (rc)), .int (iI (lr)), .int (iI (lw))])), (qCb, .inl (cyI, 60, .inl (xA (bl))))]) [2, 4] rfl
      refine xc_i (va_runV (As := [.int (iI (x))]) (rest := [.long (lI (dkA se el bl ex be x))]) ⟨hx, hb, hml, hown, hts⟩ (c_X0_rareBelow l D cyI cyJ cyO qC qCy qCl qCb ex be op es ge rc lr lw bl x (by first | exact h_ex | assumption | omega) (by first | exact h_be | assumption | omega) (by first | exact h_op | assumption | omega) (by first | exact h_bl | assumption | omega) (by first | exact h_x | assumption | omega)) (cwV 1 hts gX6_dyke_X0_rareBelow rfl rfl rfl (by decide +kernel) ⟨Nat.le_of_ble_eq_true rfl, Nat.le_of_ble_eq_true rfl⟩) (xpV hPc hK (ci := 0) (q0 := 0) (q := (RX0, TX0, 11)) rfl rfl) rfl rfl hl.1 rfl (lv_room (Nat.le_of_ble_eq_true rfl)) dX6_dyke_30 ⟨Nat.le_of_ble_eq_true rfl, Nat.le_of_ble_eq_true rfl⟩) ?_
      refine xi_i2l hx hb dX6_dyke_33 (by omega) ?_
      refine lv_iload_n hx hb dX6_dyke_34 rfl (lv_at hl 2 rfl) ?_
      have hPc := hP.sub (ws' := []) [] rfl
      refine xc_l (va_runS (As := [.long (lI (dkA se el bl ex be x)), .long (lI (ex + buZ bl be x + 1)), .int (iI (w))]) (rest := []) ⟨hx, hb, hml, hown, hts⟩ (c_X6_fraction l D cyI cyJ cyO (dkA se el bl ex be x) (ex + buZ bl be x + 1) w (by first | exact h_a | assumption | omega) (by first | exact h_b | assumption | omega) (by first | exact h_w | assumption | omega)) (va_cwS 3 hts gX6_dyke_X6_fraction rfl rfl rfl (by decide +kernel) ⟨Nat.le_of_ble_eq_true rfl, Nat.le_of_ble_eq_true rfl⟩) (xpS hPc hK) rfl rfl hl.1 rfl (lv_room (Nat.le_of_ble_eq_true rfl)) dX6_dyke_35 ⟨Nat.le_of_ble_eq_true rfl, Nat.le_of_ble_eq_true rfl⟩) ?_
      exact W.lret (v := lI (frac (dkA se el bl ex be x) (ex + buZ bl be x + 1) w)) hx hb hr (fun t_ ht_ _ => ⟨congrArg (fun z => Outcome.returned (some (Value.long (lI z)))) (show (frac (dkA se el bl ex be x) (ex + buZ bl be x + 1) w) = (if (0 ≤ x ∧ x ≤ 999) ∧ (w = 0 ∨ w = 1) then frac (dkA se el bl ex be x) (rbZ bl ex be x) w else -9223372036854775806) from by first | rfl | ((repeat (first | rw [if_pos (by omega)] | rw [if_neg (by omega)])); done) | ((repeat (first | rw [if_pos (by omega)] | rw [if_neg (by omega)])); rfl) | omega), ht_⟩) (fun _ h9 => absurd h9 List.not_mem_nil) dX6_dyke_38
    · refine xi_bipush hx hb dX6_dyke_14 (by decide +kernel) ?_
      have hPc := hP.sub (ws' := []) [] rfl
      refine xc_l (va_runS (As := [.int (iI (-2))]) (rest := []) ⟨hx, hb, hml, hown, hts⟩ (c_X6_longRefusal l D cyI cyJ cyO (-2) (by first | exact h_x | assumption | omega)) (va_cwS 1 hts gX6_dyke_X6_longRefusal rfl rfl rfl (by decide +kernel) ⟨Nat.le_of_ble_eq_true rfl, Nat.le_of_ble_eq_true rfl⟩) (xpS hPc hK) rfl rfl hl.1 rfl (lv_room (Nat.le_of_ble_eq_true rfl)) dX6_dyke_16 ⟨Nat.le_of_ble_eq_true rfl, Nat.le_of_ble_eq_true rfl⟩) ?_
      exact W.lret (v := lI (-9223372036854775808 - (-2))) hx hb hr (fun t_ ht_ _ => ⟨congrArg (fun z => Outcome.returned (some (Value.long (lI z)))) (show (-9223372036854775808 - (-2)) = (if (0 ≤ x ∧ x ≤ 999) ∧ (w = 0 ∨ w = 1) then frac (dkA se el bl ex be x) (rbZ bl ex be x) w else -9223372036854775806) from by first | rfl | ((repeat (first | rw [if_pos (by omega)] | rw [if_neg (by omega)])); done) | ((repeat (first | rw [if_pos (by omega)] | rw [if_neg (by omega)])); rfl) | omega), ht_⟩) (fun _ h9 => absurd h9 List.not_mem_nil) dX6_dyke_19
set_option maxHeartbeats 1000000 in
set_option maxRecDepth 100000 in
theorem c_X6_count (l : Launch) (D : va_G) (cyI cyJ cyO : ClassId) (qW : Nat) (qT : Nat) (qA : Nat) (qK : Nat) (qC : Nat) (qE : Nat) (qI : Nat) (qF : Nat) (qH : Nat) (qO : Nat) (fi : Int) (qTy : Nat) (qTk : Nat) (qTl : Nat) (qTt : Nat) (tn : Int) (tm : Int) (qAf : Nat) (qAt : Nat) (qAl : Nat) (wn : Int) (qCy : Nat) (qCl : Nat) (qCb : Nat) (ex : Int) (be : Int) (op : Int) (es : Int) (ge : Int) (rc : Int) (lr : Int) (lw : Int) (qFb : Nat) (qFl : Nat) (qFa : Nat) (fs : Int) (fp : Int) (fq : Int) (si : Int → Int) (w : Int) (h_si : ∀ j, -1 ≤ si j ∧ si j ≤ 999) (h_w : -2147483648 ≤ w ∧ w ≤ 2147483647) : Met l yX6_count wsX6_count ({ frames := 1, cells := 0, slots := 0, locals := 22 }) (va_Pc [.ref qW, .int (iI (w))] (xR D vwCl [(qW, .inr (6, [.ref qT, .ref qA, .ref qK, .ref qC, .ref qE, .ref qI, .ref qF, .ref qH, .ref qO, .int (iI (fi))])), (qT, .inr (4, [.ref qTy, .ref qTk, .ref qTl, .ref qTt, .int (iI (tn)), .int (iI (tm))])), (qA, .inr (5, [.ref qAf, .ref qAt, .ref qAl, .int (iI (wn))])), (qC, .inr (0, [.ref qCy, .ref qCl, .ref qCb, .int (iI (ex)), .int (iI (be)), .int (iI (op)), .int (iI (es)), .int (iI (ge)), .int (iI (rc)), .int (iI (lr)), .int (iI (lw))])), (qF, .inr (1, [.ref qFb, .ref qFl, .ref qFa, .int (iI (fs)), .int (iI (fp)), .int (iI (fq))])), (qI, .inl (cyI, 60, .inl (xA (si))))] (xT cyI cyJ cyO))) (xq (some (.int (iI (cntV tn wn ex be op ge fs fi (cntZ (fun j => si j ≠ -1) 60) w))))) 0 0 (fun _ => False) := by
  refine Met.ofW (cc := cX6_count) (maxL := 2) (ret := (some .int)) (by decide) rfl ?_
  intro p e s m args below meth c s₁ B hml hv
  obtain ⟨rfl, hP, hK⟩ := hv
  have hx := B.exec
  have hb := B.bytes
  have hr := B.returns
  have hts := atoms_spec (ws := wsX6_count) B.pre
  have hown : s.vm.findClass RX6 = some m.cls := findClass_of_methodNamed B.named
  have hlocks := B.notSynchronized
  have hcX0 : ∀ w ∈ wsX00, w ∈ wsX6_count := fun _ h => List.mem_cons_of_mem _ (List.mem_append_left _ (List.mem_append_right _ h))
  have hcX1 : ∀ w ∈ wsX10, w ∈ wsX6_count := fun _ h => List.mem_cons_of_mem _ (List.mem_append_right _ h)
  have hcX4 : ∀ w ∈ wsX40, w ∈ wsX6_count := fun _ h => List.mem_cons_of_mem _ (List.mem_append_left _ (List.mem_append_left _ (List.mem_append_left _ (List.mem_append_right _ h))))
  have hcX5 : ∀ w ∈ wsX50, w ∈ wsX6_count := fun _ h => List.mem_cons_of_mem _ (List.mem_append_left _ (List.mem_append_left _ (List.mem_append_right _ h)))
  have hcX6 : ∀ w ∈ wsX60, w ∈ wsX6_count := fun _ h => List.mem_cons_of_mem _ (List.mem_append_left _ (List.mem_append_left _ (List.mem_append_left _ (List.mem_append_left _ (List.mem_append_right _ h)))))
  have hP : va_P D vwCl [(qW, .inr (6, [.ref qT, .ref qA, .ref qK, .ref qC, .ref qE, .ref qI, .ref qF, .ref qH, .ref qO, .int (iI (fi))])), (qT, .inr (4, [.ref qTy, .ref qTk, .ref qTl, .ref qTt, .int (iI (tn)), .int (iI (tm))])), (qA, .inr (5, [.ref qAf, .ref qAt, .ref qAl, .int (iI (wn))])), (qC, .inr (0, [.ref qCy, .ref qCl, .ref qCb, .int (iI (ex)), .int (iI (be)), .int (iI (op)), .int (iI (es)), .int (iI (ge)), .int (iI (rc)), .int (iI (lr)), .int (iI (lw))])), (qF, .inr (1, [.ref qFb, .ref qFl, .ref qFa, .int (iI (fs)), .int (iI (fp)), .int (iI (fq))])), (qI, .inl (cyI, 60, .inl (xA (si))))] s.heap := hP
  have hl := lv_entry ([.ref qW, .int (iI (w))]) (n := 2) (Nat.le_of_ble_eq_true rfl)
  rw [lg_entry_eq]
  generalize (lg_sl ([.ref qW, .int (iI (w))]) ++ List.replicate (2 - (lg_sl ([.ref qW, .int (iI (w))])).length) Slot.unset).toArray = ls at hl ⊢
  have hl : lv_has ls 2 [(0, .ref qW), (1, .int (iI (w)))] := hl
  refine lv_iload_n hx hb dX6_count_0 rfl (lv_at hl 1 rfl) ?_
  rcases (show w = 0 ∨ w = 1 ∨ w = 2 ∨ w = 3 ∨ w = 4 ∨ w = 5 ∨ w = 6 ∨ w = 7 ∨ w = 8 ∨ (w < 0 ∨ 8 < w) from by omega) with h_1 | h_1 | h_1 | h_1 | h_1 | h_1 | h_1 | h_1 | h_1 | h_1
  · refine xi_tab (k := 0) (tgt := 52) (off := 51) hx hb dX6_count_1 h_1 (by decide) (by decide) (by decide) rfl (by decide) ?_
    refine lv_aload_n hx hb dX6_count_52 rfl (lv_at hl 0 rfl) ?_
    refine va_get (D := D) (ci := 6) (C := RX6) (T := TX6) (N := 10) hx hb hts hcX6 hown hK hP 0 rfl rfl 0 (by decide) (hts (.fieldLink RX6 10 "WallMarks" "tellings" "LWallMarks$Tellings;") (List.mem_of_getElem? (i := 1) (by decide +kernel))) (fun _ h9 => h9) rfl dX6_count_53 ?_
    refine va_get (D := D) (ci := 4) (C := RX4) (T := TX4) (N := 6) hx hb hts hcX4 hown hK hP 1 rfl rfl 4 (by decide) (hts (.fieldLink RX6 102 "WallMarks$Tellings" "size" "I") (List.mem_of_getElem? (i := 2) (by decide +kernel))) (fun _ h9 => h9) rfl dX6_count_56 ?_
    exact W.iret (v := iI (tn)) hx hb hr (fun t_ ht_ _ => ⟨congrArg (fun z => Outcome.returned (some (Value.int (iI z)))) (show (tn) = (cntV tn wn ex be op ge fs fi (cntZ (fun j => si j ≠ -1) 60) w) from by unfold cntV; first | rfl | ((repeat (first | rw [if_pos (by omega)] | rw [if_neg (by omega)])); done) | ((repeat (first | rw [if_pos (by omega)] | rw [if_neg (by omega)])); rfl) | omega), ht_⟩) (fun _ h9 => absurd h9 List.not_mem_nil) dX6_count_59
  · refine xi_tab (k := 1) (tgt := 60) (off := 59) hx hb dX6_count_1 h_1 (by decide) (by decide) (by decide) rfl (by decide) ?_
    refine lv_aload_n hx hb dX6_count_60 rfl (lv_at hl 0 rfl) ?_
    refine va_get (D := D) (ci := 6) (C := RX6) (T := TX6) (N := 10) hx hb hts hcX6 hown hK hP 0 rfl rfl 1 (by decide) (hts (.fieldLink RX6 19 "WallMarks" "watches" "LWallMarks$Watches;") (List.mem_of_getElem? (i := 3) (by decide +kernel))) (fun _ h9 => h9) rfl dX6_count_61 ?_
    refine va_get (D := D) (ci := 5) (C := RX5) (T := TX5) (N := 4) hx hb hts hcX5 hown hK hP 2 rfl rfl 3 (by decide) (hts (.fieldLink RX6 127 "WallMarks$Watches" "size" "I") (List.mem_of_getElem? (i := 4) (by decide +kernel))) (fun _ h9 => h9) rfl dX6_count_64 ?_
    exact W.iret (v := iI (wn)) hx hb hr (fun t_ ht_ _ => ⟨congrArg (fun z => Outcome.returned (some (Value.int (iI z)))) (show (wn) = (cntV tn wn ex be op ge fs fi (cntZ (fun j => si j ≠ -1) 60) w) from by unfold cntV; first | rfl | ((repeat (first | rw [if_pos (by omega)] | rw [if_neg (by omega)])); done) | ((repeat (first | rw [if_pos (by omega)] | rw [if_neg (by omega)])); rfl) | omega), ht_⟩) (fun _ h9 => absurd h9 List.not_mem_nil) dX6_count_67
  · refine xi_tab (k := 2) (tgt := 68) (off := 67) hx hb dX6_count_1 h_1 (by decide) (by decide) (by decide) rfl (by decide) ?_
    refine lv_aload_n hx hb dX6_count_68 rfl (lv_at hl 0 rfl) ?_
    refine va_get (D := D) (ci := 6) (C := RX6) (T := TX6) (N := 10) hx hb hts hcX6 hown hK hP 0 rfl rfl 3 (by decide) (hts (.fieldLink RX6 33 "WallMarks" "counted" "LWallMarks$Counted;") (List.mem_of_getElem? (i := 5) (by decide +kernel))) (fun _ h9 => h9) rfl dX6_count_69 ?_
    refine va_get (D := D) (ci := 0) (C := RX0) (T := TX0) (N := 11) hx hb hts hcX0 hown hK hP 3 rfl rfl 3 (by decide) (hts (.fieldLink RX6 170 "WallMarks$Counted" "exacts" "I") (List.mem_of_getElem? (i := 6) (by decide +kernel))) (fun _ h9 => h9) rfl dX6_count_72 ?_
    exact W.iret (v := iI (ex)) hx hb hr (fun t_ ht_ _ => ⟨congrArg (fun z => Outcome.returned (some (Value.int (iI z)))) (show (ex) = (cntV tn wn ex be op ge fs fi (cntZ (fun j => si j ≠ -1) 60) w) from by unfold cntV; first | rfl | ((repeat (first | rw [if_pos (by omega)] | rw [if_neg (by omega)])); done) | ((repeat (first | rw [if_pos (by omega)] | rw [if_neg (by omega)])); rfl) | omega), ht_⟩) (fun _ h9 => absurd h9 List.not_mem_nil) dX6_count_75
  · refine xi_tab (k := 3) (tgt := 76) (off := 75) hx hb dX6_count_1 h_1 (by decide) (by decide) (by decide) rfl (by decide) ?_
    refine lv_aload_n hx hb dX6_count_76 rfl (lv_at hl 0 rfl) ?_
    refine va_get (D := D) (ci := 6) (C := RX6) (T := TX6) (N := 10) hx hb hts hcX6 hown hK hP 0 rfl rfl 3 (by decide) (hts (.fieldLink RX6 33 "WallMarks" "counted" "LWallMarks$Counted;") (List.mem_of_getElem? (i := 5) (by decide +kernel))) (fun _ h9 => h9) rfl dX6_count_77 ?_
    refine va_get (D := D) (ci := 0) (C := RX0) (T := TX0) (N := 11) hx hb hts hcX0 hown hK hP 3 rfl rfl 4 (by decide) (hts (.fieldLink RX6 308 "WallMarks$Counted" "belows" "I") (List.mem_of_getElem? (i := 7) (by decide +kernel))) (fun _ h9 => h9) rfl dX6_count_80 ?_
    exact W.iret (v := iI (be)) hx hb hr (fun t_ ht_ _ => ⟨congrArg (fun z => Outcome.returned (some (Value.int (iI z)))) (show (be) = (cntV tn wn ex be op ge fs fi (cntZ (fun j => si j ≠ -1) 60) w) from by unfold cntV; first | rfl | ((repeat (first | rw [if_pos (by omega)] | rw [if_neg (by omega)])); done) | ((repeat (first | rw [if_pos (by omega)] | rw [if_neg (by omega)])); rfl) | omega), ht_⟩) (fun _ h9 => absurd h9 List.not_mem_nil) dX6_count_83
  · refine xi_tab (k := 4) (tgt := 84) (off := 83) hx hb dX6_count_1 h_1 (by decide) (by decide) (by decide) rfl (by decide) ?_
    refine lv_aload_n hx hb dX6_count_84 rfl (lv_at hl 0 rfl) ?_
    refine va_get (D := D) (ci := 6) (C := RX6) (T := TX6) (N := 10) hx hb hts hcX6 hown hK hP 0 rfl rfl 3 (by decide) (hts (.fieldLink RX6 33 "WallMarks" "counted" "LWallMarks$Counted;") (List.mem_of_getElem? (i := 5) (by decide +kernel))) (fun _ h9 => h9) rfl dX6_count_85 ?_
    refine va_get (D := D) (ci := 0) (C := RX0) (T := TX0) (N := 11) hx hb hts hcX0 hown hK hP 3 rfl rfl 5 (by decide) (hts (.fieldLink RX6 311 "WallMarks$Counted" "opens" "I") (List.mem_of_getElem? (i := 8) (by decide +kernel))) (fun _ h9 => h9) rfl dX6_count_88 ?_
    exact W.iret (v := iI (op)) hx hb hr (fun t_ ht_ _ => ⟨congrArg (fun z => Outcome.returned (some (Value.int (iI z)))) (show (op) = (cntV tn wn ex be op ge fs fi (cntZ (fun j => si j ≠ -1) 60) w) from by unfold cntV; first | rfl | ((repeat (first | rw [if_pos (by omega)] | rw [if_neg (by omega)])); done) | ((repeat (first | rw [if_pos (by omega)] | rw [if_neg (by omega)])); rfl) | omega), ht_⟩) (fun _ h9 => absurd h9 List.not_mem_nil) dX6_count_91
  · refine xi_tab (k := 5) (tgt := 92) (off := 91) hx hb dX6_count_1 h_1 (by decide) (by decide) (by decide) rfl (by decide) ?_
    refine lv_aload_n hx hb dX6_count_92 rfl (lv_at hl 0 rfl) ?_
    refine va_get (D := D) (ci := 6) (C := RX6) (T := TX6) (N := 10) hx hb hts hcX6 hown hK hP 0 rfl rfl 3 (by decide) (hts (.fieldLink RX6 33 "WallMarks" "counted" "LWallMarks$Counted;") (List.mem_of_getElem? (i := 5) (by decide +kernel))) (fun _ h9 => h9) rfl dX6_count_93 ?_
    refine va_get (D := D) (ci := 0) (C := RX0) (T := TX0) (N := 11) hx hb hts hcX0 hown hK hP 3 rfl rfl 7 (by decide) (hts (.fieldLink RX6 314 "WallMarks$Counted" "greatestExact" "I") (List.mem_of_getElem? (i := 9) (by decide +kernel))) (fun _ h9 => h9) rfl dX6_count_96 ?_
    exact W.iret (v := iI (ge)) hx hb hr (fun t_ ht_ _ => ⟨congrArg (fun z => Outcome.returned (some (Value.int (iI z)))) (show (ge) = (cntV tn wn ex be op ge fs fi (cntZ (fun j => si j ≠ -1) 60) w) from by unfold cntV; first | rfl | ((repeat (first | rw [if_pos (by omega)] | rw [if_neg (by omega)])); done) | ((repeat (first | rw [if_pos (by omega)] | rw [if_neg (by omega)])); rfl) | omega), ht_⟩) (fun _ h9 => absurd h9 List.not_mem_nil) dX6_count_99
  · refine xi_tab (k := 6) (tgt := 100) (off := 99) hx hb dX6_count_1 h_1 (by decide) (by decide) (by decide) rfl (by decide) ?_
    refine lv_aload_n hx hb dX6_count_100 rfl (lv_at hl 0 rfl) ?_
    have hPc := hP.sub (ws' := [(qW, .inr (6, [.ref qT, .ref qA, .ref qK, .ref qC, .ref qE, .ref qI, .ref qF, .ref qH, .ref qO, .int (iI (fi))])), (qI, .inl (cyI, 60, .inl (xA (si))))]) [0, 5] rfl
    refine xc_i (va_runV (As := []) (rest := []) ⟨hx, hb, hml, hown, hts⟩ (c_X6_sisterYears l D cyI cyJ cyO qW qT qA qK qC qE qI qF qH qO fi si (by first | exact h_si | assumption | omega)) (cwV 0 hts gX6_count_X6_sisterYears rfl rfl rfl (by decide +kernel) ⟨Nat.le_of_ble_eq_true rfl, Nat.le_of_ble_eq_true rfl⟩) (xpV hPc hK (ci := 6) (q0 := 0) (q := (RX6, TX6, 10)) rfl rfl) rfl rfl hl.1 rfl (lv_room (Nat.le_of_ble_eq_true rfl)) dX6_count_101 ⟨Nat.le_of_ble_eq_true rfl, Nat.le_of_ble_eq_true rfl⟩) ?_
    exact W.iret (v := iI (cntZ (fun j => si j ≠ -1) 60)) hx hb hr (fun t_ ht_ _ => ⟨congrArg (fun z => Outcome.returned (some (Value.int (iI z)))) (show (cntZ (fun j => si j ≠ -1) 60) = (cntV tn wn ex be op ge fs fi (cntZ (fun j => si j ≠ -1) 60) w) from by unfold cntV; first | rfl | ((repeat (first | rw [if_pos (by omega)] | rw [if_neg (by omega)])); done) | ((repeat (first | rw [if_pos (by omega)] | rw [if_neg (by omega)])); rfl) | omega), ht_⟩) (fun _ h9 => absurd h9 List.not_mem_nil) dX6_count_104
  · refine xi_tab (k := 7) (tgt := 105) (off := 104) hx hb dX6_count_1 h_1 (by decide) (by decide) (by decide) rfl (by decide) ?_
    refine lv_aload_n hx hb dX6_count_105 rfl (lv_at hl 0 rfl) ?_
    refine va_get (D := D) (ci := 6) (C := RX6) (T := TX6) (N := 10) hx hb hts hcX6 hown hK hP 0 rfl rfl 6 (by decide) (hts (.fieldLink RX6 61 "WallMarks" "flows" "LWallMarks$Flows;") (List.mem_of_getElem? (i := 10) (by decide +kernel))) (fun _ h9 => h9) rfl dX6_count_106 ?_
    refine va_get (D := D) (ci := 1) (C := RX1) (T := TX1) (N := 6) hx hb hts hcX1 hown hK hP 4 rfl rfl 3 (by decide) (hts (.fieldLink RX6 245 "WallMarks$Flows" "size" "I") (List.mem_of_getElem? (i := 11) (by decide +kernel))) (fun _ h9 => h9) rfl dX6_count_109 ?_
    exact W.iret (v := iI (fs)) hx hb hr (fun t_ ht_ _ => ⟨congrArg (fun z => Outcome.returned (some (Value.int (iI z)))) (show (fs) = (cntV tn wn ex be op ge fs fi (cntZ (fun j => si j ≠ -1) 60) w) from by unfold cntV; first | rfl | ((repeat (first | rw [if_pos (by omega)] | rw [if_neg (by omega)])); done) | ((repeat (first | rw [if_pos (by omega)] | rw [if_neg (by omega)])); rfl) | omega), ht_⟩) (fun _ h9 => absurd h9 List.not_mem_nil) dX6_count_112
  · refine xi_tab (k := 8) (tgt := 113) (off := 112) hx hb dX6_count_1 h_1 (by decide) (by decide) (by decide) rfl (by decide) ?_
    refine lv_aload_n hx hb dX6_count_113 rfl (lv_at hl 0 rfl) ?_
    refine va_get (D := D) (ci := 6) (C := RX6) (T := TX6) (N := 10) hx hb hts hcX6 hown hK hP 0 rfl rfl 9 (by decide) (hts (.fieldLink RX6 76 "WallMarks" "finding" "I") (List.mem_of_getElem? (i := 12) (by decide +kernel))) (fun _ h9 => h9) rfl dX6_count_114 ?_
    exact W.iret (v := iI (fi)) hx hb hr (fun t_ ht_ _ => ⟨congrArg (fun z => Outcome.returned (some (Value.int (iI z)))) (show (fi) = (cntV tn wn ex be op ge fs fi (cntZ (fun j => si j ≠ -1) 60) w) from by unfold cntV; first | rfl | ((repeat (first | rw [if_pos (by omega)] | rw [if_neg (by omega)])); done) | ((repeat (first | rw [if_pos (by omega)] | rw [if_neg (by omega)])); rfl) | omega), ht_⟩) (fun _ h9 => absurd h9 List.not_mem_nil) dX6_count_117
  · refine xi_tabO (tgt := 118) hx hb dX6_count_1 (by omega) h_1 (by decide) ?_
    refine xi_bipush hx hb dX6_count_118 (by decide +kernel) ?_
    exact W.iret (v := iI (-2)) hx hb hr (fun t_ ht_ _ => ⟨congrArg (fun z => Outcome.returned (some (Value.int (iI z)))) (show (-2) = (cntV tn wn ex be op ge fs fi (cntZ (fun j => si j ≠ -1) 60) w) from by unfold cntV; first | rfl | ((repeat (first | rw [if_pos (by omega)] | rw [if_neg (by omega)])); done) | ((repeat (first | rw [if_pos (by omega)] | rw [if_neg (by omega)])); rfl) | omega), ht_⟩) (fun _ h9 => absurd h9 List.not_mem_nil) dX6_count_120
