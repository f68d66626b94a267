/-! numbers: products in bounds, powers, choices, the common divisor, fractions -/
def chz : Nat → Nat → Nat
  | _, 0 => 1
  | 0, _ + 1 => 0
  | n + 1, k + 1 => chz n k + chz n (k + 1)
theorem chz_0 (n : Nat) : chz n 0 = 1 := by cases n <;> rfl
theorem chz_s (n k : Nat) : chz (n + 1) (k + 1) = chz n k + chz n (k + 1) := rfl
theorem chz_le : ∀ n k : Nat, chz n k ≤ 2 ^ n
  | n, 0 => by rw [chz_0]; exact Nat.one_le_two_pow
  | 0, k + 1 => by show 0 ≤ _; omega
  | n + 1, k + 1 => by
    have h1 := chz_le n k
    have h2 := chz_le n (k + 1)
    rw [chz_s, Nat.pow_succ]; omega
theorem chz_pos : ∀ n k : Nat, k ≤ n → 0 < chz n k
  | n, 0, _ => by rw [chz_0]; omega
  | 0, k + 1, h => by omega
  | n + 1, k + 1, h => by
    have h1 := chz_pos n k (by omega)
    rw [chz_s]; omega
theorem chz_abs : ∀ n k : Nat, (k + 1) * chz (n + 1) (k + 1) = (n + 1) * chz n k
  | 0, 0 => by rfl
  | 0, k + 1 => by
    have : chz 1 (k + 2) = 0 := rfl
    rw [this]; show _ = 1 * 0; omega
  | n + 1, 0 => by
    have h := chz_abs n 0
    rw [chz_s (n + 1) 0, chz_0]
    rw [chz_0] at h
    omega
  | n + 1, k + 1 => by
    have h1 := chz_abs n (k + 1)
    have h2 := chz_abs n k
    rw [chz_s (n + 1) (k + 1), Nat.mul_add, h1]
    have e : (k + 1 + 1) * chz (n + 1) (k + 1) = chz (n + 1) (k + 1) + (n + 1) * chz n k := by
      rw [Nat.add_mul (k + 1) 1, h2]; omega
    have e2 : (n + 1 + 1) * chz (n + 1) (k + 1) = chz (n + 1) (k + 1) + (n + 1) * chz (n + 1) (k + 1) := by
      rw [Nat.add_mul (n + 1) 1]; omega
    rw [e, e2, chz_s n k, Nat.mul_add]; omega
theorem chz_sub (n k : Nat) (h : k ≤ n) : (k + 1) * chz n (k + 1) = (n - k) * chz n k := by
  have h1 := chz_abs n k
  rw [chz_s, Nat.mul_add] at h1
  obtain ⟨d, rfl⟩ : ∃ d, n = k + d := ⟨n - k, by omega⟩
  rw [show k + d - k = d from by omega]
  rw [show k + d + 1 = (k + 1) + d from by omega, Nat.add_mul (k + 1) d] at h1
  omega
def chI (n k : Int) : Int := (chz n.toNat k.toNat : Nat)
theorem chI_0 (n : Int) : chI n 0 = 1 := by unfold chI; rw [show (0 : Int).toNat = 0 from rfl, chz_0]; rfl
theorem pow_mono (a b : Nat) (h : a ≤ b) : (2 : Nat) ^ a ≤ 2 ^ b := Nat.pow_le_pow_right (by omega) h
theorem chI_in {n k : Int} (h : n ≤ 40) : 0 ≤ chI n k ∧ chI n k ≤ 1099511627776 := by
  unfold chI
  have h1 := chz_le n.toNat k.toNat
  have h2 := pow_mono n.toNat 40 (by omega)
  rw [show (2 : Nat) ^ 40 = 1099511627776 from by decide] at h2
  omega
theorem chI_pos {n k : Int} (h : 0 ≤ k ∧ k ≤ n) : 0 < chI n k := by
  unfold chI; have := chz_pos n.toNat k.toNat (by omega); omega
theorem chI_abs {n k : Int} (hn : 0 ≤ n) (hk : 0 ≤ k) : (k + 1) * chI (n + 1) (k + 1) = (n + 1) * chI n k := by
  obtain ⟨a, rfl⟩ : ∃ a : Nat, n = a := ⟨n.toNat, by omega⟩
  obtain ⟨b, rfl⟩ : ∃ b : Nat, k = b := ⟨k.toNat, by omega⟩
  unfold chI
  rw [show ((a : Int) + 1).toNat = a + 1 from by omega, show ((b : Int) + 1).toNat = b + 1 from by omega, Int.toNat_natCast, Int.toNat_natCast]
  have := chz_abs a b
  exact_mod_cast this
theorem chI_sub {n k : Int} (hn : k ≤ n) (hk : 0 ≤ k) : (k + 1) * chI n (k + 1) = (n - k) * chI n k := by
  obtain ⟨a, rfl⟩ : ∃ a : Nat, n = a := ⟨n.toNat, by omega⟩
  obtain ⟨b, rfl⟩ : ∃ b : Nat, k = b := ⟨k.toNat, by omega⟩
  unfold chI
  rw [show ((b : Int) + 1).toNat = b + 1 from by omega, Int.toNat_natCast, Int.toNat_natCast]
  have := chz_sub a b (by omega)
  have e : ((a : Int) - (b : Int)) = ((a - b : Nat) : Int) := by omega
  rw [e]
  exact_mod_cast this
theorem tdiv_ex {a b c : Int} (hb : 0 < b) (hc : 0 ≤ c) (h : a = b * c) : a.tdiv b = c := by
  rw [h, Int.tdiv_eq_ediv_of_nonneg (Int.mul_nonneg (by omega) hc), Int.mul_ediv_cancel_left _ (by omega)]
theorem chI_st {n k i : Int} (hk : 0 ≤ k ∧ k ≤ n) (hi : 1 ≤ i ∧ i ≤ k) : (chI (n - k + i - 1) (i - 1) * (n - k + i)).tdiv i = chI (n - k + (i + 1) - 1) (i + 1 - 1) := by
  have h := chI_abs (n := n - k + i - 1) (k := i - 1) (by omega) (by omega)
  rw [show n - k + i - 1 + 1 = n - k + i from by omega, show i - 1 + 1 = i from by omega] at h
  rw [show n - k + (i + 1) - 1 = n - k + i from by omega, show i + 1 - 1 = i from by omega]
  exact tdiv_ex (by omega) (by unfold chI; omega) (by rw [Int.mul_comm]; exact h.symm)
theorem pow_in {b n : Int} (hb : 0 ≤ b ∧ b ≤ 16) (hn : n ≤ 15) : 0 ≤ b ^ n.toNat ∧ b ^ n.toNat ≤ 1152921504606846976 := by
  have key : ∀ k : Nat, 0 ≤ b ^ k ∧ b ^ k ≤ 16 ^ k := by
    intro k
    induction k with
    | zero => simp
    | succ k ih => rw [Int.pow_succ, Int.pow_succ]; exact mul_in ih hb
  have h1 := key n.toNat
  have h2 : (16 : Int) ^ n.toNat ≤ 16 ^ 15 := by
    have h3 : (16 : Nat) ^ n.toNat ≤ 16 ^ 15 := Nat.pow_le_pow_right (by omega) (by omega)
    exact_mod_cast h3
  rw [show (16 : Int) ^ 15 = 1152921504606846976 from by decide] at h2
  omega
theorem pow_s (b : Int) {n : Int} (h : 0 ≤ n) : b ^ (n + 1).toNat = b ^ n.toNat * b := by
  rw [show (n + 1).toNat = n.toNat + 1 from by omega, Int.pow_succ]
def gcdZ (a b : Int) : Int := (Nat.gcd a.toNat b.toNat : Nat)
theorem gcdZ_0 {a : Int} (h : 0 ≤ a) : gcdZ a 0 = a := by
  unfold gcdZ; rw [show (0 : Int).toNat = 0 from rfl, Nat.gcd_zero_right]; omega
theorem gcdZ_s {g l : Int} (hg : 0 ≤ g) (hl : 0 < l) : gcdZ l (g % l) = gcdZ g l := by
  obtain ⟨a, rfl⟩ : ∃ a : Nat, g = a := ⟨g.toNat, by omega⟩
  obtain ⟨b, rfl⟩ : ∃ b : Nat, l = b := ⟨l.toNat, by omega⟩
  unfold gcdZ
  rw [show ((a : Int) % (b : Int)) = ((a % b : Nat) : Int) from by omega, Int.toNat_natCast, Int.toNat_natCast, Int.toNat_natCast]
  rw [Nat.gcd_comm a b, Nat.gcd_rec b a, Nat.gcd_comm b (a % b)]
theorem gcdZ_pos {a b : Int} (hb : 0 < b) : 0 < gcdZ a b := by
  unfold gcdZ
  have := Nat.gcd_pos_of_pos_right a.toNat (show 0 < b.toNat from by omega)
  omega
theorem gcdZ_le {a b : Int} (hb : 0 < b) : gcdZ a b ≤ b := by
  unfold gcdZ
  have := Nat.gcd_le_right a.toNat (show 0 < b.toNat from by omega)
  omega
def euI (i g l : Int) : Prop := i = 0 ∨ (l < g ∧ g * l * 2 ^ i.toNat ≤ 340282366920938463463374607431768211456)
theorem eu_s {i g l : Int} (hi : 0 ≤ i) (hg : 0 ≤ g ∧ g ≤ 4611686018427387904) (hl : 0 < l ∧ l ≤ 4611686018427387904) (h : euI i g l) : euI (i + 1) l (g % l) := by
  have r0 := Int.emod_nonneg g (show l ≠ 0 from by omega)
  have r1 := Int.emod_lt_of_pos g hl.1
  refine Or.inr ⟨r1, ?_⟩
  rw [pow_s 2 hi]
  rcases h with h | ⟨h1, h2⟩
  · subst h
    have := mul_in (a := l) (b := g % l) (A := 4611686018427387904) (B := 4611686018427387904) (by omega) (by omega)
    rw [show (2 : Int) ^ (0 : Int).toNat = 1 from rfl]
    omega
  · have hq : 1 ≤ g / l := by
      have := Int.le_ediv_of_mul_le hl.1 (show 1 * l ≤ g from by omega); exact this
    have hd := Int.mul_ediv_add_emod g l
    have hq2 : l * 1 ≤ l * (g / l) := Int.mul_le_mul_of_nonneg_left hq (by omega)
    have h4 : 2 * (g % l) ≤ g := by omega
    have hp : (0 : Int) ≤ 2 ^ i.toNat := Int.pow_nonneg (by omega)
    have h5 : l * (2 * (g % l)) ≤ l * g := Int.mul_le_mul_of_nonneg_left h4 (by omega)
    have h6 := Int.mul_le_mul_of_nonneg_right h5 hp
    have e1 : l * (g % l) * (2 ^ i.toNat * 2) = l * (2 * (g % l)) * 2 ^ i.toNat := by
      rw [Int.mul_comm (2 ^ i.toNat) 2, ← Int.mul_assoc, Int.mul_assoc l (g % l) 2, Int.mul_comm (g % l) 2]
    rw [e1]
    rw [Int.mul_comm l g] at h6
    omega
theorem eu_e {i g l : Int} (hi : 1000 ≤ i) (hl : 0 ≤ l) (h : euI i g l) : l = 0 := by
  rcases h with h | ⟨h1, h2⟩
  · omega
  · refine Classical.byContradiction fun hn => ?_
    have h3 : 1 * 1 ≤ g * l := Int.mul_le_mul (by omega) (by omega) (by omega) (by omega)
    have h4 : (2 : Int) ^ 200 ≤ 2 ^ i.toNat := by
      have h5 : (2 : Nat) ^ 200 ≤ 2 ^ i.toNat := pow_mono 200 i.toNat (by omega)
      exact_mod_cast h5
    have h6 : 1 * 2 ^ 200 ≤ g * l * 2 ^ i.toNat := Int.mul_le_mul (by omega) h4 (Int.pow_nonneg (by omega)) (by omega)
    have h7 : (340282366920938463463374607431768211456 : Int) < 1 * 2 ^ 200 := by decide
    omega
/-- a fraction in lowest terms, above (0) or below -/
def frac (a b w : Int) : Int := if w = 0 then a.tdiv (gcdZ (zabs a) b) else b.tdiv (gcdZ (zabs a) b)
theorem zabs_in {a M : Int} (h : -M ≤ a ∧ a ≤ M) : 0 ≤ zabs a ∧ zabs a ≤ M := by unfold zabs; split <;> omega
def goS (n a k : Int) : Int := chI n k * a ^ k.toNat * (16 - a) ^ (n - k).toNat
def goF (n a lo hi : Int) : Int := sumZ (fun j => goS n a (lo + j)) (zmin hi (n + 1) - lo)
theorem sumZ_neg (f : Int → Int) {n : Int} (h : n ≤ 0) : sumZ f n = 0 := by
  unfold sumZ foldZ; rw [show n.toNat = 0 from by omega]; rfl
theorem goF_s {n a lo i : Int} (h : lo ≤ i) : sumZ (fun j => goS n a (lo + j)) (i + 1 - lo) = sumZ (fun j => goS n a (lo + j)) (i - lo) + goS n a i := by
  rw [show i + 1 - lo = (i - lo) + 1 from by omega, sumZ_s _ (by omega), show lo + (i - lo) = i from by omega]
theorem goF_e {n a lo hi i : Int} (h : lo ≤ i) (h1 : i = lo ∨ (i ≤ hi ∧ i ≤ n + 1)) (h2 : hi ≤ i ∨ n < i) : sumZ (fun j => goS n a (lo + j)) (i - lo) = goF n a lo hi := by
  unfold goF
  have h3 := zmin_e hi (n + 1)
  rcases h1 with h1 | h1
  · rw [sumZ_neg _ (by omega), sumZ_neg _ (by rcases Int.le_total hi (n + 1) with q | q <;> simp only [h3, q] <;> omega)]
  · rw [show zmin hi (n + 1) = i from by rcases Int.le_total hi (n + 1) with q | q <;> simp only [h3, q] <;> omega]
def stW (n a x : Int) : Prop := (n < 2 ∧ (16 ^ n.toNat - (16 - a) ^ n.toNat) * 16 ≤ x) ∨ (¬ n < 2 ∧ 16 ^ n.toNat - (16 - a) ^ n.toNat ≤ x * 16 ^ (n - 2).toNat)
theorem stW_in {n a x : Int} (hn : 1 ≤ n ∧ n ≤ 15) (ha : 0 ≤ a ∧ a ≤ 16) (hx : 0 ≤ x ∧ x ≤ 256) : (n < 2 → (0 ≤ (16 : Int) ^ n.toNat ∧ (16 : Int) ^ n.toNat ≤ 16 ∧ (16 - a) ^ n.toNat ≤ 16)) ∧ (2 ≤ n → 0 ≤ x * 16 ^ (n - 2).toNat ∧ x * 16 ^ (n - 2).toNat ≤ 1152921504606846976) := by
  refine ⟨fun h => ?_, fun h => ?_⟩
  · have : n = 1 := by omega
    subst this
    rw [show (1 : Int).toNat = 1 from rfl, Int.pow_succ, Int.pow_succ, Int.pow_zero, Int.pow_zero]; omega
  · have h2 : (16 : Int) ^ (n - 2).toNat ≤ 16 ^ 13 := by
      have h3 : (16 : Nat) ^ (n - 2).toNat ≤ 16 ^ 13 := Nat.pow_le_pow_right (by omega) (by omega)
      exact_mod_cast h3
    rw [show (16 : Int) ^ 13 = 4503599627370496 from by decide] at h2
    have h4 : (0 : Int) ≤ 16 ^ (n - 2).toNat := Int.pow_nonneg (by omega)
    have := mul_in (a := x) (b := 16 ^ (n - 2).toNat) (A := 256) (B := 4503599627370496) hx ⟨h4, h2⟩
    omega
noncomputable def lastS (a x : Int) (j m : Int) : Int := @ite _ (stW (j + 1) a x) (Classical.propDecidable _) (j + 1) m
noncomputable def lastF (a x : Int) : Int := foldZ (lastS a x) 15 0
theorem lastS_t {a x i t : Int} (hi : 1 ≤ i) (q : stW i a x) (_ : t = foldZ (lastS a x) (i - 1) 0) : i = foldZ (lastS a x) (i + 1 - 1) 0 := by
  rw [show i + 1 - 1 = (i - 1) + 1 from by omega, foldZ_s _ (by omega)]
  unfold lastS
  rw [show i - 1 + 1 = i from by omega, if_pos q]
theorem lastS_f {a x i t : Int} (hi : 1 ≤ i) (q : ¬ stW i a x) (h : t = foldZ (lastS a x) (i - 1) 0) : t = foldZ (lastS a x) (i + 1 - 1) 0 := by
  rw [show i + 1 - 1 = (i - 1) + 1 from by omega, foldZ_s _ (by omega), ← h]
  unfold lastS
  rw [show i - 1 + 1 = i from by omega, if_neg q]
set_option maxHeartbeats 1000000 in
set_option maxRecDepth 100000 in
theorem c_X6_commonDivisor (l : Launch) (D : va_G) (cyI cyJ cyO : ClassId) (a : Int) (b : Int) (h_a : 0 ≤ a ∧ a ≤ 4611686018427387904) (h_b : 0 ≤ b ∧ b ≤ 4611686018427387904) : Met l yX6_commonDivisor wsX6_commonDivisor ({ frames := 0, cells := 0, slots := 0, locals := 0 }) (va_Pc [.long (lI (a)), .long (lI (b))] (xR D vwCl [] (xT cyI cyJ cyO))) (xq (some (.long (lI (gcdZ a b))))) 0 0 (fun _ => False) := by
  refine Met.ofW (cc := cX6_commonDivisor) (maxL := 11) (ret := (some .long)) (by decide) rfl ?_
  intro p e s m args below meth c s₁ B hml hv
  obtain ⟨rfl, hP, hK⟩ := hv
  have hx := B.exec
  have hb := B.bytes
  have hr := B.returns
  have hts := atoms_spec (ws := wsX6_commonDivisor) B.pre
  have hown : s.vm.findClass RX6 = some m.cls := findClass_of_methodNamed B.named
  have hlocks := B.notSynchronized
  have hP : va_P D vwCl [] s.heap := hP
  have hl := lv_entry ([.long (lI (a)), .long (lI (b))]) (n := 11) (Nat.le_of_ble_eq_true rfl)
  rw [lg_entry_eq]
  generalize (lg_sl ([.long (lI (a)), .long (lI (b))]) ++ List.replicate (11 - (lg_sl ([.long (lI (a)), .long (lI (b))])).length) Slot.unset).toArray = ls at hl ⊢
  have hl : lv_has ls 11 [(0, .long (lI (a))), (2, .long (lI (b)))] := hl
  have cut_9 : ∀ (N_ : Nat) (i : Int) (g : Int) (r : Int) (hi : 0 ≤ i ∧ i ≤ 1000) (hg : 0 ≤ g ∧ g ≤ 4611686018427387904) (hr9 : 0 ≤ r ∧ r ≤ 4611686018427387904) (he : gcdZ g r = gcdZ a b) (hu : euI i g r) (hN_ : (1000 - i).toNat < N_) (ls : Array Slot) (hl : lv_has ls 11 [(4, .long (lI (g))), (6, .long (lI (r))), (8, .int (iI (i)))]), W p l e (headSpec wsX6_commonDivisor ({ frames := 0, cells := 0, slots := 0, locals := 0 })).room s m ([.long (lI (a)), .long (lI (b))] : List Value).toArray below meth c s.heap [] 0 0 (MQ below (xq (some (.long (lI (gcdZ a b))))) ([.long (lI (a)), .long (lI (b))] : List Value).toArray s 0 0 (fun _ => False)) (F0 m 9 ls []) := by
    intro N_
    induction N_ with
    | zero => intro i g r hi hg hr9 he hu hN_ ls hl; exact absurd hN_ (Nat.not_lt_zero _)
    | succ N_ ih_9 =>
      intro i g r hi hg hr9 he hu hN_ ls hl
      refine lv_iload hx hb dX6_commonDivisor_9 (lv_at hl 2 rfl) ?_
      refine xi_sipush hx hb dX6_commonDivisor_11 (by decide +kernel) ?_
      refine xb_icmp_ge (tgt := 45) hx hb dX6_commonDivisor_14 (by decide) (by omega) (fun h_1 => ?_) (fun h_1 => ?_)
      · refine lv_lload hx hb dX6_commonDivisor_45 (lv_at hl 0 rfl) ?_
        exact W.lret (v := lI (g)) hx hb hr (fun t_ ht_ _ => ⟨congrArg (fun z => Outcome.returned (some (Value.long (lI z)))) (show (g) = (gcdZ a b) from by (first | (have h8 := eu_e (by omega) (by omega) hu; rw [← he, h8, gcdZ_0 (by omega)]) | (rw [← he, show r = 0 from by omega, gcdZ_0 (by omega)]))), ht_⟩) (fun _ h9 => absurd h9 List.not_mem_nil) dX6_commonDivisor_47
      · refine lv_lload hx hb dX6_commonDivisor_17 (lv_at hl 1 rfl) ?_
        refine xi_lconst0 hx hb dX6_commonDivisor_19 ?_
        refine xl_if_eq (tgt := 45) hx hb dX6_commonDivisor_20 dX6_commonDivisor_21 (by decide) (by omega) (fun h_2 => ?_) (fun h_2 => ?_)
        · refine lv_lload hx hb dX6_commonDivisor_45 (lv_at hl 0 rfl) ?_
          exact W.lret (v := lI (g)) hx hb hr (fun t_ ht_ _ => ⟨congrArg (fun z => Outcome.returned (some (Value.long (lI z)))) (show (g) = (gcdZ a b) from by (first | (have h8 := eu_e (by omega) (by omega) hu; rw [← he, h8, gcdZ_0 (by omega)]) | (rw [← he, show r = 0 from by omega, gcdZ_0 (by omega)]))), ht_⟩) (fun _ h9 => absurd h9 List.not_mem_nil) dX6_commonDivisor_47
        · refine lv_lload hx hb dX6_commonDivisor_24 (lv_at hl 0 rfl) ?_
          refine lv_lload hx hb dX6_commonDivisor_26 (lv_at hl 1 rfl) ?_
          have hm1 := Int.emod_nonneg (g) (show (r) ≠ 0 from by omega)
          have hm2 := Int.emod_lt_of_pos (g) (show 0 < (r) from by omega)
          refine xl_rem hx hb dX6_commonDivisor_28 (by omega) ?_
          refine lv_lstore (lv' := [(9, .long (lI (g % r))), (4, .long (lI (g))), (6, .long (lI (r))), (8, .int (iI (i)))]) hx hb dX6_commonDivisor_29 hl (by decide) rfl (fun ls hl => ?_)
          refine lv_lload hx hb dX6_commonDivisor_31 (lv_at hl 2 rfl) ?_
          refine lv_lstore (lv' := [(4, .long (lI (r))), (9, .long (lI (g % r))), (6, .long (lI (r))), (8, .int (iI (i)))]) hx hb dX6_commonDivisor_33 hl (by decide) rfl (fun ls hl => ?_)
          refine lv_lload hx hb dX6_commonDivisor_35 (lv_at hl 1 rfl) ?_
          refine lv_lstore (lv' := [(6, .long (lI (g % r))), (4, .long (lI (r))), (9, .long (lI (g % r))), (8, .int (iI (i)))]) hx hb dX6_commonDivisor_37 hl (by decide) rfl (fun ls hl => ?_)
          refine xi_inc (k := 3) (lv' := [(8, .int (iI (i + 1))), (6, .long (lI (g % r))), (4, .long (lI (r))), (9, .long (lI (g % r)))]) hx hb dX6_commonDivisor_39 hl rfl (by decide) rfl (fun ls hl => ?_)
          refine lv_goto (tgt := 9) hx hb dX6_commonDivisor_42 (by decide) ?_
          exact ih_9 (i + 1) (r) (g % r) (by first | assumption | omega | (constructor <;> omega)) (by first | assumption | omega | (constructor <;> omega)) (by first | assumption | omega | (constructor <;> omega)) (by first | rfl | (rw [gcdZ_s (by omega) (by omega)]; exact he)) (by first | exact Or.inl rfl | exact eu_s (by omega) (by omega) (by omega) hu) (by omega) ls (lv_sub hl [2, 1, 0] rfl)
  refine lv_lload_n hx hb dX6_commonDivisor_0 rfl (lv_at hl 0 rfl) ?_
  refine lv_lstore (lv' := [(4, .long (lI (a))), (0, .long (lI (a))), (2, .long (lI (b)))]) hx hb dX6_commonDivisor_1 hl (by decide) rfl (fun ls hl => ?_)
  refine lv_lload_n hx hb dX6_commonDivisor_3 rfl (lv_at hl 2 rfl) ?_
  refine lv_lstore (lv' := [(6, .long (lI (b))), (4, .long (lI (a))), (0, .long (lI (a))), (2, .long (lI (b)))]) hx hb dX6_commonDivisor_4 hl (by decide) rfl (fun ls hl => ?_)
  refine xi_const hx hb dX6_commonDivisor_6 ?_
  refine lv_istore (lv' := [(8, .int (iI (0))), (6, .long (lI (b))), (4, .long (lI (a))), (0, .long (lI (a))), (2, .long (lI (b)))]) hx hb dX6_commonDivisor_7 hl (by decide) rfl (fun ls hl => ?_)
  exact cut_9 ((1000 - 0 : Int).toNat + 1) (0) (a) (b) (by first | assumption | omega | (constructor <;> omega)) (by first | assumption | omega | (constructor <;> omega)) (by first | assumption | omega | (constructor <;> omega)) (by first | rfl | (rw [gcdZ_s (by omega) (by omega)]; exact he)) (by first | exact Or.inl rfl | exact eu_s (by omega) (by omega) (by omega) hu) (by exact Nat.lt_succ_self _) ls (lv_sub hl [2, 1, 0] rfl)
set_option maxHeartbeats 1000000 in
set_option maxRecDepth 100000 in
theorem c_X6_fraction (l : Launch) (D : va_G) (cyI cyJ cyO : ClassId) (a : Int) (b : Int) (w : Int) (h_a : -4611686018427387904 ≤ a ∧ a ≤ 4611686018427387904) (h_b : 0 < b ∧ b ≤ 4611686018427387904) (h_w : w = 0 ∨ w = 1) : Met l yX6_fraction wsX6_fraction ({ frames := 1, cells := 0, slots := 0, locals := 30 }) (va_Pc [.long (lI (a)), .long (lI (b)), .int (iI (w))] (xR D vwCl [] (xT cyI cyJ cyO))) (xq (some (.long (lI (frac a b w))))) 0 0 (fun _ => False) := by
  refine Met.ofW (cc := cX6_fraction) (maxL := 7) (ret := (some .long)) (by decide) rfl ?_
  intro p e s m args below meth c s₁ B hml hv
  obtain ⟨rfl, hP, hK⟩ := hv
  have hx := B.exec
  have hb := B.bytes
  have hr := B.returns
  have hts := atoms_spec (ws := wsX6_fraction) B.pre
  have hown : s.vm.findClass RX6 = some m.cls := findClass_of_methodNamed B.named
  have hlocks := B.notSynchronized
  have hP : va_P D vwCl [] s.heap := hP
  have hl := lv_entry ([.long (lI (a)), .long (lI (b)), .int (iI (w))]) (n := 7) (Nat.le_of_ble_eq_true rfl)
  rw [lg_entry_eq]
  generalize (lg_sl ([.long (lI (a)), .long (lI (b)), .int (iI (w))]) ++ List.replicate (7 - (lg_sl ([.long (lI (a)), .long (lI (b)), .int (iI (w))])).length) Slot.unset).toArray = ls at hl ⊢
  have hl : lv_has ls 7 [(0, .long (lI (a))), (2, .long (lI (b))), (4, .int (iI (w)))] := hl
  refine lv_lload_n hx hb dX6_fraction_0 rfl (lv_at hl 0 rfl) ?_
  refine xm_abs_long hx hb (hml.trans hl.1.symm) hown (hts (.methodLink RX6 390 Lib.MathLoose.abs_long.x) (List.mem_of_getElem? (i := 1) (by decide +kernel))) (hts (.static Lib.MathLoose.abs_long.x) (List.mem_of_getElem? (i := 2) (by decide +kernel))) (hts (.initialized "java/lang/Math") (List.mem_of_getElem? (i := 3) (by decide +kernel))) (hts (.code Lib.MathLoose.abs_long.x Lib.MathLoose.abs_long.code 2 (some .long)) (List.mem_of_getElem? (i := 4) (by decide +kernel))) (Nat.le_of_ble_eq_true rfl) (Nat.le_of_ble_eq_true rfl) (Nat.le_of_ble_eq_true rfl) (Nat.le_of_ble_eq_true rfl) dX6_fraction_1 (by omega) ?_
  have hz := zabs_in (a := a) (M := 4611686018427387904) (by omega)
  refine lv_lload_n hx hb dX6_fraction_4 rfl (lv_at hl 1 rfl) ?_
  have hPc := hP.sub (ws' := []) [] rfl
  refine xc_l (va_runS (As := [.long (lI (zabs (a))), .long (lI (b))]) (rest := []) ⟨hx, hb, hml, hown, hts⟩ (c_X6_commonDivisor l D cyI cyJ cyO (zabs (a)) b (by first | exact h_a | assumption | omega) (by first | exact h_b | assumption | omega)) (va_cwS 2 hts gX6_fraction_X6_commonDivisor rfl rfl rfl (by decide +kernel) ⟨Nat.le_of_ble_eq_true rfl, Nat.le_of_ble_eq_true rfl⟩) (xpS hPc hK) rfl rfl hl.1 rfl (lv_room (Nat.le_of_ble_eq_true rfl)) dX6_fraction_5 ⟨Nat.le_of_ble_eq_true rfl, Nat.le_of_ble_eq_true rfl⟩) ?_
  have hg1 := gcdZ_pos (a := zabs a) (b := b) (by omega)
  have hg2 := gcdZ_le (a := zabs a) (b := b) (by omega)
  refine lv_lstore (lv' := [(5, .long (lI (gcdZ (zabs (a)) b))), (0, .long (lI (a))), (2, .long (lI (b))), (4, .int (iI (w)))]) hx hb dX6_fraction_8 hl (by decide) rfl (fun ls hl => ?_)
  refine lv_lload hx hb dX6_fraction_10 (lv_at hl 0 rfl) ?_
  refine xi_lconst0 hx hb dX6_fraction_12 ?_
  refine xl_if_ne (tgt := 21) hx hb dX6_fraction_13 dX6_fraction_14 (by decide) (by omega) (fun h_1 => ?_) (fun h_1 => by exfalso; have := gcdZ_pos (a := zabs a) (b := b) (by omega); omega)
  refine lv_iload hx hb dX6_fraction_21 (lv_at hl 3 rfl) ?_
  refine xb_if_ne (tgt := 33) hx hb dX6_fraction_23 (by decide) (by omega) (fun h_2 => ?_) (fun h_2 => ?_)
  · refine lv_lload_n hx hb dX6_fraction_33 rfl (lv_at hl 2 rfl) ?_
    refine lv_lload hx hb dX6_fraction_34 (lv_at hl 0 rfl) ?_
    refine xl_div hx hb dX6_fraction_36 (by omega) ?_
    exact W.lret (v := lI ((b).tdiv (gcdZ (zabs (a)) b))) hx hb hr (fun t_ ht_ _ => ⟨congrArg (fun z => Outcome.returned (some (Value.long (lI z)))) (show ((b).tdiv (gcdZ (zabs (a)) b)) = (frac a b w) from by unfold frac; first | rw [if_pos (by omega)] | rw [if_neg (by omega)]), ht_⟩) (fun _ h9 => absurd h9 List.not_mem_nil) dX6_fraction_37
  · refine lv_lload_n hx hb dX6_fraction_26 rfl (lv_at hl 1 rfl) ?_
    refine lv_lload hx hb dX6_fraction_27 (lv_at hl 0 rfl) ?_
    refine xl_div hx hb dX6_fraction_29 (by omega) ?_
    refine lv_goto (tgt := 37) hx hb dX6_fraction_30 (by decide) ?_
    exact W.lret (v := lI ((a).tdiv (gcdZ (zabs (a)) b))) hx hb hr (fun t_ ht_ _ => ⟨congrArg (fun z => Outcome.returned (some (Value.long (lI z)))) (show ((a).tdiv (gcdZ (zabs (a)) b)) = (frac a b w) from by unfold frac; first | rw [if_pos (by omega)] | rw [if_neg (by omega)]), ht_⟩) (fun _ h9 => absurd h9 List.not_mem_nil) dX6_fraction_37
set_option maxHeartbeats 1000000 in
set_option maxRecDepth 100000 in
theorem c_X6_power (l : Launch) (D : va_G) (cyI cyJ cyO : ClassId) (b : Int) (w : Int) (h_w : 0 ≤ w ∧ w ≤ 1000) : Met l yX6_power wsX6_power ({ frames := 0, cells := 0, slots := 0, locals := 0 }) (va_Pc [.long (lI (b)), .int (iI (w))] (xR D vwCl [] (xT cyI cyJ cyO))) (xq (some (.long (lI (b ^ w.toNat))))) 0 0 (fun _ => False) := by
  refine Met.ofW (cc := cX6_power) (maxL := 6) (ret := (some .long)) (by decide) rfl ?_
  intro p e s m args below meth c s₁ B hml hv
  obtain ⟨rfl, hP, hK⟩ := hv
  have hx := B.exec
  have hb := B.bytes
  have hr := B.returns
  have hts := atoms_spec (ws := wsX6_power) B.pre
  have hown : s.vm.findClass RX6 = some m.cls := findClass_of_methodNamed B.named
  have hlocks := B.notSynchronized
  have hP : va_P D vwCl [] s.heap := hP
  have hl := lv_entry ([.long (lI (b)), .int (iI (w))]) (n := 6) (Nat.le_of_ble_eq_true rfl)
  rw [lg_entry_eq]
  generalize (lg_sl ([.long (lI (b)), .int (iI (w))]) ++ List.replicate (6 - (lg_sl ([.long (lI (b)), .int (iI (w))])).length) Slot.unset).toArray = ls at hl ⊢
  have hl : lv_has ls 6 [(0, .long (lI (b))), (2, .int (iI (w)))] := hl
  have cut_5 : ∀ (N_ : Nat) (i : Int) (a : Int) (hi : 0 ≤ i ∧ i ≤ w) (ha : a = b ^ i.toNat) (hN_ : (w - i).toNat < N_) (ls : Array Slot) (hl : lv_has ls 6 [(0, .long (lI (b))), (2, .int (iI (w))), (3, .long (lI (a))), (5, .int (iI (i)))]), W p l e (headSpec wsX6_power ({ frames := 0, cells := 0, slots := 0, locals := 0 })).room s m ([.long (lI (b)), .int (iI (w))] : List Value).toArray below meth c s.heap [] 0 0 (MQ below (xq (some (.long (lI (b ^ w.toNat))))) ([.long (lI (b)), .int (iI (w))] : List Value).toArray s 0 0 (fun _ => False)) (F0 m 5 ls []) := by
    intro N_
    induction N_ with
    | zero => intro i a hi ha hN_ ls hl; exact absurd hN_ (Nat.not_lt_zero _)
    | succ N_ ih_5 =>
      intro i a hi ha hN_ ls hl
      refine lv_iload hx hb dX6_power_5 (lv_at hl 3 rfl) ?_
      refine lv_iload_n hx hb dX6_power_7 rfl (lv_at hl 1 rfl) ?_
      refine xb_icmp_ge (tgt := 21) hx hb dX6_power_8 (by decide) (by omega) (fun h_1 => ?_) (fun h_1 => ?_)
      · refine lv_lload_n hx hb dX6_power_21 rfl (lv_at hl 2 rfl) ?_
        exact W.lret (v := lI (a)) hx hb hr (fun t_ ht_ _ => ⟨congrArg (fun z => Outcome.returned (some (Value.long (lI z)))) (show (a) = (b ^ w.toNat) from by rw [ha, show i = w from by omega]), ht_⟩) (fun _ h9 => absurd h9 List.not_mem_nil) dX6_power_22
      · refine lv_lload_n hx hb dX6_power_11 rfl (lv_at hl 2 rfl) ?_
        refine lv_lload_n hx hb dX6_power_12 rfl (lv_at hl 0 rfl) ?_
        refine xl_mul hx hb dX6_power_13 ?_
        refine lv_lstore_n (lv' := [(3, .long (lI (a * b))), (0, .long (lI (b))), (2, .int (iI (w))), (5, .int (iI (i)))]) hx hb dX6_power_14 rfl hl (by decide) rfl (fun ls hl => ?_)
        refine xi_inc (k := 3) (lv' := [(5, .int (iI (i + 1))), (3, .long (lI (a * b))), (0, .long (lI (b))), (2, .int (iI (w)))]) hx hb dX6_power_15 hl rfl (by decide) rfl (fun ls hl => ?_)
        refine lv_goto (tgt := 5) hx hb dX6_power_18 (by decide) ?_
        exact ih_5 (i + 1) (a * b) (by first | assumption | omega | (constructor <;> omega)) (by first | exact (Int.pow_zero _).symm | (rw [pow_s _ (by omega), ha])) (by omega) ls (lv_sub hl [2, 3, 1, 0] rfl)
  refine xi_lconst1 hx hb dX6_power_0 ?_
  refine lv_lstore_n (lv' := [(3, .long (lI (1))), (0, .long (lI (b))), (2, .int (iI (w)))]) hx hb dX6_power_1 rfl hl (by decide) rfl (fun ls hl => ?_)
  refine xi_const hx hb dX6_power_2 ?_
  refine lv_istore (lv' := [(5, .int (iI (0))), (3, .long (lI (1))), (0, .long (lI (b))), (2, .int (iI (w)))]) hx hb dX6_power_3 hl (by decide) rfl (fun ls hl => ?_)
  exact cut_5 ((w - 0 : Int).toNat + 1) (0) (1) (by first | assumption | omega | (constructor <;> omega)) (by first | exact (Int.pow_zero _).symm | (rw [pow_s _ (by omega), ha])) (by exact Nat.lt_succ_self _) ls (lv_sub hl [2, 3, 1, 0] rfl)
set_option maxHeartbeats 1000000 in
set_option maxRecDepth 100000 in
theorem c_X6_choices (l : Launch) (D : va_G) (cyI cyJ cyO : ClassId) (n : Int) (k : Int) (h_k : 0 ≤ k ∧ k ≤ n) (h_n : n ≤ 40) : Met l yX6_choices wsX6_choices ({ frames := 0, cells := 0, slots := 0, locals := 0 }) (va_Pc [.int (iI (n)), .int (iI (k))] (xR D vwCl [] (xT cyI cyJ cyO))) (xq (some (.long (lI (chI n k))))) 0 0 (fun _ => False) := by
  refine Met.ofW (cc := cX6_choices) (maxL := 5) (ret := (some .long)) (by decide) rfl ?_
  intro p e s m args below meth c s₁ B hml hv
  obtain ⟨rfl, hP, hK⟩ := hv
  have hx := B.exec
  have hb := B.bytes
  have hr := B.returns
  have hts := atoms_spec (ws := wsX6_choices) B.pre
  have hown : s.vm.findClass RX6 = some m.cls := findClass_of_methodNamed B.named
  have hlocks := B.notSynchronized
  have hP : va_P D vwCl [] s.heap := hP
  have hl := lv_entry ([.int (iI (n)), .int (iI (k))]) (n := 5) (Nat.le_of_ble_eq_true rfl)
  rw [lg_entry_eq]
  generalize (lg_sl ([.int (iI (n)), .int (iI (k))]) ++ List.replicate (5 - (lg_sl ([.int (iI (n)), .int (iI (k))])).length) Slot.unset).toArray = ls at hl ⊢
  have hl : lv_has ls 5 [(0, .int (iI (n))), (1, .int (iI (k)))] := hl
  have cut_5 : ∀ (N_ : Nat) (i : Int) (a : Int) (hi : 1 ≤ i ∧ i ≤ k + 1) (ha : a = chI (n - k + i - 1) (i - 1)) (hN_ : (k + 1 - i).toNat < N_) (ls : Array Slot) (hl : lv_has ls 5 [(0, .int (iI (n))), (1, .int (iI (k))), (2, .long (lI (a))), (4, .int (iI (i)))]), W p l e (headSpec wsX6_choices ({ frames := 0, cells := 0, slots := 0, locals := 0 })).room s m ([.int (iI (n)), .int (iI (k))] : List Value).toArray below meth c s.heap [] 0 0 (MQ below (xq (some (.long (lI (chI n k))))) ([.int (iI (n)), .int (iI (k))] : List Value).toArray s 0 0 (fun _ => False)) (F0 m 5 ls []) := by
    intro N_
    induction N_ with
    | zero => intro i a hi ha hN_ ls hl; exact absurd hN_ (Nat.not_lt_zero _)
    | succ N_ ih_5 =>
      intro i a hi ha hN_ ls hl
      have hin := chI_in (n := n - k + i - 1) (k := i - 1) (by omega)
      have hm := mul_in (a := a) (b := n - k + i) (A := 1099511627776) (B := 40)
      refine lv_iload hx hb dX6_choices_5 (lv_at hl 3 rfl) ?_
      refine lv_iload_n hx hb dX6_choices_7 rfl (lv_at hl 1 rfl) ?_
      refine xb_icmp_gt (tgt := 31) hx hb dX6_choices_8 (by decide) (by omega) (fun h_1 => ?_) (fun h_1 => ?_)
      · refine lv_lload_n hx hb dX6_choices_31 rfl (lv_at hl 2 rfl) ?_
        exact W.lret (v := lI (a)) hx hb hr (fun t_ ht_ _ => ⟨congrArg (fun z => Outcome.returned (some (Value.long (lI z)))) (show (a) = (chI n k) from by rw [ha, show i = k + 1 from by omega, show n - k + (k + 1) - 1 = n from by omega, show k + 1 - 1 = k from by omega]), ht_⟩) (fun _ h9 => absurd h9 List.not_mem_nil) dX6_choices_32
      · refine lv_lload_n hx hb dX6_choices_11 rfl (lv_at hl 2 rfl) ?_
        refine lv_iload_n hx hb dX6_choices_12 rfl (lv_at hl 0 rfl) ?_
        refine lv_iload_n hx hb dX6_choices_13 rfl (lv_at hl 1 rfl) ?_
        refine xi_sub hx hb dX6_choices_14 ?_
        refine lv_iload hx hb dX6_choices_15 (lv_at hl 3 rfl) ?_
        refine xi_add hx hb dX6_choices_17 ?_
        refine xi_i2l hx hb dX6_choices_18 (by omega) ?_
        refine xl_mul hx hb dX6_choices_19 ?_
        refine lv_iload hx hb dX6_choices_20 (lv_at hl 3 rfl) ?_
        refine xi_i2l hx hb dX6_choices_22 (by omega) ?_
        have hm2 := hm (by omega) (by omega)
        refine xl_div hx hb dX6_choices_23 (by omega) ?_
        refine lv_lstore_n (lv' := [(2, .long (lI ((a * ((n - k) + i)).tdiv (i)))), (0, .int (iI (n))), (1, .int (iI (k))), (4, .int (iI (i)))]) hx hb dX6_choices_24 rfl hl (by decide) rfl (fun ls hl => ?_)
        refine xi_inc (k := 3) (lv' := [(4, .int (iI (i + 1))), (2, .long (lI ((a * ((n - k) + i)).tdiv (i)))), (0, .int (iI (n))), (1, .int (iI (k)))]) hx hb dX6_choices_25 hl rfl (by decide) rfl (fun ls hl => ?_)
        refine lv_goto (tgt := 5) hx hb dX6_choices_28 (by decide) ?_
        exact ih_5 (i + 1) ((a * ((n - k) + i)).tdiv (i)) (by first | assumption | omega | (constructor <;> omega)) (by first | (rw [ha]; exact chI_st (by omega) (by omega)) | (rw [show (1 : Int) - 1 = 0 from rfl, chI_0])) (by omega) ls (lv_sub hl [2, 3, 1, 0] rfl)
  refine xi_lconst1 hx hb dX6_choices_0 ?_
  refine lv_lstore_n (lv' := [(2, .long (lI (1))), (0, .int (iI (n))), (1, .int (iI (k)))]) hx hb dX6_choices_1 rfl hl (by decide) rfl (fun ls hl => ?_)
  refine xi_const hx hb dX6_choices_2 ?_
  refine lv_istore (lv' := [(4, .int (iI (1))), (2, .long (lI (1))), (0, .int (iI (n))), (1, .int (iI (k)))]) hx hb dX6_choices_3 hl (by decide) rfl (fun ls hl => ?_)
  exact cut_5 ((k + 1 - 1 : Int).toNat + 1) (1) (1) (by first | assumption | omega | (constructor <;> omega)) (by first | (rw [ha]; exact chI_st (by omega) (by omega)) | (rw [show (1 : Int) - 1 = 0 from rfl, chI_0])) (by exact Nat.lt_succ_self _) ls (lv_sub hl [2, 3, 1, 0] rfl)
set_option maxHeartbeats 1000000 in
set_option maxRecDepth 100000 in
theorem c_X6_timesOver (l : Launch) (D : va_G) (cyI cyJ cyO : ClassId) (n : Int) (a : Int) (lo : Int) (hi : Int) (h_n : 0 ≤ n ∧ n ≤ 15) (h_a : 0 ≤ a ∧ a ≤ 16) (h_lo : 0 ≤ lo ∧ lo ≤ 60) (h_hi : 0 ≤ hi ∧ hi ≤ 60) : Met l yX6_timesOver wsX6_timesOver ({ frames := 1, cells := 0, slots := 0, locals := 25 }) (va_Pc [.int (iI (n)), .int (iI (a)), .int (iI (lo)), .int (iI (hi))] (xR D vwCl [] (xT cyI cyJ cyO))) (xq (some (.long (lI (goF n a lo hi))))) 0 0 (fun _ => False) := by
  refine Met.ofW (cc := cX6_timesOver) (maxL := 7) (ret := (some .long)) (by decide) rfl ?_
  intro p e s m args below meth c s₁ B hml hv
  obtain ⟨rfl, hP, hK⟩ := hv
  have hx := B.exec
  have hb := B.bytes
  have hr := B.returns
  have hts := atoms_spec (ws := wsX6_timesOver) B.pre
  have hown : s.vm.findClass RX6 = some m.cls := findClass_of_methodNamed B.named
  have hlocks := B.notSynchronized
  have hP : va_P D vwCl [] s.heap := hP
  have hl := lv_entry ([.int (iI (n)), .int (iI (a)), .int (iI (lo)), .int (iI (hi))]) (n := 7) (Nat.le_of_ble_eq_true rfl)
  rw [lg_entry_eq]
  generalize (lg_sl ([.int (iI (n)), .int (iI (a)), .int (iI (lo)), .int (iI (hi))]) ++ List.replicate (7 - (lg_sl ([.int (iI (n)), .int (iI (a)), .int (iI (lo)), .int (iI (hi))])).length) Slot.unset).toArray = ls at hl ⊢
  have hl : lv_has ls 7 [(0, .int (iI (n))), (1, .int (iI (a))), (2, .int (iI (lo))), (3, .int (iI (hi)))] := hl
  have cut_6 : ∀ (N_ : Nat) (i : Int) (t : Int) (h7 : lo ≤ i ∧ i ≤ 61) (h8 : i = lo ∨ (i ≤ hi ∧ i ≤ n + 1)) (ht9 : t = sumZ (fun j => goS n a (lo + j)) (i - lo)) (hN_ : (61 - i).toNat < N_) (ls : Array Slot) (hl : lv_has ls 7 [(0, .int (iI (n))), (1, .int (iI (a))), (2, .int (iI (lo))), (3, .int (iI (hi))), (4, .long (lI (t))), (6, .int (iI (i)))]), W p l e (headSpec wsX6_timesOver ({ frames := 1, cells := 0, slots := 0, locals := 25 })).room s m ([.int (iI (n)), .int (iI (a)), .int (iI (lo)), .int (iI (hi))] : List Value).toArray below meth c s.heap [] 0 0 (MQ below (xq (some (.long (lI (goF n a lo hi))))) ([.int (iI (n)), .int (iI (a)), .int (iI (lo)), .int (iI (hi))] : List Value).toArray s 0 0 (fun _ => False)) (F0 m 6 ls []) := by
    intro N_
    induction N_ with
    | zero => intro i t h7 h8 ht9 hN_ ls hl; exact absurd hN_ (Nat.not_lt_zero _)
    | succ N_ ih_6 =>
      intro i t h7 h8 ht9 hN_ ls hl
      refine lv_iload hx hb dX6_timesOver_6 (lv_at hl 5 rfl) ?_
      refine lv_iload_n hx hb dX6_timesOver_8 rfl (lv_at hl 3 rfl) ?_
      refine xb_icmp_ge (tgt := 56) hx hb dX6_timesOver_9 (by decide) (by omega) (fun h_1 => ?_) (fun h_1 => ?_)
      · refine lv_lload hx hb dX6_timesOver_56 (lv_at hl 4 rfl) ?_
        exact W.lret (v := lI (t)) hx hb hr (fun t_ ht_ _ => ⟨congrArg (fun z => Outcome.returned (some (Value.long (lI z)))) (show (t) = (goF n a lo hi) from by rw [ht9]; exact goF_e (by omega) (by omega) (by omega)), ht_⟩) (fun _ h9 => absurd h9 List.not_mem_nil) dX6_timesOver_58
      · refine lv_iload hx hb dX6_timesOver_12 (lv_at hl 5 rfl) ?_
        refine lv_iload_n hx hb dX6_timesOver_14 rfl (lv_at hl 0 rfl) ?_
        refine xb_icmp_gt (tgt := 56) hx hb dX6_timesOver_15 (by decide) (by omega) (fun h_2 => ?_) (fun h_2 => ?_)
        · refine lv_lload hx hb dX6_timesOver_56 (lv_at hl 4 rfl) ?_
          exact W.lret (v := lI (t)) hx hb hr (fun t_ ht_ _ => ⟨congrArg (fun z => Outcome.returned (some (Value.long (lI z)))) (show (t) = (goF n a lo hi) from by rw [ht9]; exact goF_e (by omega) (by omega) (by omega)), ht_⟩) (fun _ h9 => absurd h9 List.not_mem_nil) dX6_timesOver_58
        · refine lv_lload hx hb dX6_timesOver_18 (lv_at hl 4 rfl) ?_
          refine lv_iload_n hx hb dX6_timesOver_20 rfl (lv_at hl 0 rfl) ?_
          refine lv_iload hx hb dX6_timesOver_21 (lv_at hl 5 rfl) ?_
          have hf_3 := chI_in (n := n) (k := i) (by omega)
          have hf_4 := chI_pos (n := n) (k := i) (by omega)
          have hPc := hP.sub (ws' := []) [] rfl
          refine xc_l (va_runS (As := [.int (iI (n)), .int (iI (i))]) (rest := [.long (lI (t))]) ⟨hx, hb, hml, hown, hts⟩ (c_X6_choices l D cyI cyJ cyO n i (by first | exact h_k | assumption | omega) (by first | exact h_n | assumption | omega)) (va_cwS 2 hts gX6_timesOver_X6_choices rfl rfl rfl (by decide +kernel) ⟨Nat.le_of_ble_eq_true rfl, Nat.le_of_ble_eq_true rfl⟩) (xpS hPc hK) rfl rfl hl.1 rfl (lv_room (Nat.le_of_ble_eq_true rfl)) dX6_timesOver_23 ⟨Nat.le_of_ble_eq_true rfl, Nat.le_of_ble_eq_true rfl⟩) ?_
          refine lv_iload_n hx hb dX6_timesOver_26 rfl (lv_at hl 1 rfl) ?_
          refine xi_i2l hx hb dX6_timesOver_27 (by omega) ?_
          refine lv_iload hx hb dX6_timesOver_28 (lv_at hl 5 rfl) ?_
          have hPc := hP.sub (ws' := []) [] rfl
          refine xc_l (va_runS (As := [.long (lI (a)), .int (iI (i))]) (rest := [.long (lI (chI n i)), .long (lI (t))]) ⟨hx, hb, hml, hown, hts⟩ (c_X6_power l D cyI cyJ cyO a i (by first | exact h_w | assumption | omega)) (va_cwS 2 hts gX6_timesOver_X6_power rfl rfl rfl (by decide +kernel) ⟨Nat.le_of_ble_eq_true rfl, Nat.le_of_ble_eq_true rfl⟩) (xpS hPc hK) rfl rfl hl.1 rfl (lv_room (Nat.le_of_ble_eq_true rfl)) dX6_timesOver_30 ⟨Nat.le_of_ble_eq_true rfl, Nat.le_of_ble_eq_true rfl⟩) ?_
          refine xl_mul hx hb dX6_timesOver_33 ?_
          refine xi_bipush hx hb dX6_timesOver_34 (by decide +kernel) ?_
          refine lv_iload_n hx hb dX6_timesOver_36 rfl (lv_at hl 1 rfl) ?_
          refine xi_sub hx hb dX6_timesOver_37 ?_
          refine xi_i2l hx hb dX6_timesOver_38 (by omega) ?_
          refine lv_iload_n hx hb dX6_timesOver_39 rfl (lv_at hl 0 rfl) ?_
          refine lv_iload hx hb dX6_timesOver_40 (lv_at hl 5 rfl) ?_
          refine xi_sub hx hb dX6_timesOver_42 ?_
          have hPc := hP.sub (ws' := []) [] rfl
          refine xc_l (va_runS (As := [.long (lI (16 - a)), .int (iI (n - i))]) (rest := [.long (lI ((chI n i) * (a ^ i.toNat))), .long (lI (t))]) ⟨hx, hb, hml, hown, hts⟩ (c_X6_power l D cyI cyJ cyO (16 - a) (n - i) (by first | exact h_w | assumption | omega)) (va_cwS 2 hts gX6_timesOver_X6_power rfl rfl rfl (by decide +kernel) ⟨Nat.le_of_ble_eq_true rfl, Nat.le_of_ble_eq_true rfl⟩) (xpS hPc hK) rfl rfl hl.1 rfl (lv_room (Nat.le_of_ble_eq_true rfl)) dX6_timesOver_43 ⟨Nat.le_of_ble_eq_true rfl, Nat.le_of_ble_eq_true rfl⟩) ?_
          refine xl_mul hx hb dX6_timesOver_46 ?_
          refine xl_add hx hb dX6_timesOver_47 ?_
          refine lv_lstore (lv' := [(4, .long (lI (t + (((chI n i) * (a ^ i.toNat)) * ((16 - a) ^ (n - i).toNat))))), (0, .int (iI (n))), (1, .int (iI (a))), (2, .int (iI (lo))), (3, .int (iI (hi))), (6, .int (iI (i)))]) hx hb dX6_timesOver_48 hl (by decide) rfl (fun ls hl => ?_)
          refine xi_inc (k := 5) (lv' := [(6, .int (iI (i + 1))), (4, .long (lI (t + (((chI n i) * (a ^ i.toNat)) * ((16 - a) ^ (n - i).toNat))))), (0, .int (iI (n))), (1, .int (iI (a))), (2, .int (iI (lo))), (3, .int (iI (hi)))]) hx hb dX6_timesOver_50 hl rfl (by decide) rfl (fun ls hl => ?_)
          refine lv_goto (tgt := 6) hx hb dX6_timesOver_53 (by decide) ?_
          exact ih_6 (i + 1) (t + (((chI n i) * (a ^ i.toNat)) * ((16 - a) ^ (n - i).toNat))) (by first | assumption | omega | (constructor <;> omega)) (by first | assumption | omega | (constructor <;> omega)) (by first | (rw [goF_s (by omega), ht9]; rfl) | (rw [show lo - lo = 0 from by omega]; rfl)) (by omega) ls (lv_sub hl [2, 3, 4, 5, 1, 0] rfl)
  refine xi_lconst0 hx hb dX6_timesOver_0 ?_
  refine lv_lstore (lv' := [(4, .long (lI (0))), (0, .int (iI (n))), (1, .int (iI (a))), (2, .int (iI (lo))), (3, .int (iI (hi)))]) hx hb dX6_timesOver_1 hl (by decide) rfl (fun ls hl => ?_)
  refine lv_iload_n hx hb dX6_timesOver_3 rfl (lv_at hl 3 rfl) ?_
  refine lv_istore (lv' := [(6, .int (iI (lo))), (4, .long (lI (0))), (0, .int (iI (n))), (1, .int (iI (a))), (2, .int (iI (lo))), (3, .int (iI (hi)))]) hx hb dX6_timesOver_4 hl (by decide) rfl (fun ls hl => ?_)
  exact cut_6 ((61 - lo : Int).toNat + 1) (lo) (0) (by first | assumption | omega | (constructor <;> omega)) (by first | assumption | omega | (constructor <;> omega)) (by first | (rw [goF_s (by omega), ht9]; rfl) | (rw [show lo - lo = 0 from by omega]; rfl)) (by exact Nat.lt_succ_self _) ls (lv_sub hl [2, 3, 4, 5, 1, 0] rfl)
set_option maxHeartbeats 1000000 in
set_option maxRecDepth 100000 in
theorem c_X6_staysWithin (l : Launch) (D : va_G) (cyI cyJ cyO : ClassId) (n : Int) (a : Int) (x : Int) (h_n : 1 ≤ n ∧ n ≤ 15) (h_a : 0 ≤ a ∧ a ≤ 16) (h_x : 0 ≤ x ∧ x ≤ 256) : Met l yX6_staysWithin wsX6_staysWithin ({ frames := 1, cells := 0, slots := 0, locals := 25 }) (va_Pc [.int (iI (n)), .int (iI (a)), .int (iI (x))] (xR D vwCl [] (xT cyI cyJ cyO))) (xq (some (.int (iI (b2 (stW n a x)))))) 0 0 (fun _ => False) := by
  refine Met.ofW (cc := cX6_staysWithin) (maxL := 5) (ret := (some .boolean)) (by decide) rfl ?_
  intro p e s m args below meth c s₁ B hml hv
  obtain ⟨rfl, hP, hK⟩ := hv
  have hx := B.exec
  have hb := B.bytes
  have hr := B.returns
  have hts := atoms_spec (ws := wsX6_staysWithin) B.pre
  have hown : s.vm.findClass RX6 = some m.cls := findClass_of_methodNamed B.named
  have hlocks := B.notSynchronized
  have hP : va_P D vwCl [] s.heap := hP
  have hl := lv_entry ([.int (iI (n)), .int (iI (a)), .int (iI (x))]) (n := 5) (Nat.le_of_ble_eq_true rfl)
  rw [lg_entry_eq]
  generalize (lg_sl ([.int (iI (n)), .int (iI (a)), .int (iI (x))]) ++ List.replicate (5 - (lg_sl ([.int (iI (n)), .int (iI (a)), .int (iI (x))])).length) Slot.unset).toArray = ls at hl ⊢
  have hl : lv_has ls 5 [(0, .int (iI (n))), (1, .int (iI (a))), (2, .int (iI (x)))] := hl
  have hp1 := pow_in (b := 16) (n := n) (by omega) (by omega)
  have hp2 := pow_in (b := 16 - a) (n := n) (by omega) (by omega)
  have hp3 := stW_in (n := n) (a := a) (x := x) (by omega) (by omega) (by omega)
  refine lv_ldc2 (v := lI (16)) hx hb hown (hts (.constantLong RX6 186 (lI (16))) (List.mem_of_getElem? (i := 1) (by decide +kernel))) dX6_staysWithin_0 ?_
  refine lv_iload_n hx hb dX6_staysWithin_3 rfl (lv_at hl 0 rfl) ?_
  have hPc := hP.sub (ws' := []) [] rfl
  refine xc_l (va_runS (As := [.long (lI (16)), .int (iI (n))]) (rest := []) ⟨hx, hb, hml, hown, hts⟩ (c_X6_power l D cyI cyJ cyO 16 n (by first | exact h_w | assumption | omega)) (va_cwS 2 hts gX6_staysWithin_X6_power rfl rfl rfl (by decide +kernel) ⟨Nat.le_of_ble_eq_true rfl, Nat.le_of_ble_eq_true rfl⟩) (xpS hPc hK) rfl rfl hl.1 rfl (lv_room (Nat.le_of_ble_eq_true rfl)) dX6_staysWithin_4 ⟨Nat.le_of_ble_eq_true rfl, Nat.le_of_ble_eq_true rfl⟩) ?_
  refine xi_bipush hx hb dX6_staysWithin_7 (by decide +kernel) ?_
  refine lv_iload_n hx hb dX6_staysWithin_9 rfl (lv_at hl 1 rfl) ?_
  refine xi_sub hx hb dX6_staysWithin_10 ?_
  refine xi_i2l hx hb dX6_staysWithin_11 (by omega) ?_
  refine lv_iload_n hx hb dX6_staysWithin_12 rfl (lv_at hl 0 rfl) ?_
  have hPc := hP.sub (ws' := []) [] rfl
  refine xc_l (va_runS (As := [.long (lI (16 - a)), .int (iI (n))]) (rest := [.long (lI (16 ^ n.toNat))]) ⟨hx, hb, hml, hown, hts⟩ (c_X6_power l D cyI cyJ cyO (16 - a) n (by first | exact h_w | assumption | omega)) (va_cwS 2 hts gX6_staysWithin_X6_power rfl rfl rfl (by decide +kernel) ⟨Nat.le_of_ble_eq_true rfl, Nat.le_of_ble_eq_true rfl⟩) (xpS hPc hK) rfl rfl hl.1 rfl (lv_room (Nat.le_of_ble_eq_true rfl)) dX6_staysWithin_13 ⟨Nat.le_of_ble_eq_true rfl, Nat.le_of_ble_eq_true rfl⟩) ?_
  refine xl_sub hx hb dX6_staysWithin_16 ?_
  refine lv_lstore_n (lv' := [(3, .long (lI ((16 ^ n.toNat) - ((16 - a) ^ n.toNat)))), (0, .int (iI (n))), (1, .int (iI (a))), (2, .int (iI (x)))]) hx hb dX6_staysWithin_17 rfl hl (by decide) rfl (fun ls hl => ?_)
  refine lv_iload_n hx hb dX6_staysWithin_18 rfl (lv_at hl 1 rfl) ?_
  refine xi_const hx hb dX6_staysWithin_19 ?_
  refine xb_icmp_ge (tgt := 40) hx hb dX6_staysWithin_20 (by decide) (by omega) (fun h_1 => ?_) (fun h_1 => ?_)
  · refine lv_lload_n hx hb dX6_staysWithin_40 rfl (lv_at hl 0 rfl) ?_
    refine lv_iload_n hx hb dX6_staysWithin_41 rfl (lv_at hl 3 rfl) ?_
    refine xi_i2l hx hb dX6_staysWithin_42 (by omega) ?_
    refine lv_ldc2 (v := lI (16)) hx hb hown (hts (.constantLong RX6 186 (lI (16))) (List.mem_of_getElem? (i := 1) (by decide +kernel))) dX6_staysWithin_43 ?_
    refine lv_iload_n hx hb dX6_staysWithin_46 rfl (lv_at hl 1 rfl) ?_
    refine xi_const hx hb dX6_staysWithin_47 ?_
    refine xi_sub hx hb dX6_staysWithin_48 ?_
    have hPc := hP.sub (ws' := []) [] rfl
    refine xc_l (va_runS (As := [.long (lI (16)), .int (iI (n - 2))]) (rest := [.long (lI (x)), .long (lI ((16 ^ n.toNat) - ((16 - a) ^ n.toNat)))]) ⟨hx, hb, hml, hown, hts⟩ (c_X6_power l D cyI cyJ cyO 16 (n - 2) (by first | exact h_w | assumption | omega)) (va_cwS 2 hts gX6_staysWithin_X6_power rfl rfl rfl (by decide +kernel) ⟨Nat.le_of_ble_eq_true rfl, Nat.le_of_ble_eq_true rfl⟩) (xpS hPc hK) rfl rfl hl.1 rfl (lv_room (Nat.le_of_ble_eq_true rfl)) dX6_staysWithin_49 ⟨Nat.le_of_ble_eq_true rfl, Nat.le_of_ble_eq_true rfl⟩) ?_
    refine xl_mul hx hb dX6_staysWithin_52 ?_
    refine xl_if_gt (tgt := 61) hx hb dX6_staysWithin_53 dX6_staysWithin_54 (by decide) (by omega) (fun h_2 => ?_) (fun h_2 => ?_)
    · refine xi_const hx hb dX6_staysWithin_61 ?_
      exact W.zret (v := iI (0)) hx hb hr (by decide +kernel) (fun t_ ht_ _ => ⟨congrArg (fun z => Outcome.returned (some (Value.int (iI z)))) (show (0 : Int) = b2 (stW n a x) from (b2_f (by unfold stW; omega)).symm), ht_⟩) (fun _ h9 => absurd h9 List.not_mem_nil) dX6_staysWithin_62
    · refine xi_const hx hb dX6_staysWithin_57 ?_
      refine lv_goto (tgt := 62) hx hb dX6_staysWithin_58 (by decide) ?_
      exact W.zret (v := iI (1)) hx hb hr (by decide +kernel) (fun t_ ht_ _ => ⟨congrArg (fun z => Outcome.returned (some (Value.int (iI z)))) (show (1 : Int) = b2 (stW n a x) from (b2_t (by unfold stW; omega)).symm), ht_⟩) (fun _ h9 => absurd h9 List.not_mem_nil) dX6_staysWithin_62
  · refine lv_lload_n hx hb dX6_staysWithin_23 rfl (lv_at hl 0 rfl) ?_
    refine lv_ldc2 (v := lI (16)) hx hb hown (hts (.constantLong RX6 186 (lI (16))) (List.mem_of_getElem? (i := 1) (by decide +kernel))) dX6_staysWithin_24 ?_
    refine xl_mul hx hb dX6_staysWithin_27 ?_
    refine lv_iload_n hx hb dX6_staysWithin_28 rfl (lv_at hl 3 rfl) ?_
    refine xi_i2l hx hb dX6_staysWithin_29 (by omega) ?_
    refine xl_if_gt (tgt := 38) hx hb dX6_staysWithin_30 dX6_staysWithin_31 (by decide) (by omega) (fun h_3 => ?_) (fun h_3 => ?_)
    · refine xi_const hx hb dX6_staysWithin_38 ?_
      exact W.zret (v := iI (0)) hx hb hr (by decide +kernel) (fun t_ ht_ _ => ⟨congrArg (fun z => Outcome.returned (some (Value.int (iI z)))) (show (0 : Int) = b2 (stW n a x) from (b2_f (by unfold stW; omega)).symm), ht_⟩) (fun _ h9 => absurd h9 List.not_mem_nil) dX6_staysWithin_39
    · refine xi_const hx hb dX6_staysWithin_34 ?_
      refine lv_goto (tgt := 39) hx hb dX6_staysWithin_35 (by decide) ?_
      exact W.zret (v := iI (1)) hx hb hr (by decide +kernel) (fun t_ ht_ _ => ⟨congrArg (fun z => Outcome.returned (some (Value.int (iI z)))) (show (1 : Int) = b2 (stW n a x) from (b2_t (by unfold stW; omega)).symm), ht_⟩) (fun _ h9 => absurd h9 List.not_mem_nil) dX6_staysWithin_39
set_option maxHeartbeats 1000000 in
set_option maxRecDepth 100000 in
theorem c_X6_lasts (l : Launch) (D : va_G) (cyI cyJ cyO : ClassId) (qW : Nat) (qT : Nat) (qA : Nat) (qK : Nat) (qC : Nat) (qE : Nat) (qI : Nat) (qF : Nat) (qH : Nat) (qO : Nat) (fi : Int) (a : Int) (x : Int) (h_a : -2147483648 ≤ a ∧ a ≤ 2147483647) (h_x : -2147483648 ≤ x ∧ x ≤ 2147483647) : Met l yX6_lasts wsX6_lasts ({ frames := 2, cells := 0, slots := 0, locals := 49 }) (va_Pc [.ref qW, .int (iI (a)), .int (iI (x))] (xR D vwCl [(qW, .inr (6, [.ref qT, .ref qA, .ref qK, .ref qC, .ref qE, .ref qI, .ref qF, .ref qH, .ref qO, .int (iI (fi))]))] (xT cyI cyJ cyO))) (xq (some (.int (iI (if (0 ≤ a ∧ a ≤ 16) ∧ 0 ≤ x ∧ x ≤ 256 then lastF a x else -2))))) 0 0 (fun _ => False) := by
  refine Met.ofW (cc := cX6_lasts) (maxL := 5) (ret := (some .int)) (by decide) rfl ?_
  intro p e s m args below meth c s₁ B hml hv
  obtain ⟨rfl, hP, hK⟩ := hv
  have hx := B.exec
  have hb := B.bytes
  have hr := B.returns
  have hts := atoms_spec (ws := wsX6_lasts) B.pre
  have hown : s.vm.findClass RX6 = some m.cls := findClass_of_methodNamed B.named
  have hlocks := B.notSynchronized
  have hP : va_P D vwCl [(qW, .inr (6, [.ref qT, .ref qA, .ref qK, .ref qC, .ref qE, .ref qI, .ref qF, .ref qH, .ref qO, .int (iI (fi))]))] s.heap := hP
  have hl := lv_entry ([.ref qW, .int (iI (a)), .int (iI (x))]) (n := 5) (Nat.le_of_ble_eq_true rfl)
  rw [lg_entry_eq]
  generalize (lg_sl ([.ref qW, .int (iI (a)), .int (iI (x))]) ++ List.replicate (5 - (lg_sl ([.ref qW, .int (iI (a)), .int (iI (x))])).length) Slot.unset).toArray = ls at hl ⊢
  have hl : lv_has ls 5 [(0, .ref qW), (1, .int (iI (a))), (2, .int (iI (x)))] := hl
  have cut_26 : ∀ (N_ : Nat) (i : Int) (t : Int) (hi : 1 ≤ i ∧ i ≤ 16) (ha : 0 ≤ a ∧ a ≤ 16) (hx9 : 0 ≤ x ∧ x ≤ 256) (ht9 : t = foldZ (lastS a x) (i - 1) 0) (hN_ : (16 - i).toNat < N_) (ls : Array Slot) (hl : lv_has ls 5 [(1, .int (iI (a))), (2, .int (iI (x))), (3, .int (iI (t))), (4, .int (iI (i)))]), W p l e (headSpec wsX6_lasts ({ frames := 2, cells := 0, slots := 0, locals := 49 })).room s m ([.ref qW, .int (iI (a)), .int (iI (x))] : List Value).toArray below meth c s.heap [] 0 0 (MQ below (xq (some (.int (iI (if (0 ≤ a ∧ a ≤ 16) ∧ 0 ≤ x ∧ x ≤ 256 then lastF a x else -2))))) ([.ref qW, .int (iI (a)), .int (iI (x))] : List Value).toArray s 0 0 (fun _ => False)) (F0 m 26 ls []) := by
    intro N_
    induction N_ with
    | zero => intro i t hi ha hx9 ht9 hN_ ls hl; exact absurd hN_ (Nat.not_lt_zero _)
    | succ N_ ih_26 =>
      intro i t hi ha hx9 ht9 hN_ ls hl
      refine lv_iload hx hb dX6_lasts_26 (lv_at hl 3 rfl) ?_
      refine xi_bipush hx hb dX6_lasts_28 (by decide +kernel) ?_
      refine xb_icmp_gt (tgt := 52) hx hb dX6_lasts_30 (by decide) (by omega) (fun h_1 => ?_) (fun h_1 => ?_)
      · refine lv_iload_n hx hb dX6_lasts_52 rfl (lv_at hl 2 rfl) ?_
        exact W.iret (v := iI (t)) hx hb hr (fun t_ ht_ _ => ⟨congrArg (fun z => Outcome.returned (some (Value.int (iI z)))) (show (t) = (if (0 ≤ a ∧ a ≤ 16) ∧ 0 ≤ x ∧ x ≤ 256 then lastF a x else -2) from by first | rw [if_neg (by omega)] | (rw [if_pos (by omega), ht9, show i - 1 = 15 from by omega]; rfl)), ht_⟩) (fun _ h9 => absurd h9 List.not_mem_nil) dX6_lasts_53
      · refine lv_iload hx hb dX6_lasts_33 (lv_at hl 3 rfl) ?_
        refine lv_iload_n hx hb dX6_lasts_35 rfl (lv_at hl 0 rfl) ?_
        refine lv_iload_n hx hb dX6_lasts_36 rfl (lv_at hl 1 rfl) ?_
        have hPc := hP.sub (ws' := []) [] rfl
        refine xc_i (va_runS (As := [.int (iI (i)), .int (iI (a)), .int (iI (x))]) (rest := []) ⟨hx, hb, hml, hown, hts⟩ (c_X6_staysWithin l D cyI cyJ cyO i a x (by first | exact h_n | assumption | omega) (by first | exact h_a | assumption | omega) (by first | exact h_x | assumption | omega)) (va_cwS 3 hts gX6_lasts_X6_staysWithin rfl rfl rfl (by decide +kernel) ⟨Nat.le_of_ble_eq_true rfl, Nat.le_of_ble_eq_true rfl⟩) (xpS hPc hK) rfl rfl hl.1 rfl (lv_room (Nat.le_of_ble_eq_true rfl)) dX6_lasts_37 ⟨Nat.le_of_ble_eq_true rfl, Nat.le_of_ble_eq_true rfl⟩) ?_
        refine xb_if_eqB (tgt := 46) hx hb dX6_lasts_40 (by decide) (fun h_2 => ?_) (fun h_2 => ?_)
        · refine xi_inc (k := 3) (lv' := [(4, .int (iI (i + 1))), (1, .int (iI (a))), (2, .int (iI (x))), (3, .int (iI (t)))]) hx hb dX6_lasts_46 hl rfl (by decide) rfl (fun ls hl => ?_)
          refine lv_goto (tgt := 26) hx hb dX6_lasts_49 (by decide) ?_
          exact ih_26 (i + 1) (t) (by first | assumption | omega | (constructor <;> omega)) (by first | assumption | omega | (constructor <;> omega)) (by first | assumption | omega | (constructor <;> omega)) (by first | rfl | exact (lastS_t (by omega) (by assumption) ht9) | exact (lastS_f (by omega) (by assumption) ht9)) (by omega) ls (lv_sub hl [1, 2, 3, 0] rfl)
        · refine lv_iload hx hb dX6_lasts_43 (lv_at hl 3 rfl) ?_
          refine lv_istore_n (lv' := [(3, .int (iI (i))), (1, .int (iI (a))), (2, .int (iI (x))), (4, .int (iI (i)))]) hx hb dX6_lasts_45 rfl hl (by decide) rfl (fun ls hl => ?_)
          refine xi_inc (k := 3) (lv' := [(4, .int (iI (i + 1))), (3, .int (iI (i))), (1, .int (iI (a))), (2, .int (iI (x)))]) hx hb dX6_lasts_46 hl rfl (by decide) rfl (fun ls hl => ?_)
          refine lv_goto (tgt := 26) hx hb dX6_lasts_49 (by decide) ?_
          exact ih_26 (i + 1) (i) (by first | assumption | omega | (constructor <;> omega)) (by first | assumption | omega | (constructor <;> omega)) (by first | assumption | omega | (constructor <;> omega)) (by first | rfl | exact (lastS_t (by omega) (by assumption) ht9) | exact (lastS_f (by omega) (by assumption) ht9)) (by omega) ls (lv_sub hl [2, 3, 1, 0] rfl)
  refine lv_iload_n hx hb dX6_lasts_0 rfl (lv_at hl 1 rfl) ?_
  have hPc := hP.sub (ws' := []) [] rfl
  refine xc_i (va_runS (As := [.int (iI (a))]) (rest := []) ⟨hx, hb, hml, hown, hts⟩ (c_X6_isSixteenths l D cyI cyJ cyO a (by first | exact h_y | assumption | omega)) (va_cwS 1 hts gX6_lasts_X6_isSixteenths rfl rfl rfl (by decide +kernel) ⟨Nat.le_of_ble_eq_true rfl, Nat.le_of_ble_eq_true rfl⟩) (xpS hPc hK) rfl rfl hl.1 rfl (lv_room (Nat.le_of_ble_eq_true rfl)) dX6_lasts_1 ⟨Nat.le_of_ble_eq_true rfl, Nat.le_of_ble_eq_true rfl⟩) ?_
  refine xb_if_eqB (tgt := 18) hx hb dX6_lasts_4 (by decide) (fun h_3 => ?_) (fun h_3 => ?_)
  · refine xi_bipush hx hb dX6_lasts_18 (by decide +kernel) ?_
    exact W.iret (v := iI (-2)) hx hb hr (fun t_ ht_ _ => ⟨congrArg (fun z => Outcome.returned (some (Value.int (iI z)))) (show (-2) = (if (0 ≤ a ∧ a ≤ 16) ∧ 0 ≤ x ∧ x ≤ 256 then lastF a x else -2) from by first | rw [if_neg (by omega)] | (rw [if_pos (by omega), ht9, show i - 1 = 15 from by omega]; rfl)), ht_⟩) (fun _ h9 => absurd h9 List.not_mem_nil) dX6_lasts_20
  · refine lv_iload_n hx hb dX6_lasts_7 rfl (lv_at hl 2 rfl) ?_
    refine xb_if_lt (tgt := 18) hx hb dX6_lasts_8 (by decide) (by omega) (fun h_4 => ?_) (fun h_4 => ?_)
    · refine xi_bipush hx hb dX6_lasts_18 (by decide +kernel) ?_
      exact W.iret (v := iI (-2)) hx hb hr (fun t_ ht_ _ => ⟨congrArg (fun z => Outcome.returned (some (Value.int (iI z)))) (show (-2) = (if (0 ≤ a ∧ a ≤ 16) ∧ 0 ≤ x ∧ x ≤ 256 then lastF a x else -2) from by first | rw [if_neg (by omega)] | (rw [if_pos (by omega), ht9, show i - 1 = 15 from by omega]; rfl)), ht_⟩) (fun _ h9 => absurd h9 List.not_mem_nil) dX6_lasts_20
    · refine lv_iload_n hx hb dX6_lasts_11 rfl (lv_at hl 2 rfl) ?_
      refine xi_sipush hx hb dX6_lasts_12 (by decide +kernel) ?_
      refine xb_icmp_le (tgt := 21) hx hb dX6_lasts_15 (by decide) (by omega) (fun h_5 => ?_) (fun h_5 => ?_)
      · refine xi_const hx hb dX6_lasts_21 ?_
        refine lv_istore_n (lv' := [(3, .int (iI (0))), (0, .ref qW), (1, .int (iI (a))), (2, .int (iI (x)))]) hx hb dX6_lasts_22 rfl hl (by decide) rfl (fun ls hl => ?_)
        refine xi_const hx hb dX6_lasts_23 ?_
        refine lv_istore (lv' := [(4, .int (iI (1))), (3, .int (iI (0))), (0, .ref qW), (1, .int (iI (a))), (2, .int (iI (x)))]) hx hb dX6_lasts_24 hl (by decide) rfl (fun ls hl => ?_)
        exact cut_26 ((16 - 1 : Int).toNat + 1) (1) (0) (by first | assumption | omega | (constructor <;> omega)) (by first | assumption | omega | (constructor <;> omega)) (by first | assumption | omega | (constructor <;> omega)) (by first | rfl | exact (lastS_t (by omega) (by assumption) ht9) | exact (lastS_f (by omega) (by assumption) ht9)) (by exact Nat.lt_succ_self _) ls (lv_sub hl [3, 4, 1, 0] rfl)
      · refine xi_bipush hx hb dX6_lasts_18 (by decide +kernel) ?_
        exact W.iret (v := iI (-2)) hx hb hr (fun t_ ht_ _ => ⟨congrArg (fun z => Outcome.returned (some (Value.int (iI z)))) (show (-2) = (if (0 ≤ a ∧ a ≤ 16) ∧ 0 ≤ x ∧ x ≤ 256 then lastF a x else -2) from by first | rw [if_neg (by omega)] | (rw [if_pos (by omega), ht9, show i - 1 = 15 from by omega]; rfl)), ht_⟩) (fun _ h9 => absurd h9 List.not_mem_nil) dX6_lasts_20
