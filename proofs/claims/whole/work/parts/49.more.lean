theorem tm_i {R tm t : Int} (h : 0 ≤ tm ∧ tm ≤ 999) (h2 : 0 ≤ t ∧ t ≤ 999) : 0 ≤ (if R = 0 then tm else t) ∧ (if R = 0 then tm else t) ≤ 999 := by
  by_cases q : R = 0
  · rw [if_pos q]; exact h
  · rw [if_neg q]; exact h2
/-- words that hide their cases -/
def mfV (sl sf : Int) : Int := if sl = 1 then -1 else sf
def sB (x : Int) : Prop := x = 0 ∨ x = 1
def tmR (tt : Int → Int) (tn tm : Int) : Prop := (0 < tn ∧ tm = tt (tn - 1)) ∨ (tn = 0 ∧ tm = 0)
/-! behind a call in a large world: one pass -/
def xput : List Bool → va_W → va_W → va_W
  | true :: m, _ :: ws, q :: qs => q :: xput m ws qs
  | false :: m, w :: ws, qs => w :: xput m ws qs
  | _, ws, _ => ws
def xpick : List Bool → va_W → va_W
  | true :: m, w :: ws => w :: xpick m ws
  | false :: m, _ :: ws => xpick m ws
  | _, _ => []
theorem xput_get : ∀ (m : List Bool) (ws w1 : va_W) (k : Nat) (q : Nat × va_E), (xpick m ws).length = w1.length → (xput m ws w1)[k]? = some q → (∃ j : Nat, w1[j]? = some q) ∨ (ws[k]? = some q ∧ m[k]? ≠ some true)
  | [], ws, w1, k, q, _, h => Or.inr ⟨by simpa [xput] using h, by simp⟩
  | true :: m, [], w1, k, q, _, h => by simp [xput] at h
  | false :: m, [], w1, k, q, _, h => by simp [xput] at h
  | true :: m, w :: ws, [], k, q, hl, h => by simp [xpick] at hl
  | true :: m, w :: ws, q0 :: qs, 0, q, hl, h => Or.inl ⟨0, by simpa [xput] using h⟩
  | true :: m, w :: ws, q0 :: qs, k + 1, q, hl, h => by
    rcases xput_get m ws qs k q (by simpa [xpick] using hl) (by simpa [xput] using h) with ⟨j, hj⟩ | ⟨h1, h2⟩
    · exact Or.inl ⟨j + 1, by simpa using hj⟩
    · exact Or.inr ⟨by simpa using h1, by simpa using h2⟩
  | false :: m, w :: ws, w1, 0, q, hl, h => Or.inr ⟨by simpa [xput] using h, by simp⟩
  | false :: m, w :: ws, w1, k + 1, q, hl, h => by
    rcases xput_get m ws w1 k q (by simpa [xpick] using hl) (by simpa [xput] using h) with ⟨j, hj⟩ | ⟨h1, h2⟩
    · exact Or.inl ⟨j, hj⟩
    · exact Or.inr ⟨by simpa using h1, by simpa using h2⟩
theorem xput_addr : ∀ (m : List Bool) (ws w1 : va_W), (xpick m ws).map (fun q => q.1) = w1.map (fun q => q.1) → (xput m ws w1).map (fun q => q.1) = ws.map (fun q => q.1)
  | [], ws, w1, _ => by simp [xput]
  | true :: m, [], w1, _ => by simp [xput]
  | false :: m, [], w1, _ => by simp [xput]
  | true :: m, w :: ws, [], h => by simp [xpick] at h
  | true :: m, w :: ws, q0 :: qs, h => by
    have h1 : w.1 = q0.1 ∧ (xpick m ws).map (fun q => q.1) = qs.map (fun q => q.1) := by simpa [xpick] using h
    have ih := xput_addr m ws qs h1.2
    show q0.1 :: (xput m ws qs).map (fun q => q.1) = w.1 :: ws.map (fun q => q.1)
    rw [ih, h1.1]
  | false :: m, w :: ws, w1, h => by
    have ih := xput_addr m ws w1 (by simpa [xpick] using h)
    show w.1 :: (xput m ws w1).map (fun q => q.1) = w.1 :: ws.map (fun q => q.1)
    rw [ih]
theorem xpick_get : ∀ (m : List Bool) (ws : va_W) (j : Nat) (q : Nat × va_E), (xpick m ws)[j]? = some q → ∃ i : Nat, m[i]? = some true ∧ ws[i]? = some q
  | [], ws, j, q, h => by simp [xpick] at h
  | true :: m, [], j, q, h => by simp [xpick] at h
  | false :: m, [], j, q, h => by simp [xpick] at h
  | true :: m, w :: ws, 0, q, h => ⟨0, by simp, by simpa [xpick] using h⟩
  | true :: m, w :: ws, j + 1, q, h => by
    obtain ⟨i, h1, h2⟩ := xpick_get m ws j q (by simpa [xpick] using h)
    exact ⟨i + 1, by simpa using h1, by simpa using h2⟩
  | false :: m, w :: ws, j, q, h => by
    obtain ⟨i, h1, h2⟩ := xpick_get m ws j q (by simpa [xpick] using h)
    exact ⟨i + 1, by simpa using h1, by simpa using h2⟩
theorem xD_addr {A : Nat → Prop} {ws ws2 : va_W} (h : va_D A ws) (ha : ws2.map (fun q => q.1) = ws.map (fun q => q.1)) : va_D A ws2 := by
  have key : ∀ (k : Nat) (q : Nat × va_E), ws2[k]? = some q → ∃ q0, ws[k]? = some q0 ∧ q0.1 = q.1 := by
    intro k q hq
    have h1 : (ws2.map (fun q => q.1))[k]? = some q.1 := by rw [List.getElem?_map, hq]; rfl
    rw [ha, List.getElem?_map] at h1
    cases hw : ws[k]? with
    | none => rw [hw] at h1; cases h1
    | some q0 => rw [hw] at h1; exact ⟨q0, rfl, Option.some.inj h1⟩
  refine ⟨fun i j p q hi hj e => ?_, fun k q hk => ?_⟩
  · obtain ⟨p0, h1, h2⟩ := key i p hi
    obtain ⟨q0, h3, h4⟩ := key j q hj
    exact h.1 i j p0 q0 h1 h3 (by rw [h2, h4, e])
  · obtain ⟨q0, h1, h2⟩ := key k q hk
    rw [← h2]; exact h.2 k q0 h1
theorem xjp {A0 : Nat → Prop} {D : va_G} {cl : List vw_C} {ws wc wcs w1 : va_W} {H H1 : Heap} (m : List Bool) (isq : List Nat) (hP : va_P D cl ws H) (hD : va_D A0 ws) (hC : xpick m ws = wcs) (hq : isq.map (fun i => wcs[i]?) = wc.map some) (ha : wcs.map (fun q => q.1) = w1.map (fun q => q.1))
    (hk : ∀ q : Nat, q < H.size → ¬ va_A wc H.size q → H1[q]? = H[q]?) (hP1 : va_P D cl w1 H1) : va_P D cl (xput m ws w1) H1 ∧ va_D A0 (xput m ws w1) := by
  subst hC
  refine ⟨fun k q hq1 => ?_, xD_addr hD (xput_addr m ws w1 ha)⟩
  rcases xput_get m ws w1 k q (by simpa using congrArg List.length ha) hq1 with ⟨j, hj⟩ | ⟨h1, h2⟩
  · exact hP1 j q hj
  · have hlt := (hP k q h1).lt
    refine (hP k q h1).kept (hk q.1 hlt (fun hz => ?_))
    rcases hz with ⟨j, e, hj⟩ | hz
    · have h3 : (isq.map (fun i => (xpick m ws)[i]?))[j]? = some (some (q.1, e)) := by rw [hq, List.getElem?_map, hj]; rfl
      rw [List.getElem?_map] at h3
      cases hi : isq[j]? with
      | none => rw [hi] at h3; cases h3
      | some i =>
        rw [hi] at h3
        obtain ⟨i2, g1, g2⟩ := xpick_get m ws i (q.1, e) (Option.some.inj h3)
        have := hD.1 k i2 q (q.1, e) h1 g2 rfl
        subst this
        exact h2 g1
    · omega
