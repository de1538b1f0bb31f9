/-! the fewest irons: numbers alone -/
def sMax (a b : Int) : Int := if a < b then b else a
/-- the best of v 0, v 1, .. v (n - 1), beginning with b -/
def zmx (v : Int → Int) : Nat → Int → Int
  | 0, b => b
  | n + 1, b => sMax (zmx v n b) (v n)
theorem zmx_le {v : Int → Int} {b c : Int} : ∀ n : Nat, zmx v n b ≤ c ↔ b ≤ c ∧ ∀ k : Int, 0 ≤ k → k < n → v k ≤ c
  | 0 => by
    unfold zmx
    exact ⟨fun h => ⟨h, fun k h1 h2 => by omega⟩, fun h => h.1⟩
  | n + 1 => by
    unfold zmx sMax
    have ih := zmx_le (v := v) (b := b) (c := c) n
    constructor
    · intro h
      have h1 : zmx v n b ≤ c ∧ v n ≤ c := by
        split at h <;> omega
      refine ⟨(ih.mp h1.1).1, fun k k0 k1 => ?_⟩
      by_cases ck : k = n
      · rw [ck]; exact h1.2
      · exact (ih.mp h1.1).2 k k0 (by omega)
    · intro h
      have h1 := ih.mpr ⟨h.1, fun k k0 k1 => h.2 k k0 (by omega)⟩
      have h2 := h.2 n (by omega) (by omega)
      split <;> omega
theorem zmx_ge {v : Int → Int} {b k : Int} {n : Nat} (k0 : 0 ≤ k) (k1 : k < n) : v k ≤ zmx v n b := ((zmx_le n).mp (Int.le_refl _)).2 k k0 k1
theorem zmx_b {v : Int → Int} {b : Int} {n : Nat} : b ≤ zmx v n b := ((zmx_le n).mp (Int.le_refl _)).1
theorem zmx_at {v : Int → Int} {b c : Int} : ∀ n : Nat, c ≤ zmx v n b → c ≤ b ∨ ∃ k : Int, 0 ≤ k ∧ k < n ∧ c ≤ v k
  | 0, h => Or.inl h
  | n + 1, h => by
    unfold zmx sMax at h
    split at h
    · exact Or.inr ⟨n, by omega, by omega, h⟩
    · rcases zmx_at n h with h1 | ⟨k, h1, h2, h3⟩
      · exact Or.inl h1
      · exact Or.inr ⟨k, h1, by omega, h3⟩
theorem zmx_congr {v w : Int → Int} {b : Int} : ∀ n : Nat, (∀ k : Int, 0 ≤ k → k < n → v k = w k) → zmx v n b = zmx w n b
  | 0, _ => rfl
  | n + 1, h => by
    unfold zmx
    rw [zmx_congr n (fun k h1 h2 => h k h1 (by omega)), h n (by omega) (by omega)]
/-- how many k there are: up to r and up to t -/
def dK (r t : Int) : Nat := (sMin r t + 1).toNat
/-- at most t irons for the last j hands -/
def dL (g : Int → Int → Int) (r : Int → Int) (H : Int) : Nat → Int → Int
  | 0, _ => 0
  | j + 1, t => zmx (fun k => g (H - (j + 1)) k + dL g r H j (t - k)) (dK (r (H - (j + 1))) t) 0
/-- just n irons for the last j hands -/
def dX (g : Int → Int → Int) (r : Int → Int) (H : Int) : Nat → Int → Int
  | 0, n => if n = 0 then 0 else -1000000
  | j + 1, n => zmx (fun k => g (H - (j + 1)) k + dX g r H j (n - k)) (dK (r (H - (j + 1))) n) (-1000000)
theorem dK_lt {r t k : Int} (hr : 0 ≤ r) (ht : 0 ≤ t) : k < (dK r t : Int) ↔ k ≤ r ∧ k ≤ t := by
  unfold dK sMin
  split <;> omega
theorem dL_bd {g : Int → Int → Int} {r : Int → Int} {H : Int} (hg : ∀ h k, 0 ≤ g h k ∧ g h k ≤ 100) (hr : ∀ h, 0 ≤ r h) : ∀ (j : Nat) (t : Int), 0 ≤ t → 0 ≤ dL g r H j t ∧ dL g r H j t ≤ 100 * j
  | 0, t, _ => by unfold dL; omega
  | j + 1, t, ht => by
    unfold dL
    refine ⟨zmx_b, (zmx_le _).mpr ⟨by omega, fun k k0 k1 => ?_⟩⟩
    have h1 := (dK_lt (hr _) ht).mp k1
    have h2 := dL_bd hg hr (H := H) j (t - k) (by omega)
    have h3 := hg (H - (j + 1)) k
    omega
theorem dX_bd {g : Int → Int → Int} {r : Int → Int} {H : Int} (hg : ∀ h k, 0 ≤ g h k ∧ g h k ≤ 100) (hr : ∀ h, 0 ≤ r h) : ∀ (j : Nat) (t : Int), 0 ≤ t → -1000000 ≤ dX g r H j t ∧ dX g r H j t ≤ 100 * j
  | 0, t, _ => by unfold dX; split <;> omega
  | j + 1, t, ht => by
    unfold dX
    refine ⟨zmx_b, (zmx_le _).mpr ⟨by omega, fun k k0 k1 => ?_⟩⟩
    have h1 := (dK_lt (hr _) ht).mp k1
    have h2 := dX_bd hg hr (H := H) j (t - k) (by omega)
    have h3 := hg (H - (j + 1)) k
    omega
/-- just n is at most as loud as at most t, for n up to t -/
theorem dX_le_dL {g : Int → Int → Int} {r : Int → Int} {H : Int} (hg : ∀ h k, 0 ≤ g h k ∧ g h k ≤ 100) (hr : ∀ h, 0 ≤ r h) : ∀ (j : Nat) (t n : Int), 0 ≤ n → n ≤ t → dX g r H j n ≤ dL g r H j t
  | 0, t, n, _, _ => by unfold dX dL; split <;> omega
  | j + 1, t, n, n0, n1 => by
    have hb := dL_bd (H := H) hg hr (j + 1) t (by omega)
    rw [show dX g r H (j + 1) n = zmx (fun k => g (H - (j + 1)) k + dX g r H j (n - k)) (dK (r (H - (j + 1))) n) (-1000000) from rfl]
    refine (zmx_le _).mpr ⟨by omega, fun k k0 k1 => ?_⟩
    have h1 := (dK_lt (hr _) n0).mp k1
    have h2 := dX_le_dL hg hr (H := H) j (t - k) (n - k) (by omega) (by omega)
    have h3 : g (H - (j + 1)) k + dL g r H j (t - k) ≤ dL g r H (j + 1) t := zmx_ge (v := fun k => g (H - (j + 1)) k + dL g r H j (t - k)) k0 ((dK_lt (hr _) (by omega)).mpr ⟨h1.1, by omega⟩)
    omega
/-- what at most t come to, some n comes to -/
theorem dL_at {g : Int → Int → Int} {r : Int → Int} {H : Int} (hg : ∀ h k, 0 ≤ g h k ∧ g h k ≤ 100) (hr : ∀ h, 0 ≤ r h) : ∀ (j : Nat) (t c : Int), 0 ≤ t → 0 < c → c ≤ dL g r H j t → ∃ n, 0 ≤ n ∧ n ≤ t ∧ c ≤ dX g r H j n
  | 0, t, c, _, hc, h => by unfold dL at h; omega
  | j + 1, t, c, ht, hc, h => by
    rw [show dL g r H (j + 1) t = zmx (fun k => g (H - (j + 1)) k + dL g r H j (t - k)) (dK (r (H - (j + 1))) t) 0 from rfl] at h
    rcases zmx_at _ h with h1 | ⟨k, k0, k1, k2⟩
    · omega
    · have h1 := (dK_lt (hr _) ht).mp k1
      by_cases cc : 0 < c - g (H - (j + 1)) k
      · obtain ⟨n, n0, n1, n2⟩ := dL_at hg hr (H := H) j (t - k) (c - g (H - (j + 1)) k) (by omega) cc (by omega)
        refine ⟨n + k, by omega, by omega, ?_⟩
        have h3 : g (H - (j + 1)) k + dX g r H j (n + k - k) ≤ dX g r H (j + 1) (n + k) := zmx_ge (v := fun q => g (H - (j + 1)) q + dX g r H j (n + k - q)) k0 ((dK_lt (hr _) (by omega)).mpr ⟨h1.1, by omega⟩)
        rw [show n + k - k = n by omega] at h3
        omega
      · have hz : 0 ≤ dX g r H j 0 := by
          clear h k2 h1 k1 k0 cc
          induction j with
          | zero => unfold dX; simp
          | succ j ih =>
            have h3 : g (H - (j + 1)) 0 + dX g r H j (0 - 0) ≤ dX g r H (j + 1) 0 := zmx_ge (v := fun q => g (H - (j + 1)) q + dX g r H j (0 - q)) (Int.le_refl _) ((dK_lt (hr _) (by omega)).mpr ⟨hr _, by omega⟩)
            have h4 := hg (H - (j + 1)) 0
            rw [Int.sub_self] at h3
            omega
        refine ⟨k, k0, by omega, ?_⟩
        have h3 : g (H - (j + 1)) k + dX g r H j (k - k) ≤ dX g r H (j + 1) k := zmx_ge (v := fun q => g (H - (j + 1)) q + dX g r H j (k - q)) k0 ((dK_lt (hr _) k0).mpr ⟨h1.1, by omega⟩)
        rw [Int.sub_self] at h3
        omega
