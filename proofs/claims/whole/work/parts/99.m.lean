/-! the fewest irons: shares, numbers alone -/
theorem zfnd_spec {p : Int → Bool} : ∀ (n : Nat) (k : Int), 0 ≤ k → (zfnd p n k = -1 ∧ ∀ i, k ≤ i → i < k + n → p i = false) ∨ (k ≤ zfnd p n k ∧ zfnd p n k < k + n ∧ p (zfnd p n k) = true ∧ ∀ i, k ≤ i → i < zfnd p n k → p i = false)
  | 0, k, _ => Or.inl ⟨rfl, fun i h1 h2 => by omega⟩
  | n + 1, k, h0 => by
    unfold zfnd
    by_cases c : p k = true
    · rw [if_pos c]
      exact Or.inr ⟨Int.le_refl _, by omega, c, fun i h1 h2 => by omega⟩
    · rw [if_neg c]
      have c2 : p k = false := by cases h : p k <;> simp_all
      rcases zfnd_spec (p := p) n (k + 1) (by omega) with ⟨h1, h2⟩ | ⟨h1, h2, h3, h4⟩
      · refine Or.inl ⟨h1, fun i i0 i1 => ?_⟩
        by_cases ci : i = k
        · rw [ci]; exact c2
        · exact h2 i (by omega) (by omega)
      · refine Or.inr ⟨by omega, by omega, h3, fun i i0 i1 => ?_⟩
        by_cases ci : i = k
        · rw [ci]; exact c2
        · exact h4 i (by omega) i1
/-- the first k from k0 on, at most n further -/
def zsr (p : Int → Bool) : Nat → Int → Int
  | 0, k => k
  | n + 1, k => if p k = true then k else zsr p n (k + 1)
theorem zsr_spec {p : Int → Bool} : ∀ (n : Nat) (k : Int), (∃ i, k ≤ i ∧ i ≤ k + n ∧ p i = true) → k ≤ zsr p n k ∧ zsr p n k ≤ k + n ∧ p (zsr p n k) = true ∧ ∀ i, k ≤ i → i < zsr p n k → p i = false
  | 0, k, ⟨i, i0, i1, i2⟩ => by
    have e : i = k := by omega
    subst e
    unfold zsr
    exact ⟨Int.le_refl _, by omega, i2, fun j h1 h2 => by omega⟩
  | n + 1, k, ⟨i, i0, i1, i2⟩ => by
    unfold zsr
    by_cases c : p k = true
    · rw [if_pos c]
      exact ⟨Int.le_refl _, by omega, c, fun i h1 h2 => by omega⟩
    · rw [if_neg c]
      have c2 : p k = false := by cases h : p k <;> simp_all
      have hik : i ≠ k := fun z => c (by rw [← z]; exact i2)
      obtain ⟨h1, h2, h3, h4⟩ := zsr_spec (p := p) n (k + 1) ⟨i, by omega, by omega, i2⟩
      refine ⟨by omega, by omega, h3, fun a a0 a1 => ?_⟩
      by_cases ca : a = k
      · rw [ca]; exact c2
      · exact h4 a (by omega) a1
section DPs
variable {g : Int → Int → Int} {r : Int → Int} {H : Int}
theorem dX_0 (hg : ∀ h k, 0 ≤ g h k ∧ g h k ≤ 100) (hr : ∀ h, 0 ≤ r h) : ∀ j : Nat, 0 ≤ dX g r H j 0
  | 0 => by unfold dX; simp
  | j + 1 => by
    have ih := dX_0 hg hr j
    have h3 : g (H - (j + 1)) 0 + dX g r H j (0 - 0) ≤ dX g r H (j + 1) 0 := zmx_ge (v := fun q => g (H - (j + 1)) q + dX g r H j (0 - q)) (Int.le_refl _) ((dK_lt (hr _) (by omega)).mpr ⟨hr _, by omega⟩)
    have h4 := hg (H - (j + 1)) 0
    rw [Int.sub_self] at h3
    omega
/-- the first that is loud enough is the same by both rows -/
theorem dFirst (hg : ∀ h k, 0 ≤ g h k ∧ g h k ≤ 100) (hr : ∀ h, 0 ≤ r h) (j : Nat) {c : Int} (hc : 0 < c) (n : Nat) : zfnd (fun t => decide (c ≤ dL g r H j t)) n 0 = zfnd (fun t => decide (c ≤ dX g r H j t)) n 0 := by
  have hLX : ∀ t, 0 ≤ t → c ≤ dX g r H j t → c ≤ dL g r H j t := fun t t0 h => by
    have := dX_le_dL (H := H) hg hr j t t t0 (Int.le_refl _)
    omega
  rcases zfnd_spec (p := fun t => decide (c ≤ dL g r H j t)) n 0 (Int.le_refl _) with ⟨a1, a2⟩ | ⟨a1, a2, a3, a4⟩
  · rcases zfnd_spec (p := fun t => decide (c ≤ dX g r H j t)) n 0 (Int.le_refl _) with ⟨b1, b2⟩ | ⟨b1, b2, b3, b4⟩
    · rw [a1, b1]
    · have h1 := a2 _ b1 (by omega)
      have h2 := hLX _ b1 (of_decide_eq_true b3)
      rw [decide_eq_true h2] at h1
      cases h1
  · rcases zfnd_spec (p := fun t => decide (c ≤ dX g r H j t)) n 0 (Int.le_refl _) with ⟨b1, b2⟩ | ⟨b1, b2, b3, b4⟩
    · obtain ⟨m, m0, m1, m2⟩ := dL_at (H := H) hg hr j _ c a1 hc (of_decide_eq_true a3)
      have h1 := b2 m m0 (by omega)
      rw [decide_eq_true m2] at h1
      cases h1
    · obtain ⟨m, m0, m1, m2⟩ := dL_at (H := H) hg hr j _ c a1 hc (of_decide_eq_true a3)
      generalize zfnd (fun t => decide (c ≤ dL g r H j t)) n 0 = A at *
      generalize zfnd (fun t => decide (c ≤ dX g r H j t)) n 0 = B at *
      have h3 : B ≤ m := by
        by_cases h : m < B
        · have := b4 m m0 h
          rw [decide_eq_true m2] at this
          cases this
        · omega
      have h4 : A ≤ B := by
        by_cases h : B < A
        · have := a4 B b1 h
          rw [decide_eq_true (hLX B b1 (of_decide_eq_true b3))] at this
          cases this
        · omega
      omega
/-- enough, and with fewer not -/
def dInv (g : Int → Int → Int) (r : Int → Int) (H : Int) (j : Nat) (left c : Int) : Prop := 0 ≤ left ∧ -5000 ≤ c ∧ c ≤ dX g r H j left ∧ ∀ n, 0 ≤ n → n < left → dX g r H j n < c
theorem dX_step (hr : ∀ h, 0 ≤ r h) {j : Nat} {k n : Int} (k0 : 0 ≤ k) (k1 : k ≤ r (H - (j + 1))) (n0 : 0 ≤ n) : g (H - (j + 1)) k + dX g r H j n ≤ dX g r H (j + 1) (k + n) := by
  have h3 : g (H - (j + 1)) k + dX g r H j (k + n - k) ≤ dX g r H (j + 1) (k + n) := zmx_ge (v := fun q => g (H - (j + 1)) q + dX g r H j (k + n - q)) k0 ((dK_lt (hr _) (by omega)).mpr ⟨k1, by omega⟩)
  rwa [show k + n - k = n by omega] at h3
/-- the same k stops both -/
theorem dStop (hg : ∀ h k, 0 ≤ g h k ∧ g h k ≤ 100) (hr : ∀ h, 0 ≤ r h) {j : Nat} {left c k : Int} (hI : dInv g r H (j + 1) left c) (k0 : 0 ≤ k) (k1 : k ≤ r (H - (j + 1))) (k2 : k ≤ left) : c ≤ g (H - (j + 1)) k + dL g r H j (left - k) ↔ c ≤ g (H - (j + 1)) k + dX g r H j (left - k) := by
  obtain ⟨l0, -, i1, i2⟩ := hI
  constructor
  · intro h
    by_cases cc : 0 < c - g (H - (j + 1)) k
    · obtain ⟨m, m0, m1, m2⟩ := dL_at (H := H) hg hr j (left - k) (c - g (H - (j + 1)) k) (by omega) cc (by omega)
      by_cases cm : m = left - k
      · rw [← cm]; omega
      · have h1 := dX_step (g := g) (H := H) hr k0 k1 m0
        have h2 := i2 (k + m) (by omega) (by omega)
        omega
    · have hz := dX_0 (H := H) hg hr j
      by_cases cm : k = left
      · rw [cm, Int.sub_self, ← cm]; omega
      · have h1 := dX_step (g := g) (H := H) hr (j := j) (n := 0) k0 k1 (Int.le_refl _)
        have h2 := i2 (k + 0) (by omega) (by omega)
        omega
  · intro h
    have := dX_le_dL (H := H) hg hr j (left - k) (left - k) (by omega) (Int.le_refl _)
    omega
/-- how many a hand gets -/
def dN (g : Int → Int → Int) (r : Int → Int) (H : Int) (j : Nat) (left c : Int) : Int := zsr (fun k => decide (c ≤ g (H - (j + 1)) k + dX g r H j (left - k))) (sMin (r (H - (j + 1))) left).toNat 0
theorem dN_ok (hg : ∀ h k, 0 ≤ g h k ∧ g h k ≤ 100) (hr : ∀ h, 0 ≤ r h) {j : Nat} {left c : Int} (hI : dInv g r H (j + 1) left c) : 0 ≤ dN g r H j left c ∧ dN g r H j left c ≤ r (H - (j + 1)) ∧ dN g r H j left c ≤ left ∧ c ≤ g (H - (j + 1)) (dN g r H j left c) + dX g r H j (left - dN g r H j left c) ∧ ∀ i, 0 ≤ i → i < dN g r H j left c → g (H - (j + 1)) i + dX g r H j (left - i) < c := by
  obtain ⟨l0, c0, i1, i2⟩ := hI
  have hx : ∃ i, 0 ≤ i ∧ i ≤ 0 + ((sMin (r (H - (j + 1))) left).toNat : Int) ∧ decide (c ≤ g (H - (j + 1)) i + dX g r H j (left - i)) = true := by
    rw [show dX g r H (j + 1) left = zmx (fun k => g (H - (j + 1)) k + dX g r H j (left - k)) (dK (r (H - (j + 1))) left) (-1000000) from rfl] at i1
    rcases zmx_at _ i1 with h | ⟨k, k0, k1, k2⟩
    · omega
    · have h1 := (dK_lt (hr _) l0).mp k1
      refine ⟨k, k0, ?_, decide_eq_true k2⟩
      unfold sMin
      split <;> omega
  obtain ⟨a1, a2, a3, a4⟩ := zsr_spec _ _ hx
  have hrr := hr (H - (j + 1))
  have a5 : zsr (fun k => decide (c ≤ g (H - (j + 1)) k + dX g r H j (left - k))) (sMin (r (H - (j + 1))) left).toNat 0 ≤ sMin (r (H - (j + 1))) left := by
    have : 0 ≤ sMin (r (H - (j + 1))) left := by unfold sMin; split <;> omega
    omega
  unfold dN
  generalize zsr (fun k => decide (c ≤ g (H - (j + 1)) k + dX g r H j (left - k))) (sMin (r (H - (j + 1))) left).toNat 0 = K at *
  have a6 : K ≤ r (H - (j + 1)) ∧ K ≤ left := by unfold sMin at a5; split at a5 <;> omega
  exact ⟨a1, a6.1, a6.2, of_decide_eq_true a3, fun i i0 i1 => by have := of_decide_eq_false (a4 i i0 i1); omega⟩
theorem dInv_next (hg : ∀ h k, 0 ≤ g h k ∧ g h k ≤ 100) (hr : ∀ h, 0 ≤ r h) {j : Nat} {left c : Int} (hc : -5000 + 100 ≤ c) (hI : dInv g r H (j + 1) left c) : dInv g r H j (left - dN g r H j left c) (c - g (H - (j + 1)) (dN g r H j left c)) := by
  obtain ⟨a1, a2, a3, a4, a5⟩ := dN_ok hg hr hI
  obtain ⟨l0, c0, i1, i2⟩ := hI
  generalize dN g r H j left c = K at *
  have hgk := hg (H - (j + 1)) K
  refine ⟨by omega, by omega, by omega, fun n n0 n1 => ?_⟩
  have h1 := dX_step (g := g) (H := H) hr a1 a2 n0
  have h2 := i2 (K + n) (by omega) (by omega)
  omega
end DPs
