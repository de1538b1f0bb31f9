/-! one bit of a word -/
theorem zb_int (x : Int32) : zb x.toInt = x := Int32.ofInt_toInt x
theorem zbit_b {x : BitVec 32} : (x &&& 1#32).toInt = if x.getLsbD 0 = true then 1 else 0 := by
  have h1 : (x &&& 1#32).toNat = x.toNat % 2 := by
    rw [BitVec.toNat_and]
    exact Nat.and_one_is_mod _
  rw [BitVec.toInt_eq_toNat_of_lt (by omega), h1]
  have h2 : x.getLsbD 0 = decide (x.toNat % 2 = 1) := by
    rw [BitVec.getLsbD, Nat.testBit_zero]
  rw [h2]
  have : x.toNat % 2 = 0 ∨ x.toNat % 2 = 1 := by omega
  rcases this with h | h <;> rw [h] <;> rfl
theorem zbit_get {s : Int} : ∀ k : Nat, k < 10 → zbit s (k : Int) = if (zb s).toBitVec.getLsbD k = true then 1 else 0 := by
  intro k hk
  unfold zbit zand zshr
  rw [zb_int]
  generalize zb s = x
  have h1 : ∀ y : Int32, (y &&& zb 1).toInt = (y.toBitVec &&& 1#32).toInt := fun y => rfl
  rw [h1, zbit_b]
  have h2 : (x >>> (zb (k : Int) &&& 31)).toBitVec = x.toBitVec.sshiftRight k := by
    rcases (show k = 0 ∨ k = 1 ∨ k = 2 ∨ k = 3 ∨ k = 4 ∨ k = 5 ∨ k = 6 ∨ k = 7 ∨ k = 8 ∨ k = 9 by omega) with rfl | rfl | rfl | rfl | rfl | rfl | rfl | rfl | rfl | rfl <;> rfl
  rw [h2, BitVec.getLsbD_sshiftRight]
  have h3 : (decide (32 ≤ 0)) = false := rfl
  rw [h3]
  have h4 : k < 32 := by omega
  simp [h4]
theorem zbit_and {a b h : Int} (h0 : 0 ≤ h) (h1 : h < 10) : zbit (zand a b) h ≠ 0 ↔ zbit a h ≠ 0 ∧ zbit b h ≠ 0 := by
  obtain ⟨k, rfl⟩ := Int.eq_ofNat_of_zero_le h0
  have hk : k < 10 := by omega
  rw [zbit_get k hk, zbit_get k hk, zbit_get k hk]
  have : (zb (zand a b)).toBitVec = (zb a).toBitVec &&& (zb b).toBitVec := by
    unfold zand
    rw [zb_int]
    rfl
  rw [this, BitVec.getLsbD_and]
  cases (zb a).toBitVec.getLsbD k <;> cases (zb b).toBitVec.getLsbD k <;> simp
theorem zbit_or {a b h : Int} (h0 : 0 ≤ h) (h1 : h < 10) : zbit (zor a b) h ≠ 0 ↔ zbit a h ≠ 0 ∨ zbit b h ≠ 0 := by
  obtain ⟨k, rfl⟩ := Int.eq_ofNat_of_zero_le h0
  have hk : k < 10 := by omega
  rw [zbit_get k hk, zbit_get k hk, zbit_get k hk]
  have : (zb (zor a b)).toBitVec = (zb a).toBitVec ||| (zb b).toBitVec := by
    unfold zor
    rw [zb_int]
    rfl
  rw [this, BitVec.getLsbD_or]
  cases (zb a).toBitVec.getLsbD k <;> cases (zb b).toBitVec.getLsbD k <;> simp
theorem zbit_not {a h : Int} (h0 : 0 ≤ h) (h1 : h < 10) : zbit (zxor a (-1)) h ≠ 0 ↔ zbit a h = 0 := by
  obtain ⟨k, rfl⟩ := Int.eq_ofNat_of_zero_le h0
  have hk : k < 10 := by omega
  rw [zbit_get k hk, zbit_get k hk]
  have : (zb (zxor a (-1))).toBitVec = (zb a).toBitVec ^^^ (BitVec.allOnes 32) := by
    unfold zxor
    rw [zb_int]
    rfl
  rw [this, BitVec.getLsbD_xor, BitVec.getLsbD_allOnes]
  have h3 : decide (k < 32) = true := decide_eq_true (by omega)
  rw [h3]
  cases (zb a).toBitVec.getLsbD k <;> simp
