/-! a sentence: the class's steps and the reference's nodes -/
def leafR (kd nu sg w a b r : Int) : Prop := (3 ≤ kd ∧ kd ≤ 10) ∧ w = kd + 71 ∧ (5 ≤ kd → kd ≤ 7 → a = nu ∧ 0 ≤ nu ∧ (6 ≤ kd → nu < 5)) ∧ (8 ≤ kd → b = nu ∧ r = sg ∧ (sg = 60 ∨ sg = 61 ∨ sg = 62))
def gR (K U Z R : Int → Int) : Nat → Int → Int → Int → Prop
  | 0, _, _, _ => False
  | n + 1, f, t, k => (0 ≤ k ∧ k < 60) ∧ (0 ≤ f ∧ t ≤ 40) ∧ ((t = f + 1 ∧ leafR (K f) (U f) (Z f) (R (128 + 4 * k)) (R (128 + 4 * k + 1)) (R (128 + 4 * k + 2)) (R (128 + 4 * k + 3))) ∨ (f < t - 1 ∧ K (t - 1) = 2 ∧ R (128 + 4 * k) = 1 ∧ gR K U Z R n f (t - 1) (R (128 + 4 * k + 1))) ∨ ∃ m, f < m ∧ m < t - 1 ∧ ((K (t - 1) = 1 ∧ R (128 + 4 * k) = 2) ∨ (K (t - 1) = 0 ∧ R (128 + 4 * k) = 3)) ∧ gR K U Z R n f m (R (128 + 4 * k + 1)) ∧ gR K U Z R n m (t - 1) (R (128 + 4 * k + 2)))
def cmpV (v sg n : Int) : Bool := if sg = 60 then decide (v < n) else if sg = 61 then decide (v = n) else decide (n < v)
def leafV (S G : zM) (kd nu sg h : Int) : Bool :=
  if kd = 3 then decide (zbit (S 0 8) h ≠ 0) else if kd = 4 then decide (zbit (G 0 9) h ≠ 0) else if kd = 5 then decide (G 4 h = nu) else if kd = 6 then decide (zbit (S 3 nu) h ≠ 0) else if kd = 7 then decide (zbit (S 4 nu) h ≠ 0) else if kd = 8 then cmpV (S 1 h) sg nu else if kd = 9 then cmpV (S 2 h) sg nu else cmpV h sg nu
/-- of which hand it holds, by the nodes -/
def holdV (S G : zM) (R : Int → Int) (h : Int) : Nat → Int → Bool
  | 0, _ => false
  | n + 1, k => if R (128 + 4 * k) = 1 then !holdV S G R h n (R (128 + 4 * k + 1)) else if R (128 + 4 * k) = 2 then holdV S G R h n (R (128 + 4 * k + 1)) && holdV S G R h n (R (128 + 4 * k + 2)) else if R (128 + 4 * k) = 3 then holdV S G R h n (R (128 + 4 * k + 1)) || holdV S G R h n (R (128 + 4 * k + 2)) else if R (128 + 4 * k) ≤ 78 then leafV S G (R (128 + 4 * k) - 71) (R (128 + 4 * k + 1)) 0 h else leafV S G (R (128 + 4 * k) - 71) (R (128 + 4 * k + 2)) (R (128 + 4 * k + 3)) h
/-! bits of sets -/
def bvI (s : Int) : BitVec 32 := (zb s).toBitVec
theorem zbit_1 : ((List.range 10).all fun h => (List.range 10).all fun k => decide (zbit (zshl 1 h) k ≠ 0) == decide (h = k)) = true := by decide +kernel
theorem zbit_one {h k : Int} (h0 : 0 ≤ h) (h1 : h < 10) (k0 : 0 ≤ k) (k1 : k < 10) : zbit (zshl 1 h) k ≠ 0 ↔ h = k := by
  have := zbit_1
  rw [List.all_eq_true] at this
  have := this h.toNat (List.mem_range.mpr (by omega))
  rw [List.all_eq_true] at this
  have := this k.toNat (List.mem_range.mpr (by omega))
  rw [Int.toNat_of_nonneg h0, Int.toNat_of_nonneg k0] at this
  simp only [beq_iff_eq, decide_eq_decide] at this
  rw [this]
  omega
theorem zbit_a : ((List.range 11).all fun n => (List.range 10).all fun k => (decide (zbit (z32 (zshl 1 n - 1)) k ≠ 0) == decide (k < n)) && decide (0 ≤ z32 (zshl 1 n - 1)) && decide (z32 (zshl 1 n - 1) < 1024)) = true := by decide +kernel
theorem zbit_all {n k : Int} (n0 : 0 ≤ n) (n1 : n ≤ 10) (k0 : 0 ≤ k) (k1 : k < 10) : (zbit (z32 (zshl 1 n - 1)) k ≠ 0 ↔ k < n) ∧ 0 ≤ z32 (zshl 1 n - 1) ∧ z32 (zshl 1 n - 1) < 1024 := by
  have := zbit_a
  rw [List.all_eq_true] at this
  have := this n.toNat (List.mem_range.mpr (by omega))
  rw [List.all_eq_true] at this
  have := this k.toNat (List.mem_range.mpr (by omega))
  rw [Int.toNat_of_nonneg n0, Int.toNat_of_nonneg k0] at this
  simp only [Bool.and_eq_true, beq_iff_eq, decide_eq_decide, decide_eq_true_eq] at this
  obtain ⟨⟨h1, h2⟩, h3⟩ := this
  refine ⟨?_, h2, h3⟩
  rw [h1]
  omega
theorem zand_le {a b : Int} (a0 : 0 ≤ a) (a1 : a < 1024) : 0 ≤ zand a b ∧ zand a b ≤ a := by
  have h4 : (bvI a).toNat = a.toNat := by
    have : bvI a = BitVec.ofInt 32 a := rfl
    rw [this, BitVec.toNat_ofInt]
    omega
  have h5 : (bvI a &&& bvI b).toNat ≤ a.toNat := by
    rw [BitVec.toNat_and, h4]
    exact Nat.and_le_left
  have h1 : zand a b = (bvI a &&& bvI b).toInt := rfl
  rw [h1, BitVec.toInt_eq_toNat_of_lt (by omega)]
  omega
theorem zor_lt {a b : Int} (a0 : 0 ≤ a) (a1 : a < 1024) (b0 : 0 ≤ b) (b1 : b < 1024) : 0 ≤ zor a b ∧ zor a b < 1024 := by
  have h4 : ∀ x : Int, 0 ≤ x → x < 1024 → (bvI x).toNat = x.toNat := by
    intro x x0 x1
    have : bvI x = BitVec.ofInt 32 x := rfl
    rw [this, BitVec.toNat_ofInt]
    omega
  have h5 : (bvI a ||| bvI b).toNat < 2 ^ 10 := by
    rw [BitVec.toNat_or, h4 a a0 a1, h4 b b0 b1]
    exact Nat.or_lt_two_pow (by omega) (by omega)
  have h1 : zor a b = (bvI a ||| bvI b).toInt := rfl
  rw [h1, BitVec.toInt_eq_toNat_of_lt (by omega)]
  omega
/-- a set of hands of which it holds -/
def setOf (n s : Int) (p : Int → Bool) : Prop := (0 ≤ s ∧ s < 1024) ∧ ∀ h, 0 ≤ h → h < 10 → (zbit s h ≠ 0 ↔ (h < n ∧ p h = true))
theorem setOf_and {n s t : Int} {p q : Int → Bool} (hs : setOf n s p) (ht : setOf n t q) : setOf n (zand s t) (fun h => p h && q h) := by
  have := zand_le (b := t) hs.1.1 hs.1.2
  refine ⟨by have := hs.1; omega, fun h h0 h1 => ?_⟩
  rw [zbit_and h0 h1, hs.2 h h0 h1, ht.2 h h0 h1, Bool.and_eq_true]
  constructor
  · rintro ⟨⟨a, b⟩, -, c⟩; exact ⟨a, b, c⟩
  · rintro ⟨a, b, c⟩; exact ⟨⟨a, b⟩, a, c⟩
theorem setOf_or {n s t : Int} {p q : Int → Bool} (hs : setOf n s p) (ht : setOf n t q) : setOf n (zor s t) (fun h => p h || q h) := by
  refine ⟨zor_lt hs.1.1 hs.1.2 ht.1.1 ht.1.2, fun h h0 h1 => ?_⟩
  rw [zbit_or h0 h1, hs.2 h h0 h1, ht.2 h h0 h1, Bool.or_eq_true]
  constructor
  · rintro (⟨a, b⟩ | ⟨a, b⟩)
    · exact ⟨a, Or.inl b⟩
    · exact ⟨a, Or.inr b⟩
  · rintro ⟨a, b | b⟩
    · exact Or.inl ⟨a, b⟩
    · exact Or.inr ⟨a, b⟩
theorem setOf_not {n s : Int} {p : Int → Bool} (n0 : 0 ≤ n) (n1 : n ≤ 10) (hs : setOf n s p) : setOf n (zand (z32 (zshl 1 n - 1)) (zxor s (-1))) (fun h => !p h) := by
  have ha := (zbit_all (k := 0) n0 n1 (by omega) (by omega)).2
  have := zand_le (b := zxor s (-1)) ha.1 ha.2
  refine ⟨by omega, fun h h0 h1 => ?_⟩
  have hk := hs.2 h h0 h1
  rw [zbit_and h0 h1, (zbit_all n0 n1 h0 h1).1, zbit_not h0 h1]
  constructor
  · rintro ⟨a, b⟩
    refine ⟨a, ?_⟩
    show (!p h) = true
    cases hp : p h with
    | false => rfl
    | true => exact absurd b (hk.2 ⟨a, hp⟩)
  · rintro ⟨a, b⟩
    refine ⟨a, ?_⟩
    by_cases c : zbit s h = 0
    · exact c
    · have b : (!p h) = true := b
      rw [(hk.1 c).2] at b; cases b
theorem setOf_eq {n s : Int} {p q : Int → Bool} (hs : setOf n s p) (h : ∀ k, 0 ≤ k → k < n → p k = q k) : setOf n s q := by
  refine ⟨hs.1, fun k k0 k1 => ?_⟩
  rw [hs.2 k k0 k1]
  constructor
  · rintro ⟨a, b⟩; exact ⟨a, by rw [← h k k0 a]; exact b⟩
  · rintro ⟨a, b⟩; exact ⟨a, by rw [h k k0 a]; exact b⟩
theorem setOf_step {h s : Int} {p : Int → Bool} (h0 : 0 ≤ h) (h1 : h < 10) (hs : setOf h s p) : setOf (h + 1) (if p h = true then zor s (zshl 1 h) else s) p := by
  by_cases c : p h = true
  · rw [if_pos c]
    have hz := zbits (s := s) (h := h) hs.1.1 hs.1.2 h0 h1
    refine ⟨hz.2.2.2.1, fun k k0 k1 => ?_⟩
    rw [zbit_or k0 k1, hs.2 k k0 k1, zbit_one h0 h1 k0 k1]
    constructor
    · rintro (⟨a, b⟩ | a)
      · exact ⟨by omega, b⟩
      · exact ⟨by omega, by rw [← a]; exact c⟩
    · rintro ⟨a, b⟩
      by_cases e : h = k
      · exact Or.inr e
      · exact Or.inl ⟨by omega, b⟩
  · rw [if_neg c]
    refine ⟨hs.1, fun k k0 k1 => ?_⟩
    rw [hs.2 k k0 k1]
    constructor
    · rintro ⟨a, b⟩; exact ⟨by omega, b⟩
    · rintro ⟨a, b⟩
      refine ⟨?_, b⟩
      by_cases e : h = k
      · rw [← e] at b; exact absurd b c
      · omega
def sumB (s : Int) : Int := zit (fun h v => v + zbit s h) 10 0 0
theorem kB_sum_all : ((List.range 1024).all fun s => decide (kB 10 s = sumB s)) = true := by decide +kernel
theorem kB_sum {s : Int} (s0 : 0 ≤ s) (s1 : s < 1024) : kB 10 s = sumB s := by
  have := kB_sum_all
  rw [List.all_eq_true] at this
  have := this s.toNat (List.mem_range.mpr (by omega))
  rw [Int.toNat_of_nonneg s0] at this
  simpa using this
/-- how many hands below h are in it -/
def cntP (p : Int → Bool) : Nat → Int → Int → Int
  | 0, _, v => v
  | n + 1, h, v => cntP p n (h + 1) (if p h = true then v + 1 else v)
theorem cnt_tail {n s : Int} {p : Int → Bool} (hs : setOf n s p) : ∀ (m : Nat) (h v : Int), 0 ≤ h ∧ n ≤ h → h + m = 10 → zit (fun h v => v + zbit s h) m h v = v
  | 0, h, v, h0, h2 => rfl
  | m + 1, h, v, h0, h2 => by
    have e : zbit s h = 0 := by
      by_cases c : zbit s h = 0
      · exact c
      · have := (hs.2 h h0.1 (by omega)).1 c; omega
    rw [zit, e, Int.add_zero]
    exact cnt_tail hs m (h + 1) v (by omega) (by omega)
theorem cnt_sum {n s : Int} {p : Int → Bool} (n1 : n ≤ 10) (hs : setOf n s p) : ∀ (j : Nat) (h v : Int) (m : Nat), 0 ≤ h → h + j = n → h + m = 10 → zit (fun h v => v + zbit s h) m h v = cntP p j h v
  | 0, h, v, 0, h0, h1, h2 => rfl
  | 0, h, v, m + 1, h0, h1, h2 => by
    have e : zbit s h = 0 := by
      by_cases c : zbit s h = 0
      · exact c
      · have := (hs.2 h h0 (by omega)).1 c; omega
    rw [zit, e, Int.add_zero]
    exact cnt_tail hs m (h + 1) v (by omega) (by omega)
  | j + 1, h, v, 0, h0, h1, h2 => by
    omega
  | j + 1, h, v, m + 1, h0, h1, h2 => by
    have hk := hs.2 h h0 (by omega)
    rw [zit, cntP, cnt_sum n1 hs j (h + 1) _ m (by omega) (by omega) (by omega)]
    congr 1
    by_cases c : p h = true
    · rw [if_pos c]
      rcases zbit_01 s h with e | e
      · exact absurd e (hk.2 ⟨by omega, c⟩)
      · rw [e]
    · rw [if_neg c]
      rcases zbit_01 s h with e | e
      · rw [e]; omega
      · exact absurd (hk.1 (by omega)).2 c
