/-! both tapes at the same token -/
def bsP (r3 r8 : Int → Int) (s l n b3 b4 b5 f f10 : Int) : Prop := (0 ≤ s) ∧ (s ≤ 940) ∧ (0 < l) ∧ (l ≤ 900) ∧ (0 ≤ n) ∧ (n ≤ s) ∧ (b3 = s) ∧ (b4 = l) ∧ (b5 = n) ∧ (∀ i, 0 ≤ i → i < 940 → r8 i = r3 i ∧ 0 ≤ r3 i ∧ r3 i ≤ 255) ∧ (f = 0) ∧ (f10 = 0)
theorem bsP.s0 {r3 r8 : Int → Int} {s l n b3 b4 b5 f f10 : Int} (hP : bsP r3 r8 s l n b3 b4 b5 f f10) : 0 ≤ s := hP.1
theorem bsP.s1 {r3 r8 : Int → Int} {s l n b3 b4 b5 f f10 : Int} (hP : bsP r3 r8 s l n b3 b4 b5 f f10) : s ≤ 940 := hP.2.1
theorem bsP.l0 {r3 r8 : Int → Int} {s l n b3 b4 b5 f f10 : Int} (hP : bsP r3 r8 s l n b3 b4 b5 f f10) : 0 < l := hP.2.2.1
theorem bsP.l1 {r3 r8 : Int → Int} {s l n b3 b4 b5 f f10 : Int} (hP : bsP r3 r8 s l n b3 b4 b5 f f10) : l ≤ 900 := hP.2.2.2.1
theorem bsP.n0 {r3 r8 : Int → Int} {s l n b3 b4 b5 f f10 : Int} (hP : bsP r3 r8 s l n b3 b4 b5 f f10) : 0 ≤ n := hP.2.2.2.2.1
theorem bsP.n1 {r3 r8 : Int → Int} {s l n b3 b4 b5 f f10 : Int} (hP : bsP r3 r8 s l n b3 b4 b5 f f10) : n ≤ s := hP.2.2.2.2.2.1
theorem bsP.e3 {r3 r8 : Int → Int} {s l n b3 b4 b5 f f10 : Int} (hP : bsP r3 r8 s l n b3 b4 b5 f f10) : b3 = s := hP.2.2.2.2.2.2.1
theorem bsP.e4 {r3 r8 : Int → Int} {s l n b3 b4 b5 f f10 : Int} (hP : bsP r3 r8 s l n b3 b4 b5 f f10) : b4 = l := hP.2.2.2.2.2.2.2.1
theorem bsP.e5 {r3 r8 : Int → Int} {s l n b3 b4 b5 f f10 : Int} (hP : bsP r3 r8 s l n b3 b4 b5 f f10) : b5 = n := hP.2.2.2.2.2.2.2.2.1
theorem bsP.bt {r3 r8 : Int → Int} {s l n b3 b4 b5 f f10 : Int} (hP : bsP r3 r8 s l n b3 b4 b5 f f10) : ∀ i, 0 ≤ i → i < 940 → r8 i = r3 i ∧ 0 ≤ r3 i ∧ r3 i ≤ 255 := hP.2.2.2.2.2.2.2.2.2.1
theorem bsP.f0 {r3 r8 : Int → Int} {s l n b3 b4 b5 f f10 : Int} (hP : bsP r3 r8 s l n b3 b4 b5 f f10) : f = 0 := hP.2.2.2.2.2.2.2.2.2.2.1
theorem bsP.g0 {r3 r8 : Int → Int} {s l n b3 b4 b5 f f10 : Int} (hP : bsP r3 r8 s l n b3 b4 b5 f f10) : f10 = 0 := hP.2.2.2.2.2.2.2.2.2.2.2
def bsR (A B : zM) : Prop := bsP (A 3) (B 198) (A 2 1) (A 2 2) (A 2 3) (B 197 3) (B 197 4) (B 197 5) (A 2 10) (B 197 10)
def tkP (s l n p h v w a g b6 b7 b8 b9 b12 : Int) : Prop := (b6 = p) ∧ (0 ≤ p) ∧ (p ≤ 900) ∧ (0 ≤ h ∧ h ≤ 4) ∧ (∀ k, 0 ≤ k → k < 32 → (w = wk k ↔ b7 = 2 ∧ b12 = z27 k)) ∧ (w = 2 ↔ b7 = 2 ∧ ∀ k, 0 ≤ k → k < 32 → b12 ≠ z27 k) ∧ (w = 2 → nmR a b12) ∧ (1 ≤ w ∧ w ≤ 34) ∧ (h ≠ 2 → w = 1) ∧ (h = 2 → b7 = 2) ∧ (∀ c, c ≠ 46 → 0 ≤ c → (g = c ↔ b7 = 4 ∧ b9 = c)) ∧ (-1 ≤ g ∧ g ≤ 255) ∧ (h = 4 ↔ g ≠ -1) ∧ (h = 3 ↔ b7 = 3) ∧ (h = 3 → b8 = v ∧ 0 ≤ v ∧ v ≤ 999) ∧ (b7 = 0 ↔ h = 0 ∧ s ≤ l) ∧ (h = 0 → l < s → b7 = 1) ∧ (h = 0 → p = if l < s then l else s) ∧ (h ≠ 0 → p < n ∧ p < l)
theorem tkP.e6 {s l n p h v w a g b6 b7 b8 b9 b12 : Int} (hP : tkP s l n p h v w a g b6 b7 b8 b9 b12) : b6 = p := hP.1
theorem tkP.p0 {s l n p h v w a g b6 b7 b8 b9 b12 : Int} (hP : tkP s l n p h v w a g b6 b7 b8 b9 b12) : 0 ≤ p := hP.2.1
theorem tkP.p1 {s l n p h v w a g b6 b7 b8 b9 b12 : Int} (hP : tkP s l n p h v w a g b6 b7 b8 b9 b12) : p ≤ 900 := hP.2.2.1
theorem tkP.hb {s l n p h v w a g b6 b7 b8 b9 b12 : Int} (hP : tkP s l n p h v w a g b6 b7 b8 b9 b12) : 0 ≤ h ∧ h ≤ 4 := hP.2.2.2.1
theorem tkP.wd {s l n p h v w a g b6 b7 b8 b9 b12 : Int} (hP : tkP s l n p h v w a g b6 b7 b8 b9 b12) : ∀ k, 0 ≤ k → k < 32 → (w = wk k ↔ b7 = 2 ∧ b12 = z27 k) := hP.2.2.2.2.1
theorem tkP.nm {s l n p h v w a g b6 b7 b8 b9 b12 : Int} (hP : tkP s l n p h v w a g b6 b7 b8 b9 b12) : w = 2 ↔ b7 = 2 ∧ ∀ k, 0 ≤ k → k < 32 → b12 ≠ z27 k := hP.2.2.2.2.2.1
theorem tkP.nr {s l n p h v w a g b6 b7 b8 b9 b12 : Int} (hP : tkP s l n p h v w a g b6 b7 b8 b9 b12) : w = 2 → nmR a b12 := hP.2.2.2.2.2.2.1
theorem tkP.wb {s l n p h v w a g b6 b7 b8 b9 b12 : Int} (hP : tkP s l n p h v w a g b6 b7 b8 b9 b12) : 1 ≤ w ∧ w ≤ 34 := hP.2.2.2.2.2.2.2.1
theorem tkP.w1 {s l n p h v w a g b6 b7 b8 b9 b12 : Int} (hP : tkP s l n p h v w a g b6 b7 b8 b9 b12) : h ≠ 2 → w = 1 := hP.2.2.2.2.2.2.2.2.1
theorem tkP.wo {s l n p h v w a g b6 b7 b8 b9 b12 : Int} (hP : tkP s l n p h v w a g b6 b7 b8 b9 b12) : h = 2 → b7 = 2 := hP.2.2.2.2.2.2.2.2.2.1
theorem tkP.sg {s l n p h v w a g b6 b7 b8 b9 b12 : Int} (hP : tkP s l n p h v w a g b6 b7 b8 b9 b12) : ∀ c, c ≠ 46 → 0 ≤ c → (g = c ↔ b7 = 4 ∧ b9 = c) := hP.2.2.2.2.2.2.2.2.2.2.1
theorem tkP.gb {s l n p h v w a g b6 b7 b8 b9 b12 : Int} (hP : tkP s l n p h v w a g b6 b7 b8 b9 b12) : -1 ≤ g ∧ g ≤ 255 := hP.2.2.2.2.2.2.2.2.2.2.2.1
theorem tkP.sh {s l n p h v w a g b6 b7 b8 b9 b12 : Int} (hP : tkP s l n p h v w a g b6 b7 b8 b9 b12) : h = 4 ↔ g ≠ -1 := hP.2.2.2.2.2.2.2.2.2.2.2.2.1
theorem tkP.nu {s l n p h v w a g b6 b7 b8 b9 b12 : Int} (hP : tkP s l n p h v w a g b6 b7 b8 b9 b12) : h = 3 ↔ b7 = 3 := hP.2.2.2.2.2.2.2.2.2.2.2.2.2.1
theorem tkP.nv {s l n p h v w a g b6 b7 b8 b9 b12 : Int} (hP : tkP s l n p h v w a g b6 b7 b8 b9 b12) : h = 3 → b8 = v ∧ 0 ≤ v ∧ v ≤ 999 := hP.2.2.2.2.2.2.2.2.2.2.2.2.2.2.1
theorem tkP.en {s l n p h v w a g b6 b7 b8 b9 b12 : Int} (hP : tkP s l n p h v w a g b6 b7 b8 b9 b12) : b7 = 0 ↔ h = 0 ∧ s ≤ l := hP.2.2.2.2.2.2.2.2.2.2.2.2.2.2.2.1
theorem tkP.en1 {s l n p h v w a g b6 b7 b8 b9 b12 : Int} (hP : tkP s l n p h v w a g b6 b7 b8 b9 b12) : h = 0 → l < s → b7 = 1 := hP.2.2.2.2.2.2.2.2.2.2.2.2.2.2.2.2.1
theorem tkP.ed {s l n p h v w a g b6 b7 b8 b9 b12 : Int} (hP : tkP s l n p h v w a g b6 b7 b8 b9 b12) : h = 0 → p = if l < s then l else s := hP.2.2.2.2.2.2.2.2.2.2.2.2.2.2.2.2.2.1
theorem tkP.pg {s l n p h v w a g b6 b7 b8 b9 b12 : Int} (hP : tkP s l n p h v w a g b6 b7 b8 b9 b12) : h ≠ 0 → p < n ∧ p < l := hP.2.2.2.2.2.2.2.2.2.2.2.2.2.2.2.2.2.2
def tkR (A B : zM) : Prop := bsR A B ∧ tkP (A 2 1) (A 2 2) (A 2 3) (A 2 4) (A 2 5) (A 2 6) (A 2 7) (A 2 8) (A 2 9) (B 197 6) (B 197 7) (B 197 8) (B 197 9) (B 197 12)
theorem bsR_fr {A B A' B' : zM} (h : bsR A B) (a : ∀ x y, (x = 2 ∧ (1 ≤ y ∧ y ≤ 3 ∨ y = 10)) ∨ x = 3 → A' x y = A x y) (b : ∀ x y, (x = 197 ∧ (3 ≤ y ∧ y ≤ 5 ∨ y = 10)) ∨ x = 198 → B' x y = B x y) : bsR A' B' := by
  have r3 : A' 3 = A 3 := funext fun i => a _ _ (Or.inr rfl)
  have r8 : B' 198 = B 198 := funext fun i => b _ _ (Or.inr rfl)
  unfold bsR at h ⊢
  rw [r3, r8, a 2 1 (by omega), a 2 2 (by omega), a 2 3 (by omega), a 2 10 (by omega), b 197 3 (by omega), b 197 4 (by omega), b 197 5 (by omega), b 197 10 (by omega)]
  exact h
theorem tkR_fr {A B A' B' : zM} (h : tkR A B) (a : ∀ x y, (x = 2 ∧ 1 ≤ y ∧ y ≤ 10) ∨ x = 3 → A' x y = A x y) (b : ∀ x y, (x = 197 ∧ 3 ≤ y ∧ y ≤ 12) ∨ x = 198 → B' x y = B x y) : tkR A' B' := by
  obtain ⟨h1, h2⟩ := h
  refine ⟨bsR_fr h1 (fun x y z => a x y (by omega)) (fun x y z => b x y (by omega)), ?_⟩
  rw [a 2 1 (by omega), a 2 2 (by omega), a 2 3 (by omega), a 2 4 (by omega), a 2 5 (by omega), a 2 6 (by omega), a 2 7 (by omega), a 2 8 (by omega), a 2 9 (by omega), b 197 6 (by omega), b 197 7 (by omega), b 197 8 (by omega), b 197 9 (by omega), b 197 12 (by omega)]
  exact h2
theorem nLf_congr {f g : Int → Int} {p : Int} : ∀ m : Nat, (∀ i : Nat, i < m → f (p + i) = g (p + i)) → nLf f p m = nLf g p m ∧ RLf f p m = RLf g p m ∧ NLf f p m = NLf g p m
  | 0, _ => ⟨rfl, rfl, rfl⟩
  | m + 1, h => by
    obtain ⟨a, b, c⟩ := nLf_congr (f := f) (g := g) (p := p) m (fun i hi => h i (by omega))
    have e := h m (by omega)
    refine ⟨?_, ?_, ?_⟩
    · unfold nLf; rw [a, e]
    · unfold RLf; rw [b, e]
    · unfold NLf; rw [c, e]
theorem tk_no {s l n p h v w a g b6 b7 b8 b9 b12 : Int} (hb : 0 ≤ p ∧ p < n ∧ p < l ∧ l ≤ 900) (h6 : b6 = p) (hh : h = 1) (hw : w = 1) (hg : g = -1) (h7 : b7 = 1) : tkP s l n p h v w a g b6 b7 b8 b9 b12 := by
  refine ⟨?_, ?_, ?_, ?_, ?_, ?_, ?_, ?_, ?_, ?_, ?_, ?_, ?_, ?_, ?_, ?_, ?_, ?_, ?_⟩
  · exact h6
  · exact hb.1
  · omega
  · omega
  · exact fun k k0 k1 => by
      have := (zlet_t k0 k1).2.2.2
      constructor <;> intro <;> omega
  · constructor <;> intro <;> omega
  · omega
  · omega
  · exact fun _ => hw
  · omega
  · exact fun c c1 c2 => by constructor <;> intro <;> omega
  · omega
  · constructor <;> intro <;> omega
  · constructor <;> intro <;> omega
  · omega
  · constructor <;> intro <;> omega
  · omega
  · omega
  · omega
theorem tk_end {s l n p h v w a g b6 b7 b8 b9 b12 : Int} (hl : 0 < l ∧ l ≤ 900 ∧ 0 ≤ s) (hp : p = if l < s then l else s) (h6 : b6 = p) (hh : h = 0) (hw : w = 1) (hg : g = -1) (h7 : s ≤ l → b7 = 0) (h7' : l < s → b7 = 1) : tkP s l n p h v w a g b6 b7 b8 b9 b12 := by
  refine ⟨?_, ?_, ?_, ?_, ?_, ?_, ?_, ?_, ?_, ?_, ?_, ?_, ?_, ?_, ?_, ?_, ?_, ?_, ?_⟩
  · exact h6
  · rw [hp]; split <;> omega
  · rw [hp]; split <;> omega
  · omega
  · exact fun k k0 k1 => by
      have := (zlet_t k0 k1).2.2.2
      by_cases c : s ≤ l
      · have := h7 c
        constructor <;> intro <;> omega
      · have := h7' (by omega)
        constructor <;> intro <;> omega
  · by_cases c : s ≤ l
    · have := h7 c
      constructor <;> intro <;> omega
    · have := h7' (by omega)
      constructor <;> intro <;> omega
  · omega
  · omega
  · exact fun _ => hw
  · omega
  · exact fun c c1 c2 => by
      by_cases c : s ≤ l
      · have := h7 c
        constructor <;> intro <;> omega
      · have := h7' (by omega)
        constructor <;> intro <;> omega
  · omega
  · constructor <;> intro <;> omega
  · by_cases c : s ≤ l
    · have := h7 c
      constructor <;> intro <;> omega
    · have := h7' (by omega)
      constructor <;> intro <;> omega
  · omega
  · by_cases c : s ≤ l
    · have := h7 c
      constructor <;> intro <;> omega
    · have := h7' (by omega)
      constructor <;> intro <;> omega
  · exact fun _ c => h7' c
  · exact fun _ => hp
  · exact fun h => absurd hh h
theorem tk_sign {s l n p h v w a g b6 b7 b8 b9 b12 : Int} (hb : 0 ≤ p ∧ p < n ∧ p < l ∧ l ≤ 900) (h6 : b6 = p) (hw : w = 1) {c : Int} (c0 : 0 ≤ c) (c1 : c ≤ 255) (hs : isS c) (hh : h = 4) (hg : g = c) (h7 : isT c → b7 = 4) (h7' : ¬ isT c → b7 = 1) (h9 : b9 = c) : tkP s l n p h v w a g b6 b7 b8 b9 b12 := by
  have hst : c = 46 ∧ b7 = 1 ∨ c ≠ 46 ∧ b7 = 4 := by
    by_cases t : isT c
    · have := h7 t
      unfold isT at t
      omega
    · have := h7' t
      unfold isT at t
      unfold isS at hs
      omega
  refine ⟨?_, ?_, ?_, ?_, ?_, ?_, ?_, ?_, ?_, ?_, ?_, ?_, ?_, ?_, ?_, ?_, ?_, ?_, ?_⟩
  · exact h6
  · exact hb.1
  · omega
  · omega
  · exact fun k k0 k1 => by
      have := (zlet_t k0 k1).2.2.2
      constructor <;> intro <;> omega
  · constructor <;> intro <;> omega
  · omega
  · omega
  · exact fun _ => hw
  · omega
  · exact fun x x1 x2 => by constructor <;> intro <;> omega
  · omega
  · constructor <;> intro <;> omega
  · constructor <;> intro <;> omega
  · omega
  · constructor <;> intro <;> omega
  · omega
  · omega
  · omega
theorem tk_num {s l n p h v w a g b6 b7 b8 b9 b12 : Int} (hb : 0 ≤ p ∧ p < n ∧ p < l ∧ l ≤ 900) (h6 : b6 = p) (hh : h = 3) (hw : w = 1) (hg : g = -1) (h7 : b7 = 3) (h8 : b8 = v) (v0 : 0 ≤ v) (v1 : v ≤ 999) : tkP s l n p h v w a g b6 b7 b8 b9 b12 := by
  refine ⟨?_, ?_, ?_, ?_, ?_, ?_, ?_, ?_, ?_, ?_, ?_, ?_, ?_, ?_, ?_, ?_, ?_, ?_, ?_⟩
  · exact h6
  · exact hb.1
  · omega
  · omega
  · exact fun k k0 k1 => by
      have := (zlet_t k0 k1).2.2.2
      constructor <;> intro <;> omega
  · constructor <;> intro <;> omega
  · omega
  · omega
  · exact fun _ => hw
  · omega
  · exact fun c c1 c2 => by constructor <;> intro <;> omega
  · omega
  · constructor <;> intro <;> omega
  · constructor <;> intro <;> omega
  · omega
  · constructor <;> intro <;> omega
  · omega
  · omega
  · omega
theorem tk_word {s l n p h v w a g b6 b7 b8 b9 b12 : Int} (hb : 0 ≤ p ∧ p < n ∧ p < l ∧ l ≤ 900) (h6 : b6 = p) (hh : h = 2) (hg : g = -1) (h7 : b7 = 2) {R : List Int} (hn : R ≠ []) (hR : okL R) (ha : a = V32 R) (hw : w = wcO (V32 R)) (h12 : b12 = V27 R) : tkP s l n p h v w a g b6 b7 b8 b9 b12 := by
  refine ⟨?_, ?_, ?_, ?_, ?_, ?_, ?_, ?_, ?_, ?_, ?_, ?_, ?_, ?_, ?_, ?_, ?_, ?_, ?_⟩
  · exact h6
  · exact hb.1
  · omega
  · omega
  · exact fun k k0 k1 => by
      rw [hw, h12, wc_k hn hR k0 k1]
      exact ⟨fun z => ⟨h7, z⟩, fun z => z.2⟩
  · rw [hw, h12, wc_2 hn hR]
    exact ⟨fun z => ⟨h7, z⟩, fun z => z.2⟩
  · exact fun _ => ⟨R, hn, hR, ha, h12⟩
  · have := wc_bd hn hR
    omega
  · omega
  · omega
  · exact fun c c1 c2 => by constructor <;> intro <;> omega
  · omega
  · constructor <;> intro <;> omega
  · constructor <;> intro <;> omega
  · omega
  · constructor <;> intro <;> omega
  · omega
  · omega
  · omega
/-- both go on to the next token -/
theorem p_adv {A B : zM} (h : bsR A B) (dA dB : Nat) (x0 y0 : Int) : ∃ A' B', zEm true (dA + 6) 141 [(27, 2, x0)] A = some ((98, 0, 0), A') ∧ zEm true (dB + 3) 176 [(30, 197, y0)] B = some ((98, 0, 0), B') ∧ tkR A' B' ∧ agA A A' ∧ agG B B' ∧ ∀ q, q < A 2 3 → q < A 2 2 → q < A' 2 4 := by
  have hbs := h
  obtain ⟨s0, s1, l0, l1, n0, n1, e3, e4, e5, bt, f0, g0⟩ := h
  generalize hs : A 2 1 = s at *
  generalize hl : A 2 2 = l at *
  generalize hp : A 2 3 = p at *
  obtain ⟨n, hn⟩ := Int.eq_ofNat_of_zero_le (show 0 ≤ s - p by omega)
  obtain ⟨e, pe, es, hb, hend⟩ := upTo (fun i => isB (A 3 i)) n p
  have hend' : e = s ∨ ¬ isB (A 3 e) := by
    rcases hend with z | z
    · exact Or.inl (by omega)
    · exact Or.inr z
  have hbB : ∀ i, p ≤ i → i < e → isB (B 198 i) := fun i i0 i1 => by
    rw [(bt i (by omega) (by omega)).1]; exact hb i i0 i1
  have fin : ∀ A' B', agA A A' → agG B B' → A' 2 3 = B' 197 5 → p ≤ A' 2 3 → A' 2 3 ≤ s → tkP (A' 2 1) (A' 2 2) (A' 2 3) (A' 2 4) (A' 2 5) (A' 2 6) (A' 2 7) (A' 2 8) (A' 2 9) (B' 197 6) (B' 197 7) (B' 197 8) (B' 197 9) (B' 197 12) → tkR A' B' := fun A' B' hA hB q1 q2 q3 ht => by
    refine ⟨?_, ht⟩
    have r3 : A' 3 = A 3 := funext fun i => hA _ _ (by omega)
    have r8 : B' 198 = B 198 := funext fun i => hB _ _ (by omega)
    unfold bsR
    rw [r3, r8, hA 2 1 (by omega), hA 2 2 (by omega), hA 2 10 (by omega), hB 197 3 (by omega), hB 197 4 (by omega), hB 197 10 (by omega), hs, hl]
    exact ⟨s0, s1, l0, l1, by omega, q3, e3, e4, q1.symm, bt, f0, g0⟩
  by_cases c : s ≤ e ∨ l ≤ e
  · obtain ⟨A', a1, a2, a3, a4, a5, a6, a7⟩ := c_adv1 dA x0 A s l p e hs hl hp s1 n0 pe (by omega) hb hend' c
    have hendB : e = s ∨ ¬ isB (B 198 e) := by
      rcases hend' with z | z
      · exact Or.inl z
      · by_cases ce : e = s
        · exact Or.inl ce
        · right; rw [(bt e (by omega) (by omega)).1]; exact z
    obtain ⟨B', b1, b2, b3, b4, b5, b6⟩ := r_go1 dB y0 B s l p e e3 e4 e5 s1 n0 pe (by omega) hbB hendB c
    refine ⟨A', B', a1, b1, fin A' B' a2 b2 (by omega) (by omega) (by omega) ?_, a2, b2, fun q q1 q2 => ?_⟩
    · have t1 : A' 2 1 = s := by rw [a2 _ _ (by omega)]; exact hs
      have t2 : A' 2 2 = l := by rw [a2 _ _ (by omega)]; exact hl
      rw [t1, t2]
      exact tk_end ⟨l0, l1, s0⟩ a4 (by rw [b4, a4]) a5 a6 a7 b5 b6
    · rw [a4]
      split <;> omega
  · have el : e < l := by omega
    have es' : e < s := by omega
    have hnb : ¬ isB (A 3 e) := hend'.resolve_left (by omega)
    have be := bt e (by omega) (by omega)
    by_cases cA : isA (A 3 e)
    · obtain ⟨k, hk⟩ := Int.eq_ofNat_of_zero_le (show 0 ≤ s - e by omega)
      obtain ⟨e2, ee, es2, ha, hend2⟩ := upTo (fun i => isA (A 3 i)) k e
      have hend2' : e2 = s ∨ ¬ isA (A 3 e2) := by
        rcases hend2 with z | z
        · exact Or.inl (by omega)
        · exact Or.inr z
      have e2e : e < e2 := by
        by_cases z : e = e2
        · rw [← z] at hend2'
          rcases hend2' with z | z
          · omega
          · exact absurd cA z
        · omega
      obtain ⟨m, hm⟩ := Int.eq_ofNat_of_zero_le (show 0 ≤ e2 - e by omega)
      have hm2 : e2 = e + m := by omega
      subst hm2
      obtain ⟨A', a1, a2, a3, a4, a5, a6, a7, a8⟩ := c_adv3 dA x0 A s l p e m hs hl hp s1 n0 pe hb hnb el (by omega) (by omega) ha hend2'
      have haB : ∀ i, e ≤ i → i < e + m → isA (B 198 i) := fun i i0 i1 => by
        rw [(bt i (by omega) (by omega)).1]; exact ha i i0 i1
      have hmB : e + m = s ∨ ¬ isA (B 198 (e + m)) := by
        by_cases z : e + (m : Int) = s
        · exact Or.inl z
        · right
          rw [(bt _ (by omega) (by omega)).1]
          exact hend2'.resolve_left z
      obtain ⟨B', b1, b2, b3, b4, b5, b6, b7⟩ := r_go3 dB y0 B s l p e m e3 e4 e5 s1 n0 pe hbB (by rw [be.1]; exact hnb) el (by omega) (by omega) haB hmB
      obtain ⟨c1, c2, c3⟩ := nLf_congr (f := B 198) (g := A 3) (p := e) m (fun i hi => (bt _ (by omega) (by omega)).1)
      rw [c1] at b5 b6 b7
      rw [c2] at b5
      rw [c3] at b6
      have hbd := nLf_bd (f := A 3) (p := e) m
      have ham : ∀ i : Nat, i < m → isA (A 3 (e + i)) := fun i hi => ha _ (by omega) (by omega)
      refine ⟨A', B', a1, b1, fin A' B' a2 b2 (by omega) (by omega) (by omega) ?_, a2, b2, fun q q1 q2 => by omega⟩
      have t2 : A' 2 2 = l := by rw [a2 _ _ (by omega)]; exact hl
      by_cases d1 : nLf (A 3) e m = m ∧ m ≤ 8
      · obtain ⟨x1, x2, x3⟩ := a6 d1.1 d1.2
        obtain ⟨y1, y2⟩ := b5 d1.1 d1.2
        have hR := RLf_ok m d1.2 d1.1
        have hne : RLf (A 3) e m ≠ [] := fun z => by
          have := RLf_len (f := A 3) (p := e) m
          rw [z] at this
          simp only [List.length_nil] at this
          omega
        exact tk_word (by omega) (by omega) x1 a5 y1 hne hR x2 x3 y2
      · by_cases d2 : nLf (A 3) e m = 0 ∧ m ≤ 3
        · obtain ⟨x1, x2, x3⟩ := a7 d2.1 d2.2
          obtain ⟨y1, y2⟩ := b6 d2.1 d2.2
          have hv := NLf_bd (f := A 3) (p := e) (m := m) d2.2 (nLf_0 ham d2.1)
          exact tk_num (by omega) (by omega) x1 x3 a5 y1 (by omega) (by omega) (by omega)
        · obtain ⟨x1, x2⟩ := a8 d1 d2
          exact tk_no (by omega) (by omega) x1 x2 a5 (b7 d1 d2)
    · obtain ⟨A', a1, a2, a3, a4, a5, a6, a7⟩ := c_adv2 dA x0 A s l p e hs hl hp s1 n0 pe es' hb hnb el cA be.2.1 be.2.2
      obtain ⟨B', b1, b2, b3, b4, b5, b6, b7⟩ := r_go2 dB y0 B s l p e e3 e4 e5 s1 n0 pe es' hbB (by rw [be.1]; exact hnb) el (by rw [be.1]; exact cA)
      rw [be.1] at b5 b6 b7
      refine ⟨A', B', a1, b1, fin A' B' a2 b2 (by omega) (by omega) (by omega) ?_, a2, b2, fun q q1 q2 => by omega⟩
      have t2 : A' 2 2 = l := by rw [a2 _ _ (by omega)]; exact hl
      by_cases d1 : isS (A 3 e)
      · obtain ⟨x1, x2⟩ := a6 d1
        exact tk_sign (by omega) (by omega) a5 be.2.1 be.2.2 d1 x1 x2 b6 b7 b5
      · obtain ⟨x1, x2⟩ := a7 d1
        have nt : ¬ isT (A 3 e) := fun z => d1 (by unfold isS; unfold isT at z; omega)
        exact tk_no (by omega) (by omega) x1 a5 x2 (b7 nt)
