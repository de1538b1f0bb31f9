/-! what the machine's heap is to the small machine's memory -/
abbrev zG : Type := List (Nat × Int × Int)
/-- numbers of cells and classes; the first cell of ours; where constants lie; the script -/
abbrev zK : Type := va_G × Nat × (Int → Int → Nat) × Nat × (Nat → Int32)
abbrev zD (K : zK) : va_G := K.1
abbrev zbs (K : zK) : Nat := K.2.1
abbrev zsa (K : zK) : Int → Int → Nat := K.2.2.1
abbrev zL (K : zK) : Nat := K.2.2.2.1
abbrev zxs (K : zK) : Nat → Int32 := K.2.2.2.2
def zA (K : zK) : Nat → Prop := fun q => zbs K ≤ q
def zlenS (K : zK) (t x : Int) : Int := if t = 5 ∨ t = 6 then 34 else if t = 7 then 100 else if t = 16 then zL K else ((zstr.getD x.toNat []).length : Int)
def zrng (t x : Int) : Prop := if t = 4 then 1 ≤ x ∧ x ≤ 34 else if t = 5 ∨ t = 6 then x = 0 else if t = 7 then 0 ≤ x ∧ x < 2 else if t = 16 then x = -2 else 0 ≤ x ∧ x < 8
/-- a number with a tag, and the machine's value -/
def zVR (K : zK) (gs : zG) (v : zV) (rv : Value) : Prop :=
  if v.1 = 0 then ∃ i : Int32, rv = .int i ∧ i.toInt = v.2.1
  else if v.1 = 1 then ∃ i : Int64, rv = .long i ∧ i.toInt = v.2.1
  else if v.1 = 2 then rv = .null
  else if v.1 = 17 then rv = .null ∨ ∃ q, rv = .ref q
  else if (4 ≤ v.1 ∧ v.1 < 10) ∨ v.1 = 16 then rv = .ref (zsa K v.1 v.2.1) ∧ zrng v.1 v.2.1 ∧ (v.1 ≠ 4 → v.2.2 = zlenS K v.1 v.2.1)
  else 10 ≤ v.1 ∧ ∃ k q : Nat, v.2.1 = k ∧ gs[k]? = some (q, v.1, v.2.2) ∧ rv = .ref q
def zVRs (K : zK) (gs : zG) : List zV → List Value → Prop
  | [], [] => True
  | v :: l, r :: rl => zVR K gs v r ∧ zVRs K gs l rl
  | _, _ => False
def zArr (s : State) (cA : ClassId) (ty : FieldType) : Prop := ArrOfT s cA ty ∧ va_RA s cA ty
def zFld (K : zK) (ph : Bool) (gs : zG) (M : zM) (k j : Int) (f : Nat × Int × Int × Int) (rv : Value) : Prop :=
  if f.1 = 60 then zVR K gs (0, M k j, 0) rv
  else if f.1 = 61 then zVR K gs (1, M k j, 0) rv
  else if f.1 = 62 then ((ph = true ∨ M k j = 1) → zVR K gs (f.2.2.1, k + f.2.1, f.2.2.2) rv)
  else if f.1 = 63 then (0 < M k j → zVR K gs (4, M k j, 0) rv)
  else (0 < M k j → zVR K gs (f.2.2.1, M k j, M k (1000 + j)) rv)
def zAel (t : Int) : String := if t = 14 then "ClogVotes$State" else "ClogVotes$Image"
def zAtg (t : Int) : Int := if t = 14 then 26 else 21
def zCell (K : zK) (ph : Bool) (gs : zG) (M : zM) (s : State) (k : Nat) (g : Nat × Int × Int) (w : Nat × va_E) : Prop :=
  w.1 = g.1 ∧
  (if g.2.1 = 10 ∨ g.2.1 = 12 ∨ g.2.1 = 13 then ∃ (cA : ClassId) (f : Nat → Int32), w.2 = .inl (cA, (g.2.2.toNat, .inl f)) ∧ zArr s cA (if g.2.1 = 10 then .int else if g.2.1 = 12 then .boolean else .byte) ∧ (∀ j : Nat, j < g.2.2.toNat → (f j).toInt = M k j) ∧ (g.2.1 = 13 → ∀ j : Nat, j < g.2.2.toNat → -128 ≤ M k j ∧ M k j < 128)
  else if g.2.1 = 11 then ∃ (cA : ClassId) (f : Nat → Int64), w.2 = .inl (cA, (g.2.2.toNat, .inr (.inl f))) ∧ zArr s cA .long ∧ ∀ j : Nat, j < g.2.2.toNat → (f j).toInt = M k j
  else if g.2.1 = 14 ∨ g.2.1 = 15 then ∃ (cA : ClassId) (f : Nat → Option Nat), w.2 = .inl (cA, (g.2.2.toNat, .inr (.inr (.inr (.inr f))))) ∧ zArr s cA (.object (zAel g.2.1)) ∧ ∀ j : Nat, j < g.2.2.toNat → 0 < M k j → ∃ q kk : Nat, M k j = kk ∧ gs[kk]? = some (q, zAtg g.2.1, 0) ∧ f j = some q
  else ∃ c : Nat, g.2.1 = 20 + (c : Int) ∧ g.2.2 = 0 ∧ ∃ (r : vw_C) (fs : List Value), zcls[c]? = some r ∧ w.2 = .inr (c, fs) ∧ fs.length = r.2.2 ∧ ∀ (j : Nat) (rv : Value), fs[j]? = some rv → zFld K ph gs M k j (zfs c j) rv)
def zRel (K : zK) (ph : Bool) (gs : zG) (M : zM) (s : State) (ws : va_W) : Prop :=
  ws.length = gs.length ∧ (∀ (k : Nat) (g : Nat × Int × Int), gs[k]? = some g → 0 ≤ g.2.2 ∧ g.2.2 ≤ 4096) ∧ ∀ (k : Nat) (g : Nat × Int × Int) (w : Nat × va_E), gs[k]? = some g → ws[k]? = some w → zCell K ph gs M s k g w
def zRep (K : zK) (ph : Bool) (gs : zG) (M : zM) (s : State) (H : Heap) : Prop :=
  M (-1) 0 = gs.length ∧ (∀ i : Nat, i < zL K → M (-2) i = (zxs K i).toInt) ∧ ∃ ws : va_W, va_P (zD K) zcls ws H ∧ va_D (zA K) ws ∧ zRel K ph gs M s ws
theorem zVRs_cons {K : zK} {gs : zG} {v : zV} {l : List zV} {rs : List Value} (h : zVRs K gs (v :: l) rs) : ∃ r rl, rs = r :: rl ∧ zVR K gs v r ∧ zVRs K gs l rl := by
  cases rs with
  | nil => exact absurd h (by simp [zVRs])
  | cons r rl => exact ⟨r, rl, rfl, h.1, h.2⟩
theorem zget_app {α : Type} {a b : List α} {k : Nat} {x : α} (h : a[k]? = some x) : (a ++ b)[k]? = some x := by
  rw [List.getElem?_append_left (List.getElem?_eq_some_iff.mp h).1]; exact h
theorem zVR_app {K : zK} {gs gx : zG} {v : zV} {rv : Value} (h : zVR K gs v rv) : zVR K (gs ++ gx) v rv := by
  unfold zVR at h ⊢
  split
  · rename_i h0; rw [if_pos h0] at h; exact h
  rename_i h0; rw [if_neg h0] at h
  split
  · rename_i h0; rw [if_pos h0] at h; exact h
  rename_i h0; rw [if_neg h0] at h
  split
  · rename_i h0; rw [if_pos h0] at h; exact h
  rename_i h0; rw [if_neg h0] at h
  split
  · rename_i h0; rw [if_pos h0] at h; exact h
  rename_i h0; rw [if_neg h0] at h
  split
  · rename_i h0; rw [if_pos h0] at h; exact h
  rename_i h0; rw [if_neg h0] at h
  obtain ⟨h1, k, q, h2, h3, h4⟩ := h
  exact ⟨h1, k, q, h2, zget_app h3, h4⟩
theorem zVRs_app {K : zK} {gs gx : zG} : ∀ {l : List zV} {rs : List Value}, zVRs K gs l rs → zVRs K (gs ++ gx) l rs
  | [], [], _ => trivial
  | [], _ :: _, h => absurd h (by simp [zVRs])
  | _ :: _, [], h => absurd h (by simp [zVRs])
  | _ :: _, _ :: _, h => ⟨zVR_app h.1, zVRs_app h.2⟩
theorem zVR_i {K : zK} {gs : zG} {x n : Int} {rv : Value} (h : zVR K gs (0, x, n) rv) : ∃ i : Int32, rv = .int i ∧ i.toInt = x := by simpa [zVR] using h
theorem zVR_l {K : zK} {gs : zG} {x n : Int} {rv : Value} (h : zVR K gs (1, x, n) rv) : ∃ i : Int64, rv = .long i ∧ i.toInt = x := by simpa [zVR] using h
theorem zVR_mki {K : zK} {gs : zG} {x : Int} (i : Int32) (h : i.toInt = x) : zVR K gs (0, x, 0) (.int i) := by simp [zVR, h]
theorem zVR_mkl {K : zK} {gs : zG} {x : Int} (i : Int64) (h : i.toInt = x) : zVR K gs (1, x, 0) (.long i) := by simp [zVR, h]
/-- a reference: null or an address -/
theorem zVR_ref {K : zK} {gs : zG} {t x n : Int} {rv : Value} (h : zVR K gs (t, x, n) rv) (ht : 4 ≤ t) : ∃ r : Option Nat, rv = va_rf r := by
  unfold zVR at h
  rw [if_neg (by dsimp only; omega), if_neg (by dsimp only; omega), if_neg (by dsimp only; omega)] at h
  split at h
  · rcases h with h | ⟨q, h⟩
    · exact ⟨none, h⟩
    · exact ⟨some q, h⟩
  split at h
  · exact ⟨some _, h.1⟩
  · obtain ⟨-, k, q, -, -, h⟩ := h
    exact ⟨some q, h⟩
theorem zVR_cell {K : zK} {gs : zG} {t x n : Int} {rv : Value} (h : zVR K gs (t, x, n) rv) (ht : 10 ≤ t) (h16 : t ≠ 16) (h17 : t ≠ 17) : ∃ k q : Nat, x = k ∧ gs[k]? = some (q, t, n) ∧ rv = .ref q := by
  unfold zVR at h
  rw [if_neg (by dsimp only; omega), if_neg (by dsimp only; omega), if_neg (by dsimp only; omega), if_neg (by dsimp only; omega), if_neg (by dsimp only; omega)] at h
  exact h.2
theorem zVR_stat {K : zK} {gs : zG} {t x n : Int} {rv : Value} (h : zVR K gs (t, x, n) rv) (ht : (4 ≤ t ∧ t < 10) ∨ t = 16) : rv = .ref (zsa K t x) ∧ zrng t x ∧ (t ≠ 4 → n = zlenS K t x) := by
  unfold zVR at h
  rw [if_neg (by dsimp only; omega), if_neg (by dsimp only; omega), if_neg (by dsimp only; omega), if_neg (by dsimp only; omega), if_pos ht] at h
  exact h
theorem zVR_mkcell {K : zK} {gs : zG} {t n : Int} {k q : Nat} (ht : 10 ≤ t) (h16 : t ≠ 16) (h17 : t ≠ 17) (h : gs[k]? = some (q, t, n)) : zVR K gs (t, k, n) (.ref q) := by
  unfold zVR
  rw [if_neg (by dsimp only; omega), if_neg (by dsimp only; omega), if_neg (by dsimp only; omega), if_neg (by dsimp only; omega), if_neg (by dsimp only; omega)]
  exact ⟨ht, k, q, rfl, h, rfl⟩
theorem zVR_mkstat {K : zK} {gs : zG} {t x n : Int} (ht : (4 ≤ t ∧ t < 10) ∨ t = 16) (h1 : zrng t x) (h2 : t ≠ 4 → n = zlenS K t x) : zVR K gs (t, x, n) (.ref (zsa K t x)) := by
  unfold zVR
  rw [if_neg (by dsimp only; omega), if_neg (by dsimp only; omega), if_neg (by dsimp only; omega), if_neg (by dsimp only; omega), if_pos ht]
  exact ⟨rfl, h1, h2⟩
theorem zVR_cat {K : zK} {gs : zG} {t x n : Int} {rv : Value} (h : zVR K gs (t, x, n) rv) : rv.category = if t = 1 then 2 else 1 := by
  by_cases h0 : t = 0
  · subst h0; obtain ⟨i, rfl, -⟩ := zVR_i h; rfl
  by_cases h1 : t = 1
  · subst h1; obtain ⟨i, rfl, -⟩ := zVR_l h; rfl
  rw [if_neg h1]
  by_cases h2 : 4 ≤ t
  · obtain ⟨r, rfl⟩ := zVR_ref h h2
    cases r <;> rfl
  · unfold zVR at h
    rw [if_neg h0, if_neg h1] at h
    split at h
    · rw [h]; rfl
    rw [if_neg (by dsimp only; omega), if_neg (by dsimp only; omega)] at h
    have := h.1
    dsimp only at this
    omega
theorem zFld_congr {K : zK} {ph : Bool} {gs : zG} {M M' : zM} {k j : Int} {f : Nat × Int × Int × Int} {rv : Value} (h : zFld K ph gs M k j f rv) (h1 : ∀ y, M' k y = M k y) : zFld K ph gs M' k j f rv := by
  unfold zFld at h ⊢
  rw [h1, h1]
  exact h
theorem zFld_app {K : zK} {ph : Bool} {gs gx : zG} {M : zM} {k j : Int} {f : Nat × Int × Int × Int} {rv : Value} (h : zFld K ph gs M k j f rv) : zFld K ph (gs ++ gx) M k j f rv := by
  unfold zFld at h ⊢
  split
  · rename_i h0; rw [if_pos h0] at h; exact zVR_app h
  rename_i h0; rw [if_neg h0] at h
  split
  · rename_i h0; rw [if_pos h0] at h; exact zVR_app h
  rename_i h0; rw [if_neg h0] at h
  split
  · rename_i h0; rw [if_pos h0] at h; exact fun z => zVR_app (h z)
  rename_i h0; rw [if_neg h0] at h
  split
  · rename_i h0; rw [if_pos h0] at h; exact fun z => zVR_app (h z)
  rename_i h0; rw [if_neg h0] at h
  exact fun z => zVR_app (h z)
theorem zCell_congr {K : zK} {ph : Bool} {gs gx : zG} {M M' : zM} {s s' : State} {k : Nat} {g : Nat × Int × Int} {w : Nat × va_E} (h : zCell K ph gs M s k g w) (h1 : ∀ y, M' k y = M k y) (h2 : ∀ cA ty, zArr s cA ty → zArr s' cA ty) : zCell K ph (gs ++ gx) M' s' k g w := by
  unfold zCell at h ⊢
  refine ⟨h.1, ?_⟩
  have h := h.2
  split
  · rename_i h0; rw [if_pos h0] at h
    obtain ⟨cA, f, e, ha, hf, hb⟩ := h
    exact ⟨cA, f, e, h2 _ _ ha, fun j hj => by rw [h1]; exact hf j hj, fun h9 j hj => by rw [h1]; exact hb h9 j hj⟩
  rename_i h0; rw [if_neg h0] at h
  split
  · rename_i h0; rw [if_pos h0] at h
    obtain ⟨cA, f, e, ha, hf⟩ := h
    exact ⟨cA, f, e, h2 _ _ ha, fun j hj => by rw [h1]; exact hf j hj⟩
  rename_i h0; rw [if_neg h0] at h
  split
  · rename_i h0; rw [if_pos h0] at h
    obtain ⟨cA, f, e, ha, hf⟩ := h
    refine ⟨cA, f, e, h2 _ _ ha, fun j hj hp => ?_⟩
    rw [h1] at hp
    obtain ⟨q, kk, a1, a2, a3⟩ := hf j hj hp
    exact ⟨q, kk, by rw [h1]; exact a1, zget_app a2, a3⟩
  rename_i h0; rw [if_neg h0] at h
  obtain ⟨c, e1, e2, r, fs, e3, e4, e5, e6⟩ := h
  exact ⟨c, e1, e2, r, fs, e3, e4, e5, fun j rv hj => zFld_congr (zFld_app (e6 j rv hj)) h1⟩
