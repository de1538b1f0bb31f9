/-! the reference: views of its numbers, its small words -/
def rix (i y : Int) : Int := if i = 0 then 85 - y else if i = 1 then 81 + y else if i = 2 then 91 + y else if i = 8 then 79 + y else 86 + 5 * i + y
def gix (i y : Int) : Int := if i = 0 then (if y = 9 then 39 else if y < 9 then y - 6 else y - 7) else if i = 4 then 9 + y else if i = 5 then 50 + y else 7 + y
noncomputable def zrS (M : zM) : zM := fun i y => zif (sdom i y) (M 199 (rix i y)) 0
noncomputable def zrG (M : zM) : zM := fun i y => zif (gdom (M 199 1) i y) (M 199 (gix i y)) 0
theorem zrS_r {M : zM} {i y : Int} (h : sdom i y) : zrS M i y = M 199 (rix i y) := by unfold zrS; rw [zif_t h]
theorem zrG_r {M : zM} {i y : Int} (h : gdom (M 199 1) i y) : zrG M i y = M 199 (gix i y) := by unfold zrG; rw [zif_t h]
theorem zrS_08 {M : zM} : zrS M 0 8 = M 199 77 := zrS_r (by unfold sdom; omega)
theorem zrS_09 {M : zM} : zrS M 0 9 = M 199 76 := zrS_r (by unfold sdom; omega)
theorem zrS_0t {M : zM} : zrS M 0 10 = M 199 75 := zrS_r (by unfold sdom; omega)
theorem zrS_1 {M : zM} {y : Int} (h : 0 ≤ y) (h2 : y < 10) : zrS M 1 y = M 199 (81 + y) := zrS_r (by unfold sdom; omega)
theorem zrS_2 {M : zM} {y : Int} (h : 0 ≤ y) (h2 : y < 10) : zrS M 2 y = M 199 (91 + y) := zrS_r (by unfold sdom; omega)
theorem zrS_3 {M : zM} {y : Int} (h : 0 ≤ y) (h2 : y < 5) : zrS M 3 y = M 199 (101 + y) := zrS_r (by unfold sdom; omega)
theorem zrS_4 {M : zM} {y : Int} (h : 0 ≤ y) (h2 : y < 5) : zrS M 4 y = M 199 (106 + y) := zrS_r (by unfold sdom; omega)
theorem zrS_5 {M : zM} {y : Int} (h : 0 ≤ y) (h2 : y < 5) : zrS M 5 y = M 199 (111 + y) := zrS_r (by unfold sdom; omega)
theorem zrS_6 {M : zM} {y : Int} (h : 0 ≤ y) (h2 : y < 5) : zrS M 6 y = M 199 (116 + y) := zrS_r (by unfold sdom; omega)
theorem zrS_7 {M : zM} {y : Int} (h : 0 ≤ y) (h2 : y < 5) : zrS M 7 y = M 199 (121 + y) := zrS_r (by unfold sdom; omega)
theorem zrS_8 {M : zM} {y : Int} (h : 0 ≤ y) (h2 : y < 2) : zrS M 8 y = M 199 (79 + y) := zrS_r (by unfold sdom; omega)
theorem zrG_06 {M : zM} : zrG M 0 6 = M 199 0 := zrG_r (by unfold gdom; omega)
theorem zrG_07 {M : zM} : zrG M 0 7 = M 199 1 := zrG_r (by unfold gdom; omega)
theorem zrG_08 {M : zM} : zrG M 0 8 = M 199 2 := zrG_r (by unfold gdom; omega)
theorem zrG_09 {M : zM} : zrG M 0 9 = M 199 39 := zrG_r (by unfold gdom; omega)
theorem zrG_0t {M : zM} : zrG M 0 10 = M 199 3 := zrG_r (by unfold gdom; omega)
theorem zrG_0e {M : zM} : zrG M 0 11 = M 199 4 := zrG_r (by unfold gdom; omega)
theorem zrG_4 {M : zM} {y : Int} (h : 0 ≤ y) (h2 : y < 10) (h3 : y < M 199 1) : zrG M 4 y = M 199 (9 + y) := zrG_r (by unfold gdom; omega)
theorem zrG_5 {M : zM} {y : Int} (h : 0 ≤ y) (h2 : y < 25) : zrG M 5 y = M 199 (50 + y) := zrG_r (by unfold gdom; omega)
theorem zrG_6 {M : zM} {y : Int} (h : 0 ≤ y) (h2 : y < 2) : zrG M 6 y = M 199 (7 + y) := zrG_r (by unfold gdom; omega)
def ri (y : Int) : Int := if y < 78 then 0 else if y < 81 then 8 else if y < 91 then 1 else if y < 101 then 2 else 3 + (y - 101) / 5
def rj (y : Int) : Int := if y < 78 then 85 - y else if y < 81 then y - 79 else if y < 91 then y - 81 else if y < 101 then y - 91 else (y - 101) % 5
def rdom (x y : Int) : Prop := x = 199 ∧ ((75 ≤ y ∧ y ≤ 77) ∨ (79 ≤ y ∧ y ≤ 125))
theorem rix_dom {i j : Int} (h : sdom i j) : rdom 199 (rix i j) ∧ ri (rix i j) = i ∧ rj (rix i j) = j := by
  have hc : (i = 0 ∧ 8 ≤ j ∧ j ≤ 10) ∨ (i = 1 ∧ 0 ≤ j ∧ j < 10) ∨ (i = 2 ∧ 0 ≤ j ∧ j < 10) ∨ (i = 3 ∧ 0 ≤ j ∧ j < 5) ∨ (i = 4 ∧ 0 ≤ j ∧ j < 5) ∨ (i = 5 ∧ 0 ≤ j ∧ j < 5) ∨ (i = 6 ∧ 0 ≤ j ∧ j < 5) ∨ (i = 7 ∧ 0 ≤ j ∧ j < 5) ∨ (i = 8 ∧ 0 ≤ j ∧ j < 2) := by unfold sdom at h; omega
  unfold rdom ri rj rix
  rcases hc with ⟨rfl, h1, h2⟩ | ⟨rfl, h1, h2⟩ | ⟨rfl, h1, h2⟩ | ⟨rfl, h1, h2⟩ | ⟨rfl, h1, h2⟩ | ⟨rfl, h1, h2⟩ | ⟨rfl, h1, h2⟩ | ⟨rfl, h1, h2⟩ | ⟨rfl, h1, h2⟩ <;> simp <;> omega
theorem rdom_s {y : Int} (h : rdom 199 y) : sdom (ri y) (rj y) ∧ rix (ri y) (rj y) = y := by
  have h := h.2
  unfold sdom ri rj rix
  by_cases c1 : y < 78
  · simp only [if_pos c1]; simp; omega
  by_cases c2 : y < 81
  · simp only [if_neg c1, if_pos c2]; simp; omega
  by_cases c3 : y < 91
  · simp only [if_neg c1, if_neg c2, if_pos c3]; simp; omega
  by_cases c4 : y < 101
  · simp only [if_neg c1, if_neg c2, if_neg c3, if_pos c4]; simp; omega
  simp only [if_neg c1, if_neg c2, if_neg c3, if_neg c4]
  rw [if_neg (by omega), if_neg (by omega), if_neg (by omega), if_neg (by omega)]
  omega
/-- a state's view put into the reference -/
noncomputable def zpR (M T : zM) : zM := fun x y => zif (rdom x y) (T (ri y) (rj y)) (M x y)
theorem zpR_o {M T : zM} {x y : Int} (h : x ≠ 199 ∨ y < 75 ∨ y = 78 ∨ 126 ≤ y) : zpR M T x y = M x y := by
  unfold zpR
  rw [zif_f]
  unfold rdom; omega
theorem zpR_r {M T : zM} {i j y : Int} (h : sdom i j) (e : y = rix i j) : zpR M T 199 y = T i j := by
  subst e
  obtain ⟨h1, h2, h3⟩ := rix_dom h
  unfold zpR
  rw [zif_t h1, h2, h3]
theorem zpR_up {M T : zM} {i j y v : Int} (h : sdom i j) (e : y = rix i j) : zup (zpR M T) 199 y v = zpR M (zup T i j v) := by
  subst e
  funext x y
  unfold zpR zup
  dsimp only
  by_cases hd : rdom x y
  · have hx : x = 199 := hd.1
    subst hx
    obtain ⟨h4, h5⟩ := rdom_s hd
    rw [zif_t hd, zif_t hd]
    by_cases hx : y = rix i j
    · obtain ⟨h1, h2, h3⟩ := rix_dom h
      rw [if_pos ⟨rfl, hx, by omega⟩, hx, h2, h3, if_pos ⟨rfl, rfl, by unfold sdom at h; omega⟩]
    · rw [if_neg (fun z => hx z.2.1), if_neg]
      rintro ⟨z1, z2, -⟩
      rw [z1, z2] at h5
      exact hx h5.symm
  · rw [zif_f hd, zif_f hd, if_neg]
    rintro ⟨z1, z2, -⟩
    rw [z1, z2] at hd
    exact hd (rix_dom h).1
theorem zpR_self {M : zM} : zpR M (zrS M) = M := by
  funext x y
  unfold zpR
  by_cases hd : rdom x y
  · have hx : x = 199 := hd.1
    subst hx
    obtain ⟨h4, h5⟩ := rdom_s hd
    rw [zif_t hd, zrS_r h4, h5]
  · rw [zif_f hd]
theorem zpR_put {M T U : zM} : zpR (zpR M T) U = zpR M U := by
  funext x y
  unfold zpR
  by_cases h : rdom x y
  · rw [zif_t h, zif_t h]
  · rw [zif_f h, zif_f h, zif_f h]
theorem zup_pR {M : zM} {i j y v : Int} (h : sdom i j) (e : y = rix i j) : zup M 199 y v = zpR M (zup (zrS M) i j v) := by
  rw [← zpR_up h e, zpR_self]
theorem zrS_pR {M T : zM} : zrS (zpR M T) = zt T := by
  funext i j
  unfold zrS zt
  by_cases h : sdom i j
  · rw [zif_t h, zif_t h, zpR_r h rfl]
  · rw [zif_f h, zif_f h]
theorem zt_r {M : zM} : zt (zrS M) = zrS M := by
  funext i y
  unfold zt zrS
  by_cases h : sdom i y
  · rw [zif_t h]
  · rw [zif_f h, zif_f h]
theorem zrG_pR {M T : zM} : zrG (zpR M T) = zrG M := by
  have e : zpR M T 199 1 = M 199 1 := zpR_o (by omega)
  funext i j
  unfold zrG
  rw [e]
  by_cases h : gdom (M 199 1) i j
  · rw [zif_t h, zif_t h, zpR_o]
    unfold gdom at h
    unfold gix
    split <;> (try split) <;> (try split) <;> (try split) <;> omega
  · rw [zif_f h, zif_f h]
theorem zpR_1 {M T : zM} {y : Int} (h : 0 ≤ y) (h2 : y < 10) : zpR M T 199 (81 + y) = T 1 y := zpR_r (by unfold sdom; omega) (by unfold rix; simp)
theorem zpR_2 {M T : zM} {y : Int} (h : 0 ≤ y) (h2 : y < 10) : zpR M T 199 (91 + y) = T 2 y := zpR_r (by unfold sdom; omega) (by unfold rix; simp)
theorem zpR_3 {M T : zM} {y : Int} (h : 0 ≤ y) (h2 : y < 5) : zpR M T 199 (101 + y) = T 3 y := zpR_r (by unfold sdom; omega) (by unfold rix; simp)
theorem zpR_4 {M T : zM} {y : Int} (h : 0 ≤ y) (h2 : y < 5) : zpR M T 199 (106 + y) = T 4 y := zpR_r (by unfold sdom; omega) (by unfold rix; simp)
theorem zpR_5 {M T : zM} {y : Int} (h : 0 ≤ y) (h2 : y < 5) : zpR M T 199 (111 + y) = T 5 y := zpR_r (by unfold sdom; omega) (by unfold rix; simp)
theorem zpR_6 {M T : zM} {y : Int} (h : 0 ≤ y) (h2 : y < 5) : zpR M T 199 (116 + y) = T 6 y := zpR_r (by unfold sdom; omega) (by unfold rix; simp)
theorem zpR_7 {M T : zM} {y : Int} (h : 0 ≤ y) (h2 : y < 5) : zpR M T 199 (121 + y) = T 7 y := zpR_r (by unfold sdom; omega) (by unfold rix; simp)
theorem zpR_8 {M T : zM} {y : Int} (h : 0 ≤ y) (h2 : y < 2) : zpR M T 199 (79 + y) = T 8 y := zpR_r (by unfold sdom; omega) (by unfold rix; simp)
theorem zpR_08 {M T : zM} : zpR M T 199 77 = T 0 8 := zpR_r (by unfold sdom; omega) (by unfold rix; simp)
theorem zpR_09 {M T : zM} : zpR M T 199 76 = T 0 9 := zpR_r (by unfold sdom; omega) (by unfold rix; simp)
theorem zpR_0t {M T : zM} : zpR M T 199 75 = T 0 10 := zpR_r (by unfold sdom; omega) (by unfold rix; simp)
theorem zrS_out {M : zM} {b j v : Int} (h : b ≠ 199 ∨ j < 75 ∨ j = 78 ∨ 126 ≤ j) : zrS (zup M b j v) = zrS M := by
  funext x y
  unfold zrS
  by_cases hd : sdom x y
  · rw [zif_t hd, zif_t hd]
    unfold zup
    rw [if_neg]
    rintro ⟨h1, h2, -⟩
    subst h1
    unfold sdom at hd
    unfold rix at h2
    split at h2 <;> (try split at h2) <;> (try split at h2) <;> (try split at h2) <;> omega
  · rw [zif_f hd, zif_f hd]
theorem zrG_out {M : zM} {b j v : Int} (h : b ≠ 199 ∨ 75 ≤ j) : zrG (zup M b j v) = zrG M := by
  have e : zup M b j v 199 1 = M 199 1 := by unfold zup; rw [if_neg (by omega)]
  funext x y
  unfold zrG
  rw [e]
  by_cases hd : gdom (M 199 1) x y
  · rw [zif_t hd, zif_t hd]
    unfold zup
    rw [if_neg]
    rintro ⟨h1, h2, -⟩
    subst h1
    unfold gdom at hd
    unfold gix at h2
    split at h2 <;> (try split at h2) <;> (try split at h2) <;> (try split at h2) <;> omega
  · rw [zif_f hd, zif_f hd]
theorem zbit_01 (s k : Int) : zbit s k = 0 ∨ zbit s k = 1 := by
  unfold zbit zand
  generalize zb (zshr s k) = x
  have h1 : (x &&& zb 1).toInt = (x.toBitVec &&& 1#32).toInt := rfl
  have h2 : (x.toBitVec &&& 1#32).toNat = x.toBitVec.toNat % 2 := by
    rw [BitVec.toNat_and]
    exact Nat.and_one_is_mod _
  have h3 : (x.toBitVec &&& 1#32).toNat < 2 := by omega
  rw [h1, BitVec.toInt_eq_toNat_of_lt (by omega)]
  omega
theorem m168 (ph : Bool) (d : Nat) (p0 y0 p1 y1 p2 y2 : Int) (M : zM) : zEm ph (d + 1) 168 [(0, p0, y0), (0, p1, y1), (0, p2, y2)] M = zEv ph d 168 0 [(0, p0, y0), (0, p1, y1), (0, p2, y2)] [] M := rfl
theorem e168_0 (ph : Bool) (d : Nat) (L st : List zV) (M : zM) : zEv ph d 168 0 L st M = zcont ph d 168 (zstep ph (zEm ph d) 2 1 0 [0] L st M) := zEv_step rfl
theorem e168_1 (ph : Bool) (d : Nat) (L st : List zV) (M : zM) : zEv ph d 168 1 L st M = zcont ph d 168 (zstep ph (zEm ph d) 2 2 0 [1] L st M) := zEv_step rfl
theorem e168_2 (ph : Bool) (d : Nat) (L st : List zV) (M : zM) : zEv ph d 168 2 L st M = zcont ph d 168 (zstep ph (zEm ph d) 48 5 14 [] L st M) := zEv_step rfl
theorem e168_5 (ph : Bool) (d : Nat) (L st : List zV) (M : zM) : zEv ph d 168 5 L st M = zcont ph d 168 (zstep ph (zEm ph d) 2 6 0 [0] L st M) := zEv_step rfl
theorem e168_6 (ph : Bool) (d : Nat) (L st : List zV) (M : zM) : zEv ph d 168 6 L st M = zcont ph d 168 (zstep ph (zEm ph d) 2 7 0 [2] L st M) := zEv_step rfl
theorem e168_7 (ph : Bool) (d : Nat) (L st : List zV) (M : zM) : zEv ph d 168 7 L st M = zcont ph d 168 (zstep ph (zEm ph d) 50 10 14 [] L st M) := zEv_step rfl
theorem e168_10 (ph : Bool) (d : Nat) (L st : List zV) (M : zM) : zEv ph d 168 10 L st M = zcont ph d 168 (zstep ph (zEm ph d) 0 11 0 [1] L st M) := zEv_step rfl
theorem e168_11 (ph : Bool) (d : Nat) (L st : List zV) (M : zM) : zEv ph d 168 11 L st M = zcont ph d 168 (zstep ph (zEm ph d) 52 14 15 [] L st M) := zEv_step rfl
theorem e168_14 (ph : Bool) (d : Nat) (L st : List zV) (M : zM) : zEv ph d 168 14 L st M = zcont ph d 168 (zstep ph (zEm ph d) 0 15 0 [0] L st M) := zEv_step rfl
theorem e168_15 (ph : Bool) (d : Nat) (L st : List zV) (M : zM) : zEv ph d 168 15 L st M = zcont ph d 168 (zstep ph (zEm ph d) 80 16 0 [0, 1] L st M) := zEv_step rfl
theorem m169 (ph : Bool) (d : Nat) (p0 y0 p1 y1 : Int) (M : zM) : zEm ph (d + 1) 169 [(0, p0, y0), (0, p1, y1)] M = zEv ph d 169 0 [(0, p0, y0), (0, p1, y1)] [] M := rfl
theorem e169_0 (ph : Bool) (d : Nat) (L st : List zV) (M : zM) : zEv ph d 169 0 L st M = zcont ph d 169 (zstep ph (zEm ph d) 2 1 0 [0] L st M) := zEv_step rfl
theorem e169_1 (ph : Bool) (d : Nat) (L st : List zV) (M : zM) : zEv ph d 169 1 L st M = zcont ph d 169 (zstep ph (zEm ph d) 2 2 0 [1] L st M) := zEv_step rfl
theorem e169_2 (ph : Bool) (d : Nat) (L st : List zV) (M : zM) : zEv ph d 169 2 L st M = zcont ph d 169 (zstep ph (zEm ph d) 20 3 0 [] L st M) := zEv_step rfl
theorem e169_3 (ph : Bool) (d : Nat) (L st : List zV) (M : zM) : zEv ph d 169 3 L st M = zcont ph d 169 (zstep ph (zEm ph d) 0 4 0 [1] L st M) := zEv_step rfl
theorem e169_4 (ph : Bool) (d : Nat) (L st : List zV) (M : zM) : zEv ph d 169 4 L st M = zcont ph d 169 (zstep ph (zEm ph d) 16 5 0 [] L st M) := zEv_step rfl
theorem e169_5 (ph : Bool) (d : Nat) (L st : List zV) (M : zM) : zEv ph d 169 5 L st M = zcont ph d 169 (zstep ph (zEm ph d) 0 6 0 [1] L st M) := zEv_step rfl
theorem e169_6 (ph : Bool) (d : Nat) (L st : List zV) (M : zM) : zEv ph d 169 6 L st M = zcont ph d 169 (zstep ph (zEm ph d) 47 9 13 [] L st M) := zEv_step rfl
theorem e169_9 (ph : Bool) (d : Nat) (L st : List zV) (M : zM) : zEv ph d 169 9 L st M = zcont ph d 169 (zstep ph (zEm ph d) 0 10 0 [1] L st M) := zEv_step rfl
theorem e169_10 (ph : Bool) (d : Nat) (L st : List zV) (M : zM) : zEv ph d 169 10 L st M = zcont ph d 169 (zstep ph (zEm ph d) 52 13 14 [] L st M) := zEv_step rfl
theorem e169_13 (ph : Bool) (d : Nat) (L st : List zV) (M : zM) : zEv ph d 169 13 L st M = zcont ph d 169 (zstep ph (zEm ph d) 0 14 0 [0] L st M) := zEv_step rfl
theorem e169_14 (ph : Bool) (d : Nat) (L st : List zV) (M : zM) : zEv ph d 169 14 L st M = zcont ph d 169 (zstep ph (zEm ph d) 80 15 0 [0, 1] L st M) := zEv_step rfl
theorem m171 (ph : Bool) (d : Nat) (p0 y0 p1 y1 : Int) (M : zM) : zEm ph (d + 1) 171 [(0, p0, y0), (0, p1, y1)] M = zEv ph d 171 0 [(0, p0, y0), (0, p1, y1)] [] M := rfl
theorem e171_0 (ph : Bool) (d : Nat) (L st : List zV) (M : zM) : zEv ph d 171 0 L st M = zcont ph d 171 (zstep ph (zEm ph d) 2 1 0 [0] L st M) := zEv_step rfl
theorem e171_1 (ph : Bool) (d : Nat) (L st : List zV) (M : zM) : zEv ph d 171 1 L st M = zcont ph d 171 (zstep ph (zEm ph d) 2 2 0 [1] L st M) := zEv_step rfl
theorem e171_2 (ph : Bool) (d : Nat) (L st : List zV) (M : zM) : zEv ph d 171 2 L st M = zcont ph d 171 (zstep ph (zEm ph d) 49 5 9 [] L st M) := zEv_step rfl
theorem e171_5 (ph : Bool) (d : Nat) (L st : List zV) (M : zM) : zEv ph d 171 5 L st M = zcont ph d 171 (zstep ph (zEm ph d) 2 6 0 [0] L st M) := zEv_step rfl
theorem e171_6 (ph : Bool) (d : Nat) (L st : List zV) (M : zM) : zEv ph d 171 6 L st M = zcont ph d 171 (zstep ph (zEm ph d) 52 9 10 [] L st M) := zEv_step rfl
theorem e171_9 (ph : Bool) (d : Nat) (L st : List zV) (M : zM) : zEv ph d 171 9 L st M = zcont ph d 171 (zstep ph (zEm ph d) 2 10 0 [1] L st M) := zEv_step rfl
theorem e171_10 (ph : Bool) (d : Nat) (L st : List zV) (M : zM) : zEv ph d 171 10 L st M = zcont ph d 171 (zstep ph (zEm ph d) 80 11 0 [] L st M) := zEv_step rfl
theorem m172 (ph : Bool) (d : Nat) (p0 y0 : Int) (M : zM) : zEm ph (d + 1) 172 [(0, p0, y0)] M = zEv ph d 172 0 [(0, p0, y0)] [] M := rfl
theorem e172_0 (ph : Bool) (d : Nat) (L st : List zV) (M : zM) : zEv ph d 172 0 L st M = zcont ph d 172 (zstep ph (zEm ph d) 2 1 0 [0] L st M) := zEv_step rfl
theorem e172_1 (ph : Bool) (d : Nat) (L st : List zV) (M : zM) : zEv ph d 172 1 L st M = zcont ph d 172 (zstep ph (zEm ph d) 43 4 9 [] L st M) := zEv_step rfl
theorem e172_4 (ph : Bool) (d : Nat) (L st : List zV) (M : zM) : zEv ph d 172 4 L st M = zcont ph d 172 (zstep ph (zEm ph d) 2 5 0 [0] L st M) := zEv_step rfl
theorem e172_5 (ph : Bool) (d : Nat) (L st : List zV) (M : zM) : zEv ph d 172 5 L st M = zcont ph d 172 (zstep ph (zEm ph d) 15 6 0 [] L st M) := zEv_step rfl
theorem e172_6 (ph : Bool) (d : Nat) (L st : List zV) (M : zM) : zEv ph d 172 6 L st M = zcont ph d 172 (zstep ph (zEm ph d) 52 9 10 [] L st M) := zEv_step rfl
theorem e172_9 (ph : Bool) (d : Nat) (L st : List zV) (M : zM) : zEv ph d 172 9 L st M = zcont ph d 172 (zstep ph (zEm ph d) 2 10 0 [0] L st M) := zEv_step rfl
theorem e172_10 (ph : Bool) (d : Nat) (L st : List zV) (M : zM) : zEv ph d 172 10 L st M = zcont ph d 172 (zstep ph (zEm ph d) 80 11 0 [] L st M) := zEv_step rfl
theorem m205 (ph : Bool) (d : Nat) (a x0 p0 y0 : Int) (M : zM) : zEm ph (d + 1) 205 [(30, a, x0), (0, p0, y0)] M = zEv ph d 205 0 [(30, a, x0), (0, p0, y0)] [] M := rfl
theorem e205_0 (ph : Bool) (d : Nat) (L st : List zV) (M : zM) : zEv ph d 205 0 L st M = zcont ph d 205 (zstep ph (zEm ph d) 2 1 0 [1] L st M) := zEv_step rfl
theorem e205_1 (ph : Bool) (d : Nat) (L st : List zV) (M : zM) : zEv ph d 205 1 L st M = zcont ph d 205 (zstep ph (zEm ph d) 0 2 0 [0] L st M) := zEv_step rfl
theorem e205_2 (ph : Bool) (d : Nat) (L st : List zV) (M : zM) : zEv ph d 205 2 L st M = zcont ph d 205 (zstep ph (zEm ph d) 4 3 0 [0] L st M) := zEv_step rfl
theorem e205_3 (ph : Bool) (d : Nat) (L st : List zV) (M : zM) : zEv ph d 205 3 L st M = zcont ph d 205 (zstep ph (zEm ph d) 62 6 0 [30, 14, 2, 10, 368] L st M) := zEv_step rfl
theorem e205_6 (ph : Bool) (d : Nat) (L st : List zV) (M : zM) : zEv ph d 205 6 L st M = zcont ph d 205 (zstep ph (zEm ph d) 0 7 0 [1] L st M) := zEv_step rfl
theorem e205_7 (ph : Bool) (d : Nat) (L st : List zV) (M : zM) : zEv ph d 205 7 L st M = zcont ph d 205 (zstep ph (zEm ph d) 85 8 0 [] L st M) := zEv_step rfl
theorem e205_8 (ph : Bool) (d : Nat) (L st : List zV) (M : zM) : zEv ph d 205 8 L st M = zcont ph d 205 (zstep ph (zEm ph d) 0 9 0 [1] L st M) := zEv_step rfl
theorem e205_9 (ph : Bool) (d : Nat) (L st : List zV) (M : zM) : zEv ph d 205 9 L st M = zcont ph d 205 (zstep ph (zEm ph d) 11 10 0 [] L st M) := zEv_step rfl
theorem e205_10 (ph : Bool) (d : Nat) (L st : List zV) (M : zM) : zEv ph d 205 10 L st M = zcont ph d 205 (zstep ph (zEm ph d) 70 13 168 [3, 1, -1] L st M) := zEv_step rfl
theorem e205_13 (ph : Bool) (d : Nat) (L st : List zV) (M : zM) : zEv ph d 205 13 L st M = zcont ph d 205 (zstep ph (zEm ph d) 80 14 0 [0, 1] L st M) := zEv_step rfl
theorem m206 (ph : Bool) (d : Nat) (a x0 p0 y0 : Int) (M : zM) : zEm ph (d + 1) 206 [(30, a, x0), (0, p0, y0)] M = zEv ph d 206 0 [(30, a, x0), (0, p0, y0)] [] M := rfl
theorem e206_0 (ph : Bool) (d : Nat) (L st : List zV) (M : zM) : zEv ph d 206 0 L st M = zcont ph d 206 (zstep ph (zEm ph d) 2 1 0 [1] L st M) := zEv_step rfl
theorem e206_1 (ph : Bool) (d : Nat) (L st : List zV) (M : zM) : zEv ph d 206 1 L st M = zcont ph d 206 (zstep ph (zEm ph d) 0 2 0 [0] L st M) := zEv_step rfl
theorem e206_2 (ph : Bool) (d : Nat) (L st : List zV) (M : zM) : zEv ph d 206 2 L st M = zcont ph d 206 (zstep ph (zEm ph d) 4 3 0 [0] L st M) := zEv_step rfl
theorem e206_3 (ph : Bool) (d : Nat) (L st : List zV) (M : zM) : zEv ph d 206 3 L st M = zcont ph d 206 (zstep ph (zEm ph d) 62 6 0 [30, 14, 2, 10, 368] L st M) := zEv_step rfl
theorem e206_6 (ph : Bool) (d : Nat) (L st : List zV) (M : zM) : zEv ph d 206 6 L st M = zcont ph d 206 (zstep ph (zEm ph d) 0 7 0 [2] L st M) := zEv_step rfl
theorem e206_7 (ph : Bool) (d : Nat) (L st : List zV) (M : zM) : zEv ph d 206 7 L st M = zcont ph d 206 (zstep ph (zEm ph d) 85 8 0 [] L st M) := zEv_step rfl
theorem e206_8 (ph : Bool) (d : Nat) (L st : List zV) (M : zM) : zEv ph d 206 8 L st M = zcont ph d 206 (zstep ph (zEm ph d) 0 9 0 [1] L st M) := zEv_step rfl
theorem e206_9 (ph : Bool) (d : Nat) (L st : List zV) (M : zM) : zEv ph d 206 9 L st M = zcont ph d 206 (zstep ph (zEm ph d) 11 10 0 [] L st M) := zEv_step rfl
theorem e206_10 (ph : Bool) (d : Nat) (L st : List zV) (M : zM) : zEv ph d 206 10 L st M = zcont ph d 206 (zstep ph (zEm ph d) 70 13 168 [3, 1, -1] L st M) := zEv_step rfl
theorem e206_13 (ph : Bool) (d : Nat) (L st : List zV) (M : zM) : zEv ph d 206 13 L st M = zcont ph d 206 (zstep ph (zEm ph d) 80 14 0 [0, 1] L st M) := zEv_step rfl
theorem m208 (ph : Bool) (d : Nat) (p0 y0 : Int) (M : zM) : zEm ph (d + 1) 208 [(0, p0, y0)] M = zEv ph d 208 0 [(0, p0, y0)] [] M := rfl
theorem e208_0 (ph : Bool) (d : Nat) (L st : List zV) (M : zM) : zEv ph d 208 0 L st M = zcont ph d 208 (zstep ph (zEm ph d) 2 1 0 [0] L st M) := zEv_step rfl
theorem e208_1 (ph : Bool) (d : Nat) (L st : List zV) (M : zM) : zEv ph d 208 1 L st M = zcont ph d 208 (zstep ph (zEm ph d) 0 2 0 [0] L st M) := zEv_step rfl
theorem e208_2 (ph : Bool) (d : Nat) (L st : List zV) (M : zM) : zEv ph d 208 2 L st M = zcont ph d 208 (zstep ph (zEm ph d) 0 3 0 [1] L st M) := zEv_step rfl
theorem e208_3 (ph : Bool) (d : Nat) (L st : List zV) (M : zM) : zEv ph d 208 3 L st M = zcont ph d 208 (zstep ph (zEm ph d) 70 6 168 [3, 1, -1] L st M) := zEv_step rfl
theorem e208_6 (ph : Bool) (d : Nat) (L st : List zV) (M : zM) : zEv ph d 208 6 L st M = zcont ph d 208 (zstep ph (zEm ph d) 80 7 0 [0, 1] L st M) := zEv_step rfl
theorem m207 (ph : Bool) (d : Nat) (a x0 p0 y0 : Int) (M : zM) : zEm ph (d + 1) 207 [(30, a, x0), (0, p0, y0)] M = zEv ph d 207 0 [(30, a, x0), (0, p0, y0)] [] M := rfl
theorem e207_0 (ph : Bool) (d : Nat) (L st : List zV) (M : zM) : zEv ph d 207 0 L st M = zcont ph d 207 (zstep ph (zEm ph d) 2 1 0 [1] L st M) := zEv_step rfl
theorem e207_1 (ph : Bool) (d : Nat) (L st : List zV) (M : zM) : zEv ph d 207 1 L st M = zcont ph d 207 (zstep ph (zEm ph d) 0 2 0 [0] L st M) := zEv_step rfl
theorem e207_2 (ph : Bool) (d : Nat) (L st : List zV) (M : zM) : zEv ph d 207 2 L st M = zcont ph d 207 (zstep ph (zEm ph d) 4 3 0 [0] L st M) := zEv_step rfl
theorem e207_3 (ph : Bool) (d : Nat) (L st : List zV) (M : zM) : zEv ph d 207 3 L st M = zcont ph d 207 (zstep ph (zEm ph d) 62 6 0 [30, 14, 2, 10, 368] L st M) := zEv_step rfl
theorem e207_6 (ph : Bool) (d : Nat) (L st : List zV) (M : zM) : zEv ph d 207 6 L st M = zcont ph d 207 (zstep ph (zEm ph d) 0 7 0 [0] L st M) := zEv_step rfl
theorem e207_7 (ph : Bool) (d : Nat) (L st : List zV) (M : zM) : zEv ph d 207 7 L st M = zcont ph d 207 (zstep ph (zEm ph d) 85 8 0 [] L st M) := zEv_step rfl
theorem e207_8 (ph : Bool) (d : Nat) (L st : List zV) (M : zM) : zEv ph d 207 8 L st M = zcont ph d 207 (zstep ph (zEm ph d) 0 9 0 [1] L st M) := zEv_step rfl
theorem e207_9 (ph : Bool) (d : Nat) (L st : List zV) (M : zM) : zEv ph d 207 9 L st M = zcont ph d 207 (zstep ph (zEm ph d) 11 10 0 [] L st M) := zEv_step rfl
theorem e207_10 (ph : Bool) (d : Nat) (L st : List zV) (M : zM) : zEv ph d 207 10 L st M = zcont ph d 207 (zstep ph (zEm ph d) 70 13 168 [3, 1, -1] L st M) := zEv_step rfl
theorem e207_13 (ph : Bool) (d : Nat) (L st : List zV) (M : zM) : zEv ph d 207 13 L st M = zcont ph d 207 (zstep ph (zEm ph d) 80 14 0 [0, 1] L st M) := zEv_step rfl
theorem m209 (ph : Bool) (d : Nat) (a x0 p0 y0 p1 y1 p2 y2 : Int) (M : zM) : zEm ph (d + 1) 209 [(30, a, x0), (0, p0, y0), (0, p1, y1), (0, p2, y2)] M = zEv ph d 209 0 [(30, a, x0), (0, p0, y0), (0, p1, y1), (0, p2, y2), (3, 0, 0)] [] M := rfl
theorem e209_0 (ph : Bool) (d : Nat) (L st : List zV) (M : zM) : zEv ph d 209 0 L st M = zcont ph d 209 (zstep ph (zEm ph d) 4 1 0 [0] L st M) := zEv_step rfl
theorem e209_1 (ph : Bool) (d : Nat) (L st : List zV) (M : zM) : zEv ph d 209 1 L st M = zcont ph d 209 (zstep ph (zEm ph d) 62 4 0 [30, 14, 2, 10, 368] L st M) := zEv_step rfl
theorem e209_4 (ph : Bool) (d : Nat) (L st : List zV) (M : zM) : zEv ph d 209 4 L st M = zcont ph d 209 (zstep ph (zEm ph d) 0 6 0 [77] L st M) := zEv_step rfl
theorem e209_6 (ph : Bool) (d : Nat) (L st : List zV) (M : zM) : zEv ph d 209 6 L st M = zcont ph d 209 (zstep ph (zEm ph d) 85 7 0 [] L st M) := zEv_step rfl
theorem e209_7 (ph : Bool) (d : Nat) (L st : List zV) (M : zM) : zEv ph d 209 7 L st M = zcont ph d 209 (zstep ph (zEm ph d) 2 8 0 [1] L st M) := zEv_step rfl
theorem e209_8 (ph : Bool) (d : Nat) (L st : List zV) (M : zM) : zEv ph d 209 8 L st M = zcont ph d 209 (zstep ph (zEm ph d) 70 11 169 [2, 1, -1] L st M) := zEv_step rfl
theorem e209_11 (ph : Bool) (d : Nat) (L st : List zV) (M : zM) : zEv ph d 209 11 L st M = zcont ph d 209 (zstep ph (zEm ph d) 40 14 16 [] L st M) := zEv_step rfl
theorem e209_14 (ph : Bool) (d : Nat) (L st : List zV) (M : zM) : zEv ph d 209 14 L st M = zcont ph d 209 (zstep ph (zEm ph d) 0 15 0 [0] L st M) := zEv_step rfl
theorem e209_15 (ph : Bool) (d : Nat) (L st : List zV) (M : zM) : zEv ph d 209 15 L st M = zcont ph d 209 (zstep ph (zEm ph d) 80 16 0 [] L st M) := zEv_step rfl
theorem e209_16 (ph : Bool) (d : Nat) (L st : List zV) (M : zM) : zEv ph d 209 16 L st M = zcont ph d 209 (zstep ph (zEm ph d) 4 17 0 [0] L st M) := zEv_step rfl
theorem e209_17 (ph : Bool) (d : Nat) (L st : List zV) (M : zM) : zEv ph d 209 17 L st M = zcont ph d 209 (zstep ph (zEm ph d) 62 20 0 [30, 14, 2, 10, 368] L st M) := zEv_step rfl
theorem e209_20 (ph : Bool) (d : Nat) (L st : List zV) (M : zM) : zEv ph d 209 20 L st M = zcont ph d 209 (zstep ph (zEm ph d) 0 22 0 [39] L st M) := zEv_step rfl
theorem e209_22 (ph : Bool) (d : Nat) (L st : List zV) (M : zM) : zEv ph d 209 22 L st M = zcont ph d 209 (zstep ph (zEm ph d) 85 23 0 [] L st M) := zEv_step rfl
theorem e209_23 (ph : Bool) (d : Nat) (L st : List zV) (M : zM) : zEv ph d 209 23 L st M = zcont ph d 209 (zstep ph (zEm ph d) 2 24 0 [1] L st M) := zEv_step rfl
theorem e209_24 (ph : Bool) (d : Nat) (L st : List zV) (M : zM) : zEv ph d 209 24 L st M = zcont ph d 209 (zstep ph (zEm ph d) 70 27 169 [2, 1, -1] L st M) := zEv_step rfl
theorem e209_27 (ph : Bool) (d : Nat) (L st : List zV) (M : zM) : zEv ph d 209 27 L st M = zcont ph d 209 (zstep ph (zEm ph d) 40 30 36 [] L st M) := zEv_step rfl
theorem e209_30 (ph : Bool) (d : Nat) (L st : List zV) (M : zM) : zEv ph d 209 30 L st M = zcont ph d 209 (zstep ph (zEm ph d) 0 31 0 [2] L st M) := zEv_step rfl
theorem e209_31 (ph : Bool) (d : Nat) (L st : List zV) (M : zM) : zEv ph d 209 31 L st M = zcont ph d 209 (zstep ph (zEm ph d) 2 32 0 [3] L st M) := zEv_step rfl
theorem e209_32 (ph : Bool) (d : Nat) (L st : List zV) (M : zM) : zEv ph d 209 32 L st M = zcont ph d 209 (zstep ph (zEm ph d) 12 33 0 [] L st M) := zEv_step rfl
theorem e209_33 (ph : Bool) (d : Nat) (L st : List zV) (M : zM) : zEv ph d 209 33 L st M = zcont ph d 209 (zstep ph (zEm ph d) 52 36 37 [] L st M) := zEv_step rfl
theorem e209_36 (ph : Bool) (d : Nat) (L st : List zV) (M : zM) : zEv ph d 209 36 L st M = zcont ph d 209 (zstep ph (zEm ph d) 2 37 0 [3] L st M) := zEv_step rfl
theorem e209_37 (ph : Bool) (d : Nat) (L st : List zV) (M : zM) : zEv ph d 209 37 L st M = zcont ph d 209 (zstep ph (zEm ph d) 5 39 0 [4] L st M) := zEv_step rfl
theorem e209_39 (ph : Bool) (d : Nat) (L st : List zV) (M : zM) : zEv ph d 209 39 L st M = zcont ph d 209 (zstep ph (zEm ph d) 4 40 0 [0] L st M) := zEv_step rfl
theorem e209_40 (ph : Bool) (d : Nat) (L st : List zV) (M : zM) : zEv ph d 209 40 L st M = zcont ph d 209 (zstep ph (zEm ph d) 62 43 0 [30, 14, 2, 10, 368] L st M) := zEv_step rfl
theorem e209_43 (ph : Bool) (d : Nat) (L st : List zV) (M : zM) : zEv ph d 209 43 L st M = zcont ph d 209 (zstep ph (zEm ph d) 0 45 0 [76] L st M) := zEv_step rfl
theorem e209_45 (ph : Bool) (d : Nat) (L st : List zV) (M : zM) : zEv ph d 209 45 L st M = zcont ph d 209 (zstep ph (zEm ph d) 85 46 0 [] L st M) := zEv_step rfl
theorem e209_46 (ph : Bool) (d : Nat) (L st : List zV) (M : zM) : zEv ph d 209 46 L st M = zcont ph d 209 (zstep ph (zEm ph d) 0 47 0 [1] L st M) := zEv_step rfl
theorem e209_47 (ph : Bool) (d : Nat) (L st : List zV) (M : zM) : zEv ph d 209 47 L st M = zcont ph d 209 (zstep ph (zEm ph d) 47 50 56 [] L st M) := zEv_step rfl
theorem e209_50 (ph : Bool) (d : Nat) (L st : List zV) (M : zM) : zEv ph d 209 50 L st M = zcont ph d 209 (zstep ph (zEm ph d) 2 52 0 [4] L st M) := zEv_step rfl
theorem e209_52 (ph : Bool) (d : Nat) (L st : List zV) (M : zM) : zEv ph d 209 52 L st M = zcont ph d 209 (zstep ph (zEm ph d) 0 53 0 [2] L st M) := zEv_step rfl
theorem e209_53 (ph : Bool) (d : Nat) (L st : List zV) (M : zM) : zEv ph d 209 53 L st M = zcont ph d 209 (zstep ph (zEm ph d) 13 54 0 [] L st M) := zEv_step rfl
theorem e209_54 (ph : Bool) (d : Nat) (L st : List zV) (M : zM) : zEv ph d 209 54 L st M = zcont ph d 209 (zstep ph (zEm ph d) 5 56 0 [4] L st M) := zEv_step rfl
theorem e209_56 (ph : Bool) (d : Nat) (L st : List zV) (M : zM) : zEv ph d 209 56 L st M = zcont ph d 209 (zstep ph (zEm ph d) 2 58 0 [4] L st M) := zEv_step rfl
theorem e209_58 (ph : Bool) (d : Nat) (L st : List zV) (M : zM) : zEv ph d 209 58 L st M = zcont ph d 209 (zstep ph (zEm ph d) 4 59 0 [0] L st M) := zEv_step rfl
theorem e209_59 (ph : Bool) (d : Nat) (L st : List zV) (M : zM) : zEv ph d 209 59 L st M = zcont ph d 209 (zstep ph (zEm ph d) 62 62 0 [30, 14, 2, 10, 368] L st M) := zEv_step rfl
theorem e209_62 (ph : Bool) (d : Nat) (L st : List zV) (M : zM) : zEv ph d 209 62 L st M = zcont ph d 209 (zstep ph (zEm ph d) 0 64 0 [79] L st M) := zEv_step rfl
theorem e209_64 (ph : Bool) (d : Nat) (L st : List zV) (M : zM) : zEv ph d 209 64 L st M = zcont ph d 209 (zstep ph (zEm ph d) 2 65 0 [2] L st M) := zEv_step rfl
theorem e209_65 (ph : Bool) (d : Nat) (L st : List zV) (M : zM) : zEv ph d 209 65 L st M = zcont ph d 209 (zstep ph (zEm ph d) 10 66 0 [] L st M) := zEv_step rfl
theorem e209_66 (ph : Bool) (d : Nat) (L st : List zV) (M : zM) : zEv ph d 209 66 L st M = zcont ph d 209 (zstep ph (zEm ph d) 85 67 0 [] L st M) := zEv_step rfl
theorem e209_67 (ph : Bool) (d : Nat) (L st : List zV) (M : zM) : zEv ph d 209 67 L st M = zcont ph d 209 (zstep ph (zEm ph d) 51 70 85 [] L st M) := zEv_step rfl
theorem e209_70 (ph : Bool) (d : Nat) (L st : List zV) (M : zM) : zEv ph d 209 70 L st M = zcont ph d 209 (zstep ph (zEm ph d) 2 72 0 [4] L st M) := zEv_step rfl
theorem e209_72 (ph : Bool) (d : Nat) (L st : List zV) (M : zM) : zEv ph d 209 72 L st M = zcont ph d 209 (zstep ph (zEm ph d) 4 73 0 [0] L st M) := zEv_step rfl
theorem e209_73 (ph : Bool) (d : Nat) (L st : List zV) (M : zM) : zEv ph d 209 73 L st M = zcont ph d 209 (zstep ph (zEm ph d) 62 76 0 [30, 14, 2, 10, 368] L st M) := zEv_step rfl
theorem e209_76 (ph : Bool) (d : Nat) (L st : List zV) (M : zM) : zEv ph d 209 76 L st M = zcont ph d 209 (zstep ph (zEm ph d) 0 78 0 [79] L st M) := zEv_step rfl
theorem e209_78 (ph : Bool) (d : Nat) (L st : List zV) (M : zM) : zEv ph d 209 78 L st M = zcont ph d 209 (zstep ph (zEm ph d) 2 79 0 [2] L st M) := zEv_step rfl
theorem e209_79 (ph : Bool) (d : Nat) (L st : List zV) (M : zM) : zEv ph d 209 79 L st M = zcont ph d 209 (zstep ph (zEm ph d) 10 80 0 [] L st M) := zEv_step rfl
theorem e209_80 (ph : Bool) (d : Nat) (L st : List zV) (M : zM) : zEv ph d 209 80 L st M = zcont ph d 209 (zstep ph (zEm ph d) 85 81 0 [] L st M) := zEv_step rfl
theorem e209_81 (ph : Bool) (d : Nat) (L st : List zV) (M : zM) : zEv ph d 209 81 L st M = zcont ph d 209 (zstep ph (zEm ph d) 11 82 0 [] L st M) := zEv_step rfl
theorem e209_82 (ph : Bool) (d : Nat) (L st : List zV) (M : zM) : zEv ph d 209 82 L st M = zcont ph d 209 (zstep ph (zEm ph d) 52 85 86 [] L st M) := zEv_step rfl
theorem e209_85 (ph : Bool) (d : Nat) (L st : List zV) (M : zM) : zEv ph d 209 85 L st M = zcont ph d 209 (zstep ph (zEm ph d) 0 86 0 [0] L st M) := zEv_step rfl
theorem e209_86 (ph : Bool) (d : Nat) (L st : List zV) (M : zM) : zEv ph d 209 86 L st M = zcont ph d 209 (zstep ph (zEm ph d) 80 87 0 [] L st M) := zEv_step rfl
theorem m210 (ph : Bool) (d : Nat) (a x0 p0 y0 p1 y1 : Int) (M : zM) : zEm ph (d + 1) 210 [(30, a, x0), (0, p0, y0), (0, p1, y1)] M = zEv ph d 210 0 [(30, a, x0), (0, p0, y0), (0, p1, y1)] [] M := rfl
theorem e210_0 (ph : Bool) (d : Nat) (L st : List zV) (M : zM) : zEv ph d 210 0 L st M = zcont ph d 210 (zstep ph (zEm ph d) 4 1 0 [0] L st M) := zEv_step rfl
theorem e210_1 (ph : Bool) (d : Nat) (L st : List zV) (M : zM) : zEv ph d 210 1 L st M = zcont ph d 210 (zstep ph (zEm ph d) 2 2 0 [1] L st M) := zEv_step rfl
theorem e210_2 (ph : Bool) (d : Nat) (L st : List zV) (M : zM) : zEv ph d 210 2 L st M = zcont ph d 210 (zstep ph (zEm ph d) 2 3 0 [2] L st M) := zEv_step rfl
theorem e210_3 (ph : Bool) (d : Nat) (L st : List zV) (M : zM) : zEv ph d 210 3 L st M = zcont ph d 210 (zstep ph (zEm ph d) 4 4 0 [0] L st M) := zEv_step rfl
theorem e210_4 (ph : Bool) (d : Nat) (L st : List zV) (M : zM) : zEv ph d 210 4 L st M = zcont ph d 210 (zstep ph (zEm ph d) 62 7 0 [30, 14, 2, 10, 368] L st M) := zEv_step rfl
theorem e210_7 (ph : Bool) (d : Nat) (L st : List zV) (M : zM) : zEv ph d 210 7 L st M = zcont ph d 210 (zstep ph (zEm ph d) 0 9 0 [81] L st M) := zEv_step rfl
theorem e210_9 (ph : Bool) (d : Nat) (L st : List zV) (M : zM) : zEv ph d 210 9 L st M = zcont ph d 210 (zstep ph (zEm ph d) 2 10 0 [1] L st M) := zEv_step rfl
theorem e210_10 (ph : Bool) (d : Nat) (L st : List zV) (M : zM) : zEv ph d 210 10 L st M = zcont ph d 210 (zstep ph (zEm ph d) 10 11 0 [] L st M) := zEv_step rfl
theorem e210_11 (ph : Bool) (d : Nat) (L st : List zV) (M : zM) : zEv ph d 210 11 L st M = zcont ph d 210 (zstep ph (zEm ph d) 85 12 0 [] L st M) := zEv_step rfl
theorem e210_12 (ph : Bool) (d : Nat) (L st : List zV) (M : zM) : zEv ph d 210 12 L st M = zcont ph d 210 (zstep ph (zEm ph d) 70 15 209 [4, 1, 30] L st M) := zEv_step rfl
theorem e210_15 (ph : Bool) (d : Nat) (L st : List zV) (M : zM) : zEv ph d 210 15 L st M = zcont ph d 210 (zstep ph (zEm ph d) 80 16 0 [] L st M) := zEv_step rfl
theorem m211 (ph : Bool) (d : Nat) (a x0 p0 y0 p1 y1 : Int) (M : zM) : zEm ph (d + 1) 211 [(30, a, x0), (0, p0, y0), (0, p1, y1)] M = zEv ph d 211 0 [(30, a, x0), (0, p0, y0), (0, p1, y1)] [] M := rfl
theorem e211_0 (ph : Bool) (d : Nat) (L st : List zV) (M : zM) : zEv ph d 211 0 L st M = zcont ph d 211 (zstep ph (zEm ph d) 2 1 0 [1] L st M) := zEv_step rfl
theorem e211_1 (ph : Bool) (d : Nat) (L st : List zV) (M : zM) : zEv ph d 211 1 L st M = zcont ph d 211 (zstep ph (zEm ph d) 45 4 18 [] L st M) := zEv_step rfl
theorem e211_4 (ph : Bool) (d : Nat) (L st : List zV) (M : zM) : zEv ph d 211 4 L st M = zcont ph d 211 (zstep ph (zEm ph d) 2 5 0 [1] L st M) := zEv_step rfl
theorem e211_5 (ph : Bool) (d : Nat) (L st : List zV) (M : zM) : zEv ph d 211 5 L st M = zcont ph d 211 (zstep ph (zEm ph d) 4 6 0 [0] L st M) := zEv_step rfl
theorem e211_6 (ph : Bool) (d : Nat) (L st : List zV) (M : zM) : zEv ph d 211 6 L st M = zcont ph d 211 (zstep ph (zEm ph d) 62 9 0 [30, 14, 2, 10, 368] L st M) := zEv_step rfl
theorem e211_9 (ph : Bool) (d : Nat) (L st : List zV) (M : zM) : zEv ph d 211 9 L st M = zcont ph d 211 (zstep ph (zEm ph d) 0 11 0 [7] L st M) := zEv_step rfl
theorem e211_11 (ph : Bool) (d : Nat) (L st : List zV) (M : zM) : zEv ph d 211 11 L st M = zcont ph d 211 (zstep ph (zEm ph d) 2 12 0 [2] L st M) := zEv_step rfl
theorem e211_12 (ph : Bool) (d : Nat) (L st : List zV) (M : zM) : zEv ph d 211 12 L st M = zcont ph d 211 (zstep ph (zEm ph d) 10 13 0 [] L st M) := zEv_step rfl
theorem e211_13 (ph : Bool) (d : Nat) (L st : List zV) (M : zM) : zEv ph d 211 13 L st M = zcont ph d 211 (zstep ph (zEm ph d) 85 14 0 [] L st M) := zEv_step rfl
theorem e211_14 (ph : Bool) (d : Nat) (L st : List zV) (M : zM) : zEv ph d 211 14 L st M = zcont ph d 211 (zstep ph (zEm ph d) 10 15 0 [] L st M) := zEv_step rfl
theorem e211_15 (ph : Bool) (d : Nat) (L st : List zV) (M : zM) : zEv ph d 211 15 L st M = zcont ph d 211 (zstep ph (zEm ph d) 52 18 19 [] L st M) := zEv_step rfl
theorem e211_18 (ph : Bool) (d : Nat) (L st : List zV) (M : zM) : zEv ph d 211 18 L st M = zcont ph d 211 (zstep ph (zEm ph d) 0 19 0 [0] L st M) := zEv_step rfl
theorem e211_19 (ph : Bool) (d : Nat) (L st : List zV) (M : zM) : zEv ph d 211 19 L st M = zcont ph d 211 (zstep ph (zEm ph d) 80 20 0 [] L st M) := zEv_step rfl
theorem m212 (ph : Bool) (d : Nat) (a x0 p0 y0 p1 y1 : Int) (M : zM) : zEm ph (d + 1) 212 [(30, a, x0), (0, p0, y0), (0, p1, y1)] M = zEv ph d 212 0 [(30, a, x0), (0, p0, y0), (0, p1, y1), (3, 0, 0), (3, 0, 0)] [] M := rfl
theorem e212_0 (ph : Bool) (d : Nat) (L st : List zV) (M : zM) : zEv ph d 212 0 L st M = zcont ph d 212 (zstep ph (zEm ph d) 0 1 0 [0] L st M) := zEv_step rfl
theorem e212_1 (ph : Bool) (d : Nat) (L st : List zV) (M : zM) : zEv ph d 212 1 L st M = zcont ph d 212 (zstep ph (zEm ph d) 5 2 0 [3] L st M) := zEv_step rfl
theorem e212_2 (ph : Bool) (d : Nat) (L st : List zV) (M : zM) : zEv ph d 212 2 L st M = zcont ph d 212 (zstep ph (zEm ph d) 0 3 0 [0] L st M) := zEv_step rfl
theorem e212_3 (ph : Bool) (d : Nat) (L st : List zV) (M : zM) : zEv ph d 212 3 L st M = zcont ph d 212 (zstep ph (zEm ph d) 5 5 0 [4] L st M) := zEv_step rfl
theorem e212_5 (ph : Bool) (d : Nat) (L st : List zV) (M : zM) : zEv ph d 212 5 L st M = zcont ph d 212 (zstep ph (zEm ph d) 2 7 0 [4] L st M) := zEv_step rfl
theorem e212_7 (ph : Bool) (d : Nat) (L st : List zV) (M : zM) : zEv ph d 212 7 L st M = zcont ph d 212 (zstep ph (zEm ph d) 4 8 0 [0] L st M) := zEv_step rfl
theorem e212_8 (ph : Bool) (d : Nat) (L st : List zV) (M : zM) : zEv ph d 212 8 L st M = zcont ph d 212 (zstep ph (zEm ph d) 62 11 0 [30, 14, 2, 10, 368] L st M) := zEv_step rfl
theorem e212_11 (ph : Bool) (d : Nat) (L st : List zV) (M : zM) : zEv ph d 212 11 L st M = zcont ph d 212 (zstep ph (zEm ph d) 0 12 0 [1] L st M) := zEv_step rfl
theorem e212_12 (ph : Bool) (d : Nat) (L st : List zV) (M : zM) : zEv ph d 212 12 L st M = zcont ph d 212 (zstep ph (zEm ph d) 85 13 0 [] L st M) := zEv_step rfl
theorem e212_13 (ph : Bool) (d : Nat) (L st : List zV) (M : zM) : zEv ph d 212 13 L st M = zcont ph d 212 (zstep ph (zEm ph d) 49 16 41 [] L st M) := zEv_step rfl
theorem e212_16 (ph : Bool) (d : Nat) (L st : List zV) (M : zM) : zEv ph d 212 16 L st M = zcont ph d 212 (zstep ph (zEm ph d) 2 17 0 [1] L st M) := zEv_step rfl
theorem e212_17 (ph : Bool) (d : Nat) (L st : List zV) (M : zM) : zEv ph d 212 17 L st M = zcont ph d 212 (zstep ph (zEm ph d) 2 19 0 [4] L st M) := zEv_step rfl
theorem e212_19 (ph : Bool) (d : Nat) (L st : List zV) (M : zM) : zEv ph d 212 19 L st M = zcont ph d 212 (zstep ph (zEm ph d) 70 22 169 [2, 1, -1] L st M) := zEv_step rfl
theorem e212_22 (ph : Bool) (d : Nat) (L st : List zV) (M : zM) : zEv ph d 212 22 L st M = zcont ph d 212 (zstep ph (zEm ph d) 40 25 35 [] L st M) := zEv_step rfl
theorem e212_25 (ph : Bool) (d : Nat) (L st : List zV) (M : zM) : zEv ph d 212 25 L st M = zcont ph d 212 (zstep ph (zEm ph d) 2 26 0 [3] L st M) := zEv_step rfl
theorem e212_26 (ph : Bool) (d : Nat) (L st : List zV) (M : zM) : zEv ph d 212 26 L st M = zcont ph d 212 (zstep ph (zEm ph d) 4 27 0 [0] L st M) := zEv_step rfl
theorem e212_27 (ph : Bool) (d : Nat) (L st : List zV) (M : zM) : zEv ph d 212 27 L st M = zcont ph d 212 (zstep ph (zEm ph d) 2 29 0 [4] L st M) := zEv_step rfl
theorem e212_29 (ph : Bool) (d : Nat) (L st : List zV) (M : zM) : zEv ph d 212 29 L st M = zcont ph d 212 (zstep ph (zEm ph d) 2 30 0 [2] L st M) := zEv_step rfl
theorem e212_30 (ph : Bool) (d : Nat) (L st : List zV) (M : zM) : zEv ph d 212 30 L st M = zcont ph d 212 (zstep ph (zEm ph d) 70 33 210 [3, 1, 30] L st M) := zEv_step rfl
theorem e212_33 (ph : Bool) (d : Nat) (L st : List zV) (M : zM) : zEv ph d 212 33 L st M = zcont ph d 212 (zstep ph (zEm ph d) 10 34 0 [] L st M) := zEv_step rfl
theorem e212_34 (ph : Bool) (d : Nat) (L st : List zV) (M : zM) : zEv ph d 212 34 L st M = zcont ph d 212 (zstep ph (zEm ph d) 5 35 0 [3] L st M) := zEv_step rfl
theorem e212_35 (ph : Bool) (d : Nat) (L st : List zV) (M : zM) : zEv ph d 212 35 L st M = zcont ph d 212 (zstep ph (zEm ph d) 8 38 0 [4, 1] L st M) := zEv_step rfl
theorem e212_38 (ph : Bool) (d : Nat) (L st : List zV) (M : zM) : zEv ph d 212 38 L st M = zcont ph d 212 (zstep ph (zEm ph d) 52 41 5 [] L st M) := zEv_step rfl
theorem e212_41 (ph : Bool) (d : Nat) (L st : List zV) (M : zM) : zEv ph d 212 41 L st M = zcont ph d 212 (zstep ph (zEm ph d) 4 42 0 [0] L st M) := zEv_step rfl
theorem e212_42 (ph : Bool) (d : Nat) (L st : List zV) (M : zM) : zEv ph d 212 42 L st M = zcont ph d 212 (zstep ph (zEm ph d) 2 43 0 [3] L st M) := zEv_step rfl
theorem e212_43 (ph : Bool) (d : Nat) (L st : List zV) (M : zM) : zEv ph d 212 43 L st M = zcont ph d 212 (zstep ph (zEm ph d) 2 44 0 [2] L st M) := zEv_step rfl
theorem e212_44 (ph : Bool) (d : Nat) (L st : List zV) (M : zM) : zEv ph d 212 44 L st M = zcont ph d 212 (zstep ph (zEm ph d) 70 47 211 [3, 1, 30] L st M) := zEv_step rfl
theorem e212_47 (ph : Bool) (d : Nat) (L st : List zV) (M : zM) : zEv ph d 212 47 L st M = zcont ph d 212 (zstep ph (zEm ph d) 80 48 0 [] L st M) := zEv_step rfl
theorem m213 (ph : Bool) (d : Nat) (a x0 p0 y0 p1 y1 : Int) (M : zM) : zEm ph (d + 1) 213 [(30, a, x0), (0, p0, y0), (0, p1, y1)] M = zEv ph d 213 0 [(30, a, x0), (0, p0, y0), (0, p1, y1)] [] M := rfl
theorem e213_0 (ph : Bool) (d : Nat) (L st : List zV) (M : zM) : zEv ph d 213 0 L st M = zcont ph d 213 (zstep ph (zEm ph d) 4 1 0 [0] L st M) := zEv_step rfl
theorem e213_1 (ph : Bool) (d : Nat) (L st : List zV) (M : zM) : zEv ph d 213 1 L st M = zcont ph d 213 (zstep ph (zEm ph d) 2 2 0 [1] L st M) := zEv_step rfl
theorem e213_2 (ph : Bool) (d : Nat) (L st : List zV) (M : zM) : zEv ph d 213 2 L st M = zcont ph d 213 (zstep ph (zEm ph d) 0 3 0 [0] L st M) := zEv_step rfl
theorem e213_3 (ph : Bool) (d : Nat) (L st : List zV) (M : zM) : zEv ph d 213 3 L st M = zcont ph d 213 (zstep ph (zEm ph d) 70 6 212 [3, 1, 30] L st M) := zEv_step rfl
theorem e213_6 (ph : Bool) (d : Nat) (L st : List zV) (M : zM) : zEv ph d 213 6 L st M = zcont ph d 213 (zstep ph (zEm ph d) 4 7 0 [0] L st M) := zEv_step rfl
theorem e213_7 (ph : Bool) (d : Nat) (L st : List zV) (M : zM) : zEv ph d 213 7 L st M = zcont ph d 213 (zstep ph (zEm ph d) 2 8 0 [2] L st M) := zEv_step rfl
theorem e213_8 (ph : Bool) (d : Nat) (L st : List zV) (M : zM) : zEv ph d 213 8 L st M = zcont ph d 213 (zstep ph (zEm ph d) 0 9 0 [1] L st M) := zEv_step rfl
theorem e213_9 (ph : Bool) (d : Nat) (L st : List zV) (M : zM) : zEv ph d 213 9 L st M = zcont ph d 213 (zstep ph (zEm ph d) 70 12 212 [3, 1, 30] L st M) := zEv_step rfl
theorem e213_12 (ph : Bool) (d : Nat) (L st : List zV) (M : zM) : zEv ph d 213 12 L st M = zcont ph d 213 (zstep ph (zEm ph d) 51 15 19 [] L st M) := zEv_step rfl
theorem e213_15 (ph : Bool) (d : Nat) (L st : List zV) (M : zM) : zEv ph d 213 15 L st M = zcont ph d 213 (zstep ph (zEm ph d) 0 16 0 [1] L st M) := zEv_step rfl
theorem e213_16 (ph : Bool) (d : Nat) (L st : List zV) (M : zM) : zEv ph d 213 16 L st M = zcont ph d 213 (zstep ph (zEm ph d) 52 19 20 [] L st M) := zEv_step rfl
theorem e213_19 (ph : Bool) (d : Nat) (L st : List zV) (M : zM) : zEv ph d 213 19 L st M = zcont ph d 213 (zstep ph (zEm ph d) 0 20 0 [0] L st M) := zEv_step rfl
theorem e213_20 (ph : Bool) (d : Nat) (L st : List zV) (M : zM) : zEv ph d 213 20 L st M = zcont ph d 213 (zstep ph (zEm ph d) 80 21 0 [0, 1] L st M) := zEv_step rfl
theorem m214 (ph : Bool) (d : Nat) (a x0 p0 y0 : Int) (M : zM) : zEm ph (d + 1) 214 [(30, a, x0), (0, p0, y0)] M = zEv ph d 214 0 [(30, a, x0), (0, p0, y0)] [] M := rfl
theorem e214_0 (ph : Bool) (d : Nat) (L st : List zV) (M : zM) : zEv ph d 214 0 L st M = zcont ph d 214 (zstep ph (zEm ph d) 4 1 0 [0] L st M) := zEv_step rfl
theorem e214_1 (ph : Bool) (d : Nat) (L st : List zV) (M : zM) : zEv ph d 214 1 L st M = zcont ph d 214 (zstep ph (zEm ph d) 4 2 0 [0] L st M) := zEv_step rfl
theorem e214_2 (ph : Bool) (d : Nat) (L st : List zV) (M : zM) : zEv ph d 214 2 L st M = zcont ph d 214 (zstep ph (zEm ph d) 62 5 0 [30, 14, 2, 10, 368] L st M) := zEv_step rfl
theorem e214_5 (ph : Bool) (d : Nat) (L st : List zV) (M : zM) : zEv ph d 214 5 L st M = zcont ph d 214 (zstep ph (zEm ph d) 0 7 0 [101] L st M) := zEv_step rfl
theorem e214_7 (ph : Bool) (d : Nat) (L st : List zV) (M : zM) : zEv ph d 214 7 L st M = zcont ph d 214 (zstep ph (zEm ph d) 2 8 0 [1] L st M) := zEv_step rfl
theorem e214_8 (ph : Bool) (d : Nat) (L st : List zV) (M : zM) : zEv ph d 214 8 L st M = zcont ph d 214 (zstep ph (zEm ph d) 10 9 0 [] L st M) := zEv_step rfl
theorem e214_9 (ph : Bool) (d : Nat) (L st : List zV) (M : zM) : zEv ph d 214 9 L st M = zcont ph d 214 (zstep ph (zEm ph d) 85 10 0 [] L st M) := zEv_step rfl
theorem e214_10 (ph : Bool) (d : Nat) (L st : List zV) (M : zM) : zEv ph d 214 10 L st M = zcont ph d 214 (zstep ph (zEm ph d) 4 11 0 [0] L st M) := zEv_step rfl
theorem e214_11 (ph : Bool) (d : Nat) (L st : List zV) (M : zM) : zEv ph d 214 11 L st M = zcont ph d 214 (zstep ph (zEm ph d) 62 14 0 [30, 14, 2, 10, 368] L st M) := zEv_step rfl
theorem e214_14 (ph : Bool) (d : Nat) (L st : List zV) (M : zM) : zEv ph d 214 14 L st M = zcont ph d 214 (zstep ph (zEm ph d) 0 16 0 [106] L st M) := zEv_step rfl
theorem e214_16 (ph : Bool) (d : Nat) (L st : List zV) (M : zM) : zEv ph d 214 16 L st M = zcont ph d 214 (zstep ph (zEm ph d) 2 17 0 [1] L st M) := zEv_step rfl
theorem e214_17 (ph : Bool) (d : Nat) (L st : List zV) (M : zM) : zEv ph d 214 17 L st M = zcont ph d 214 (zstep ph (zEm ph d) 10 18 0 [] L st M) := zEv_step rfl
theorem e214_18 (ph : Bool) (d : Nat) (L st : List zV) (M : zM) : zEv ph d 214 18 L st M = zcont ph d 214 (zstep ph (zEm ph d) 85 19 0 [] L st M) := zEv_step rfl
theorem e214_19 (ph : Bool) (d : Nat) (L st : List zV) (M : zM) : zEv ph d 214 19 L st M = zcont ph d 214 (zstep ph (zEm ph d) 70 22 213 [3, 1, 30] L st M) := zEv_step rfl
theorem e214_22 (ph : Bool) (d : Nat) (L st : List zV) (M : zM) : zEv ph d 214 22 L st M = zcont ph d 214 (zstep ph (zEm ph d) 80 23 0 [0, 1] L st M) := zEv_step rfl
theorem m216 (ph : Bool) (d : Nat) (a x0 p0 y0 p1 y1 : Int) (M : zM) : zEm ph (d + 1) 216 [(30, a, x0), (0, p0, y0), (0, p1, y1)] M = zEv ph d 216 0 [(30, a, x0), (0, p0, y0), (0, p1, y1)] [] M := rfl
theorem e216_0 (ph : Bool) (d : Nat) (L st : List zV) (M : zM) : zEv ph d 216 0 L st M = zcont ph d 216 (zstep ph (zEm ph d) 4 1 0 [0] L st M) := zEv_step rfl
theorem e216_1 (ph : Bool) (d : Nat) (L st : List zV) (M : zM) : zEv ph d 216 1 L st M = zcont ph d 216 (zstep ph (zEm ph d) 62 4 0 [30, 14, 2, 10, 368] L st M) := zEv_step rfl
theorem e216_4 (ph : Bool) (d : Nat) (L st : List zV) (M : zM) : zEv ph d 216 4 L st M = zcont ph d 216 (zstep ph (zEm ph d) 0 6 0 [101] L st M) := zEv_step rfl
theorem e216_6 (ph : Bool) (d : Nat) (L st : List zV) (M : zM) : zEv ph d 216 6 L st M = zcont ph d 216 (zstep ph (zEm ph d) 2 7 0 [2] L st M) := zEv_step rfl
theorem e216_7 (ph : Bool) (d : Nat) (L st : List zV) (M : zM) : zEv ph d 216 7 L st M = zcont ph d 216 (zstep ph (zEm ph d) 10 8 0 [] L st M) := zEv_step rfl
theorem e216_8 (ph : Bool) (d : Nat) (L st : List zV) (M : zM) : zEv ph d 216 8 L st M = zcont ph d 216 (zstep ph (zEm ph d) 85 9 0 [] L st M) := zEv_step rfl
theorem e216_9 (ph : Bool) (d : Nat) (L st : List zV) (M : zM) : zEv ph d 216 9 L st M = zcont ph d 216 (zstep ph (zEm ph d) 2 10 0 [1] L st M) := zEv_step rfl
theorem e216_10 (ph : Bool) (d : Nat) (L st : List zV) (M : zM) : zEv ph d 216 10 L st M = zcont ph d 216 (zstep ph (zEm ph d) 70 13 169 [2, 1, -1] L st M) := zEv_step rfl
theorem e216_13 (ph : Bool) (d : Nat) (L st : List zV) (M : zM) : zEv ph d 216 13 L st M = zcont ph d 216 (zstep ph (zEm ph d) 40 16 20 [] L st M) := zEv_step rfl
theorem e216_16 (ph : Bool) (d : Nat) (L st : List zV) (M : zM) : zEv ph d 216 16 L st M = zcont ph d 216 (zstep ph (zEm ph d) 0 17 0 [0] L st M) := zEv_step rfl
theorem e216_17 (ph : Bool) (d : Nat) (L st : List zV) (M : zM) : zEv ph d 216 17 L st M = zcont ph d 216 (zstep ph (zEm ph d) 52 20 42 [] L st M) := zEv_step rfl
theorem e216_20 (ph : Bool) (d : Nat) (L st : List zV) (M : zM) : zEv ph d 216 20 L st M = zcont ph d 216 (zstep ph (zEm ph d) 4 21 0 [0] L st M) := zEv_step rfl
theorem e216_21 (ph : Bool) (d : Nat) (L st : List zV) (M : zM) : zEv ph d 216 21 L st M = zcont ph d 216 (zstep ph (zEm ph d) 62 24 0 [30, 14, 2, 10, 368] L st M) := zEv_step rfl
theorem e216_24 (ph : Bool) (d : Nat) (L st : List zV) (M : zM) : zEv ph d 216 24 L st M = zcont ph d 216 (zstep ph (zEm ph d) 0 26 0 [106] L st M) := zEv_step rfl
theorem e216_26 (ph : Bool) (d : Nat) (L st : List zV) (M : zM) : zEv ph d 216 26 L st M = zcont ph d 216 (zstep ph (zEm ph d) 2 27 0 [2] L st M) := zEv_step rfl
theorem e216_27 (ph : Bool) (d : Nat) (L st : List zV) (M : zM) : zEv ph d 216 27 L st M = zcont ph d 216 (zstep ph (zEm ph d) 10 28 0 [] L st M) := zEv_step rfl
theorem e216_28 (ph : Bool) (d : Nat) (L st : List zV) (M : zM) : zEv ph d 216 28 L st M = zcont ph d 216 (zstep ph (zEm ph d) 85 29 0 [] L st M) := zEv_step rfl
theorem e216_29 (ph : Bool) (d : Nat) (L st : List zV) (M : zM) : zEv ph d 216 29 L st M = zcont ph d 216 (zstep ph (zEm ph d) 2 30 0 [1] L st M) := zEv_step rfl
theorem e216_30 (ph : Bool) (d : Nat) (L st : List zV) (M : zM) : zEv ph d 216 30 L st M = zcont ph d 216 (zstep ph (zEm ph d) 70 33 169 [2, 1, -1] L st M) := zEv_step rfl
theorem e216_33 (ph : Bool) (d : Nat) (L st : List zV) (M : zM) : zEv ph d 216 33 L st M = zcont ph d 216 (zstep ph (zEm ph d) 40 36 40 [] L st M) := zEv_step rfl
theorem e216_36 (ph : Bool) (d : Nat) (L st : List zV) (M : zM) : zEv ph d 216 36 L st M = zcont ph d 216 (zstep ph (zEm ph d) 0 37 0 [1] L st M) := zEv_step rfl
theorem e216_37 (ph : Bool) (d : Nat) (L st : List zV) (M : zM) : zEv ph d 216 37 L st M = zcont ph d 216 (zstep ph (zEm ph d) 52 40 42 [] L st M) := zEv_step rfl
theorem e216_40 (ph : Bool) (d : Nat) (L st : List zV) (M : zM) : zEv ph d 216 40 L st M = zcont ph d 216 (zstep ph (zEm ph d) 0 42 0 [-2] L st M) := zEv_step rfl
theorem e216_42 (ph : Bool) (d : Nat) (L st : List zV) (M : zM) : zEv ph d 216 42 L st M = zcont ph d 216 (zstep ph (zEm ph d) 80 43 0 [] L st M) := zEv_step rfl
theorem m221 (ph : Bool) (d : Nat) (a x0 p0 y0 : Int) (M : zM) : zEm ph (d + 1) 221 [(30, a, x0), (0, p0, y0)] M = zEv ph d 221 0 [(30, a, x0), (0, p0, y0), (3, 0, 0), (3, 0, 0)] [] M := rfl
theorem e221_0 (ph : Bool) (d : Nat) (L st : List zV) (M : zM) : zEv ph d 221 0 L st M = zcont ph d 221 (zstep ph (zEm ph d) 0 1 0 [0] L st M) := zEv_step rfl
theorem e221_1 (ph : Bool) (d : Nat) (L st : List zV) (M : zM) : zEv ph d 221 1 L st M = zcont ph d 221 (zstep ph (zEm ph d) 5 2 0 [2] L st M) := zEv_step rfl
theorem e221_2 (ph : Bool) (d : Nat) (L st : List zV) (M : zM) : zEv ph d 221 2 L st M = zcont ph d 221 (zstep ph (zEm ph d) 0 3 0 [0] L st M) := zEv_step rfl
theorem e221_3 (ph : Bool) (d : Nat) (L st : List zV) (M : zM) : zEv ph d 221 3 L st M = zcont ph d 221 (zstep ph (zEm ph d) 5 4 0 [3] L st M) := zEv_step rfl
theorem e221_4 (ph : Bool) (d : Nat) (L st : List zV) (M : zM) : zEv ph d 221 4 L st M = zcont ph d 221 (zstep ph (zEm ph d) 2 5 0 [3] L st M) := zEv_step rfl
theorem e221_5 (ph : Bool) (d : Nat) (L st : List zV) (M : zM) : zEv ph d 221 5 L st M = zcont ph d 221 (zstep ph (zEm ph d) 4 6 0 [0] L st M) := zEv_step rfl
theorem e221_6 (ph : Bool) (d : Nat) (L st : List zV) (M : zM) : zEv ph d 221 6 L st M = zcont ph d 221 (zstep ph (zEm ph d) 62 9 0 [30, 14, 2, 10, 368] L st M) := zEv_step rfl
theorem e221_9 (ph : Bool) (d : Nat) (L st : List zV) (M : zM) : zEv ph d 221 9 L st M = zcont ph d 221 (zstep ph (zEm ph d) 0 10 0 [2] L st M) := zEv_step rfl
theorem e221_10 (ph : Bool) (d : Nat) (L st : List zV) (M : zM) : zEv ph d 221 10 L st M = zcont ph d 221 (zstep ph (zEm ph d) 85 11 0 [] L st M) := zEv_step rfl
theorem e221_11 (ph : Bool) (d : Nat) (L st : List zV) (M : zM) : zEv ph d 221 11 L st M = zcont ph d 221 (zstep ph (zEm ph d) 49 14 39 [] L st M) := zEv_step rfl
theorem e221_14 (ph : Bool) (d : Nat) (L st : List zV) (M : zM) : zEv ph d 221 14 L st M = zcont ph d 221 (zstep ph (zEm ph d) 4 15 0 [0] L st M) := zEv_step rfl
theorem e221_15 (ph : Bool) (d : Nat) (L st : List zV) (M : zM) : zEv ph d 221 15 L st M = zcont ph d 221 (zstep ph (zEm ph d) 62 18 0 [30, 14, 2, 10, 368] L st M) := zEv_step rfl
theorem e221_18 (ph : Bool) (d : Nat) (L st : List zV) (M : zM) : zEv ph d 221 18 L st M = zcont ph d 221 (zstep ph (zEm ph d) 0 20 0 [111] L st M) := zEv_step rfl
theorem e221_20 (ph : Bool) (d : Nat) (L st : List zV) (M : zM) : zEv ph d 221 20 L st M = zcont ph d 221 (zstep ph (zEm ph d) 2 21 0 [3] L st M) := zEv_step rfl
theorem e221_21 (ph : Bool) (d : Nat) (L st : List zV) (M : zM) : zEv ph d 221 21 L st M = zcont ph d 221 (zstep ph (zEm ph d) 10 22 0 [] L st M) := zEv_step rfl
theorem e221_22 (ph : Bool) (d : Nat) (L st : List zV) (M : zM) : zEv ph d 221 22 L st M = zcont ph d 221 (zstep ph (zEm ph d) 85 23 0 [] L st M) := zEv_step rfl
theorem e221_23 (ph : Bool) (d : Nat) (L st : List zV) (M : zM) : zEv ph d 221 23 L st M = zcont ph d 221 (zstep ph (zEm ph d) 2 24 0 [1] L st M) := zEv_step rfl
theorem e221_24 (ph : Bool) (d : Nat) (L st : List zV) (M : zM) : zEv ph d 221 24 L st M = zcont ph d 221 (zstep ph (zEm ph d) 47 27 33 [] L st M) := zEv_step rfl
theorem e221_27 (ph : Bool) (d : Nat) (L st : List zV) (M : zM) : zEv ph d 221 27 L st M = zcont ph d 221 (zstep ph (zEm ph d) 2 28 0 [2] L st M) := zEv_step rfl
theorem e221_28 (ph : Bool) (d : Nat) (L st : List zV) (M : zM) : zEv ph d 221 28 L st M = zcont ph d 221 (zstep ph (zEm ph d) 0 29 0 [1] L st M) := zEv_step rfl
theorem e221_29 (ph : Bool) (d : Nat) (L st : List zV) (M : zM) : zEv ph d 221 29 L st M = zcont ph d 221 (zstep ph (zEm ph d) 2 30 0 [3] L st M) := zEv_step rfl
theorem e221_30 (ph : Bool) (d : Nat) (L st : List zV) (M : zM) : zEv ph d 221 30 L st M = zcont ph d 221 (zstep ph (zEm ph d) 19 31 0 [] L st M) := zEv_step rfl
theorem e221_31 (ph : Bool) (d : Nat) (L st : List zV) (M : zM) : zEv ph d 221 31 L st M = zcont ph d 221 (zstep ph (zEm ph d) 17 32 0 [] L st M) := zEv_step rfl
theorem e221_32 (ph : Bool) (d : Nat) (L st : List zV) (M : zM) : zEv ph d 221 32 L st M = zcont ph d 221 (zstep ph (zEm ph d) 5 33 0 [2] L st M) := zEv_step rfl
theorem e221_33 (ph : Bool) (d : Nat) (L st : List zV) (M : zM) : zEv ph d 221 33 L st M = zcont ph d 221 (zstep ph (zEm ph d) 8 36 0 [3, 1] L st M) := zEv_step rfl
theorem e221_36 (ph : Bool) (d : Nat) (L st : List zV) (M : zM) : zEv ph d 221 36 L st M = zcont ph d 221 (zstep ph (zEm ph d) 52 39 4 [] L st M) := zEv_step rfl
theorem e221_39 (ph : Bool) (d : Nat) (L st : List zV) (M : zM) : zEv ph d 221 39 L st M = zcont ph d 221 (zstep ph (zEm ph d) 2 40 0 [2] L st M) := zEv_step rfl
theorem e221_40 (ph : Bool) (d : Nat) (L st : List zV) (M : zM) : zEv ph d 221 40 L st M = zcont ph d 221 (zstep ph (zEm ph d) 80 41 0 [] L st M) := zEv_step rfl
theorem r_isIn (ph : Bool) (d : Nat) (v a b x y z : Int) (M : zM) : zEm ph (d + 1) 168 [(0, v, x), (0, a, y), (0, b, z)] M = some ((0, if a ≤ v ∧ v ≤ b then 1 else 0, 0), M) := by
  by_cases c1 : a ≤ v
  · by_cases c2 : v ≤ b
    · rw [if_pos ⟨c1, c2⟩]
      simp (disch := first | assumption | exact zrm0 | exact zrm1 _ | exact zrm2 _ _ | exact zrm3 _ _ _ | exact zrm4 _ _ _ _ | omega) only [m168, ↓k_dp, ↓k_dn, k_dp, k_dn, k_ip, k_in, if_true, if_false, ne_eq, not_true_eq_false, not_false_eq_true, Int.reduceAdd, zup_a, zup_e, zup_j, z32_id, k_il0, k_il1, k_iclt, k_il2, k_icgt, k_ic, k_goto, k_rz, e168_0, e168_1, e168_2, e168_5, e168_6, e168_7, e168_10, e168_11, e168_14, e168_15]
    · rw [if_neg (fun h => c2 h.2)]
      simp (disch := first | assumption | exact zrm0 | exact zrm1 _ | exact zrm2 _ _ | exact zrm3 _ _ _ | exact zrm4 _ _ _ _ | omega) only [m168, ↓k_dp, ↓k_dn, k_dp, k_dn, k_ip, k_in, if_true, if_false, ne_eq, not_true_eq_false, not_false_eq_true, Int.reduceAdd, zup_a, zup_e, zup_j, z32_id, k_il0, k_il1, k_iclt, k_il2, k_icgt, k_ic, k_goto, k_rz, e168_0, e168_1, e168_2, e168_5, e168_6, e168_7, e168_10, e168_11, e168_14, e168_15]
  · rw [if_neg (fun h => c1 h.1)]
    simp (disch := first | assumption | exact zrm0 | exact zrm1 _ | exact zrm2 _ _ | exact zrm3 _ _ _ | exact zrm4 _ _ _ _ | omega) only [m168, ↓k_dp, ↓k_dn, k_dp, k_dn, k_ip, k_in, if_true, if_false, ne_eq, not_true_eq_false, not_false_eq_true, Int.reduceAdd, zup_a, zup_e, zup_j, z32_id, k_il0, k_il1, k_iclt, k_il2, k_icgt, k_ic, k_goto, k_rz, e168_0, e168_1, e168_2, e168_5, e168_6, e168_7, e168_10, e168_11, e168_14, e168_15]
theorem r_has (ph : Bool) (d : Nat) (s k x y : Int) (M : zM) : zEm ph (d + 1) 169 [(0, s, x), (0, k, y)] M = some ((0, if zbit s k ≠ 0 then 1 else 0, 0), M) := by
  rcases zbit_01 s k with h | h
  · have h2 := h
    unfold zbit at h2
    rw [if_neg (by omega)]
    simp (disch := first | assumption | exact zrm0 | exact zrm1 _ | exact zrm2 _ _ | exact zrm3 _ _ _ | exact zrm4 _ _ _ _ | omega) only [m169, ↓k_dp, ↓k_dn, k_dp, k_dn, k_ip, k_in, if_true, if_false, ne_eq, not_true_eq_false, not_false_eq_true, Int.reduceAdd, zup_a, zup_e, zup_j, z32_id, k_il0, k_il1, k_ishr, k_ic, k_iand, k_icne, k_goto, k_rz, e169_0, e169_1, e169_2, e169_3, e169_4, e169_5, e169_6, e169_9, e169_10, e169_13, e169_14, h2]
  · have h2 := h
    unfold zbit at h2
    rw [if_pos (by omega)]
    simp (disch := first | assumption | exact zrm0 | exact zrm1 _ | exact zrm2 _ _ | exact zrm3 _ _ _ | exact zrm4 _ _ _ _ | omega) only [m169, ↓k_dp, ↓k_dn, k_dp, k_dn, k_ip, k_in, if_true, if_false, ne_eq, not_true_eq_false, not_false_eq_true, Int.reduceAdd, zup_a, zup_e, zup_j, z32_id, k_il0, k_il1, k_ishr, k_ic, k_iand, k_icne, k_goto, k_rz, e169_0, e169_1, e169_2, e169_3, e169_4, e169_5, e169_6, e169_9, e169_10, e169_13, e169_14, h2]
theorem r_least (ph : Bool) (d : Nat) (a b x y : Int) (M : zM) : zEm ph (d + 1) 171 [(0, a, x), (0, b, y)] M = some ((0, sMin a b, 0), M) := by
  unfold sMin
  by_cases c1 : b < a
  · rw [if_pos c1]
    simp (disch := first | assumption | exact zrm0 | exact zrm1 _ | exact zrm2 _ _ | exact zrm3 _ _ _ | exact zrm4 _ _ _ _ | omega) only [m171, ↓k_dp, ↓k_dn, k_dp, k_dn, k_ip, k_in, if_true, if_false, ne_eq, not_true_eq_false, not_false_eq_true, Int.reduceAdd, zup_a, zup_e, zup_j, z32_id, k_il0, k_il1, k_icge, k_goto, k_ri, e171_0, e171_1, e171_2, e171_5, e171_6, e171_9, e171_10]
  · rw [if_neg c1]
    by_cases c2 : a = b
    · subst c2
      simp (disch := first | assumption | exact zrm0 | exact zrm1 _ | exact zrm2 _ _ | exact zrm3 _ _ _ | exact zrm4 _ _ _ _ | omega) only [m171, ↓k_dp, ↓k_dn, k_dp, k_dn, k_ip, k_in, if_true, if_false, ne_eq, not_true_eq_false, not_false_eq_true, Int.reduceAdd, zup_a, zup_e, zup_j, z32_id, k_il0, k_il1, k_icge, k_goto, k_ri, e171_0, e171_1, e171_2, e171_5, e171_6, e171_9, e171_10]
    · simp (disch := first | assumption | exact zrm0 | exact zrm1 _ | exact zrm2 _ _ | exact zrm3 _ _ _ | exact zrm4 _ _ _ _ | omega) only [m171, ↓k_dp, ↓k_dn, k_dp, k_dn, k_ip, k_in, if_true, if_false, ne_eq, not_true_eq_false, not_false_eq_true, Int.reduceAdd, zup_a, zup_e, zup_j, z32_id, k_il0, k_il1, k_icge, k_goto, k_ri, e171_0, e171_1, e171_2, e171_5, e171_6, e171_9, e171_10]
theorem r_size (ph : Bool) (d : Nat) (v x : Int) (M : zM) (h : v ≠ -2147483648) : zEm ph (d + 1) 172 [(0, v, x)] M = some ((0, sAbs v, 0), M) := by
  unfold sAbs
  by_cases c1 : 0 ≤ v
  · rw [if_pos c1]
    simp (disch := first | assumption | exact zrm0 | exact zrm1 _ | exact zrm2 _ _ | exact zrm3 _ _ _ | exact zrm4 _ _ _ _ | omega) only [m172, ↓k_dp, ↓k_dn, k_dp, k_dn, k_ip, k_in, if_true, if_false, ne_eq, not_true_eq_false, not_false_eq_true, Int.reduceAdd, zup_a, zup_e, zup_j, z32_id, k_il0, k_ifge, k_ineg, k_goto, k_ri, e172_0, e172_1, e172_4, e172_5, e172_6, e172_9, e172_10]
  · rw [if_neg c1]
    simp (disch := first | assumption | exact zrm0 | exact zrm1 _ | exact zrm2 _ _ | exact zrm3 _ _ _ | exact zrm4 _ _ _ _ | omega) only [m172, ↓k_dp, ↓k_dn, k_dp, k_dn, k_ip, k_in, if_true, if_false, ne_eq, not_true_eq_false, not_false_eq_true, Int.reduceAdd, zup_a, zup_e, zup_j, z32_id, k_il0, k_ifge, k_ineg, k_goto, k_ri, e172_0, e172_1, e172_4, e172_5, e172_6, e172_9, e172_10, Int.zero_sub]
