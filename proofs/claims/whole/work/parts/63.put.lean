/-! a state's view put back into a memory -/
theorem zsubl {a x : Int} : a + x - a = x := by omega
noncomputable def zput (M : zM) (a : Int) (T : zM) : zM := fun x y => zif (sdom (x - a) y) (T (x - a) y) (M x y)
noncomputable def zt (T : zM) : zM := fun i y => zif (sdom i y) (T i y) 0
theorem zput_o {M T : zM} {a x y : Int} (h : x < a ∨ a + 9 ≤ x) : zput M a T x y = M x y := by
  unfold zput
  rw [zif_f]
  unfold sdom; omega
theorem zput_r {M T : zM} {a x y : Int} (h : sdom (x - a) y) : zput M a T x y = T (x - a) y := by
  unfold zput
  rw [zif_t h]
theorem zput_0 {M T : zM} {a y : Int} (h : 8 ≤ y) (h2 : y ≤ 10) : zput M a T a y = T 0 y := by
  rw [zput_r (by unfold sdom; omega), Int.sub_self]
theorem zput_1 {M T : zM} {a y : Int} (h : 0 ≤ y) (h2 : y < 10) : zput M a T (a + 1) y = T 1 y := by
  rw [zput_r (by unfold sdom; omega), zsubl]
theorem zput_2 {M T : zM} {a y : Int} (h : 0 ≤ y) (h2 : y < 10) : zput M a T (a + 2) y = T 2 y := by
  rw [zput_r (by unfold sdom; omega), zsubl]
theorem zput_3 {M T : zM} {a y : Int} (h : 0 ≤ y) (h2 : y < 5) : zput M a T (a + 3) y = T 3 y := by
  rw [zput_r (by unfold sdom; omega), zsubl]
theorem zput_4 {M T : zM} {a y : Int} (h : 0 ≤ y) (h2 : y < 5) : zput M a T (a + 4) y = T 4 y := by
  rw [zput_r (by unfold sdom; omega), zsubl]
theorem zput_5 {M T : zM} {a y : Int} (h : 0 ≤ y) (h2 : y < 5) : zput M a T (a + 5) y = T 5 y := by
  rw [zput_r (by unfold sdom; omega), zsubl]
theorem zput_6 {M T : zM} {a y : Int} (h : 0 ≤ y) (h2 : y < 5) : zput M a T (a + 6) y = T 6 y := by
  rw [zput_r (by unfold sdom; omega), zsubl]
theorem zput_7 {M T : zM} {a y : Int} (h : 0 ≤ y) (h2 : y < 5) : zput M a T (a + 7) y = T 7 y := by
  rw [zput_r (by unfold sdom; omega), zsubl]
theorem zput_8 {M T : zM} {a y : Int} (h : 0 ≤ y) (h2 : y < 2) : zput M a T (a + 8) y = T 8 y := by
  rw [zput_r (by unfold sdom; omega), zsubl]
theorem zput_up {M T : zM} {a i j v : Int} (ha : 0 ≤ a) (h : sdom i j) : zup (zput M a T) (a + i) j v = zput M a (zup T i j v) := by
  have hi : 0 ≤ i := by unfold sdom at h; omega
  funext x y
  unfold zput zup
  by_cases hx : x = a + i ∧ y = j
  · obtain ⟨rfl, rfl⟩ := hx
    rw [if_pos ⟨rfl, rfl, by omega⟩, zsubl, zif_t h, if_pos ⟨rfl, rfl, by omega⟩]
  · rw [if_neg (fun z => hx ⟨z.1, z.2.1⟩), if_neg (fun z => hx ⟨by omega, z.2.1⟩)]
theorem zput_up0 {M T : zM} {a j v : Int} (ha : 0 ≤ a) (h : 8 ≤ j) (h2 : j ≤ 10) : zup (zput M a T) a j v = zput M a (zup T 0 j v) := by
  have := zput_up (M := M) (T := T) (v := v) ha (i := 0) (j := j) (by unfold sdom; omega)
  rwa [Int.add_zero] at this
theorem zput_self {M : zM} {a : Int} : zput M a (zvS M a) = M := by
  funext x y
  unfold zput zvS
  by_cases h : sdom (x - a) y
  · rw [zif_t h, zif_t h, show a + (x - a) = x by omega]
  · rw [zif_f h]
theorem zput_put {M T U : zM} {a : Int} : zput (zput M a T) a U = zput M a U := by
  funext x y
  unfold zput
  by_cases h : sdom (x - a) y
  · rw [zif_t h, zif_t h]
  · rw [zif_f h, zif_f h, zif_f h]
theorem zvS_put {M T : zM} {a : Int} : zvS (zput M a T) a = zt T := by
  funext i y
  unfold zvS zput zt
  by_cases h : sdom i y
  · rw [zif_t h, zif_t h, zsubl, zif_t h]
  · rw [zif_f h, zif_f h]
theorem zvS_puto {M T : zM} {a b : Int} (h : a + 9 ≤ b ∨ b + 9 ≤ a) : zvS (zput M a T) b = zvS M b := by
  funext i y
  unfold zvS
  by_cases hd : sdom i y
  · rw [zif_t hd, zif_t hd, zput_o (by unfold sdom at hd; omega)]
  · rw [zif_f hd, zif_f hd]
theorem zvG_puto {M T : zM} {a b : Int} (h : a + 9 ≤ b ∨ b + 7 ≤ a) : zvG (zput M a T) b = zvG M b := by
  have e : zput M a T b 7 = M b 7 := zput_o (by omega)
  funext i y
  unfold zvG
  rw [e]
  by_cases hd : gdom (M b 7) i y
  · rw [zif_t hd, zif_t hd, zput_o (by unfold gdom at hd; omega)]
  · rw [zif_f hd, zif_f hd]
theorem zt_v {M : zM} {a : Int} : zt (zvS M a) = zvS M a := by
  funext i y
  unfold zt zvS
  by_cases h : sdom i y
  · rw [zif_t h]
  · rw [zif_f h, zif_f h]
theorem zt_up {T : zM} {i j v : Int} (h : sdom i j) (ht : zt T = T) : zt (zup T i j v) = zup T i j v := by
  funext x y
  by_cases hd : sdom x y
  · unfold zt; rw [zif_t hd]
  · unfold zt
    rw [zif_f hd]
    unfold zup
    rw [if_neg (fun z => hd (by rw [z.1, z.2.1]; exact h))]
    have := congrFun (congrFun ht x) y
    unfold zt at this
    rw [zif_f hd] at this
    exact this
/-- the first store into a memory -/
theorem zup_put {M : zM} {a i j v : Int} (ha : 0 ≤ a) (h : sdom i j) : zup M (a + i) j v = zput M a (zup (zvS M a) i j v) := by
  rw [← zput_up ha h, zput_self]
theorem zup_put0 {M : zM} {a j v : Int} (ha : 0 ≤ a) (h : 8 ≤ j) (h2 : j ≤ 10) : zup M a j v = zput M a (zup (zvS M a) 0 j v) := by
  rw [← zput_up0 ha h h2, zput_self]
