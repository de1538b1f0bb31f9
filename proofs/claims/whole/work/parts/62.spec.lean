/-! what the valley's numbers are: words over a view S of a state and a view G of a land -/
def zbit (s k : Int) : Int := zand (zshr s k) 1
def sdom (i y : Int) : Prop := (i = 0 ∧ 8 ≤ y ∧ y ≤ 10) ∨ ((i = 1 ∨ i = 2) ∧ 0 ≤ y ∧ y < 10) ∨ (3 ≤ i ∧ i ≤ 7 ∧ 0 ≤ y ∧ y < 5) ∨ (i = 8 ∧ 0 ≤ y ∧ y < 2)
def gdom (n i y : Int) : Prop := (i = 0 ∧ 6 ≤ y ∧ y ≤ 11) ∨ (i = 4 ∧ 0 ≤ y ∧ y < 10 ∧ y < n) ∨ (i = 5 ∧ 0 ≤ y ∧ y < 25) ∨ (i = 6 ∧ 0 ≤ y ∧ y < 2)
def ndom (i y : Int) : Prop := (i = 1 ∧ 0 ≤ y ∧ y < 5) ∨ (i = 2 ∧ 0 ≤ y ∧ y < 10) ∨ (i = 3 ∧ 0 ≤ y ∧ y < 5)
noncomputable def zif (c : Prop) (a b : Int) : Int := @ite _ c (Classical.propDecidable c) a b
theorem zif_t {c : Prop} {a b : Int} (h : c) : zif c a b = a := by unfold zif; rw [if_pos h]
theorem zif_f {c : Prop} {a b : Int} (h : ¬ c) : zif c a b = b := by unfold zif; rw [if_neg h]
/-- the view of a state at a, of a land at a, of the names at a -/
noncomputable def zvS (M : zM) (a : Int) : zM := fun i y => zif (sdom i y) (M (a + i) y) 0
noncomputable def zvG (M : zM) (a : Int) : zM := fun i y => zif (gdom (M a 7) i y) (M (a + i) y) 0
noncomputable def zvN (M : zM) (a : Int) : zM := fun i y => zif (ndom i y) (M (a + i) y) 0
theorem zvS_0 {M : zM} {a y : Int} (h : 8 ≤ y) (h2 : y ≤ 10) : zvS M a 0 y = M a y := by
  unfold zvS; rw [zif_t (by first | (unfold sdom; omega) | (unfold gdom; omega)), Int.add_zero]
theorem zvS_1 {M : zM} {a y : Int} (h : 0 ≤ y) (h2 : y < 10) : zvS M a 1 y = M (a + 1) y := by
  unfold zvS; rw [zif_t (by unfold sdom; omega)]
theorem zvS_2 {M : zM} {a y : Int} (h : 0 ≤ y) (h2 : y < 10) : zvS M a 2 y = M (a + 2) y := by
  unfold zvS; rw [zif_t (by unfold sdom; omega)]
theorem zvS_3 {M : zM} {a y : Int} (h : 0 ≤ y) (h2 : y < 5) : zvS M a 3 y = M (a + 3) y := by
  unfold zvS; rw [zif_t (by unfold sdom; omega)]
theorem zvS_4 {M : zM} {a y : Int} (h : 0 ≤ y) (h2 : y < 5) : zvS M a 4 y = M (a + 4) y := by
  unfold zvS; rw [zif_t (by unfold sdom; omega)]
theorem zvS_5 {M : zM} {a y : Int} (h : 0 ≤ y) (h2 : y < 5) : zvS M a 5 y = M (a + 5) y := by
  unfold zvS; rw [zif_t (by unfold sdom; omega)]
theorem zvS_6 {M : zM} {a y : Int} (h : 0 ≤ y) (h2 : y < 5) : zvS M a 6 y = M (a + 6) y := by
  unfold zvS; rw [zif_t (by unfold sdom; omega)]
theorem zvS_7 {M : zM} {a y : Int} (h : 0 ≤ y) (h2 : y < 5) : zvS M a 7 y = M (a + 7) y := by
  unfold zvS; rw [zif_t (by unfold sdom; omega)]
theorem zvS_8 {M : zM} {a y : Int} (h : 0 ≤ y) (h2 : y < 2) : zvS M a 8 y = M (a + 8) y := by
  unfold zvS; rw [zif_t (by unfold sdom; omega)]
theorem zvG_0 {M : zM} {a y : Int} (h : 6 ≤ y) (h2 : y ≤ 11) : zvG M a 0 y = M a y := by
  unfold zvG; rw [zif_t (by first | (unfold sdom; omega) | (unfold gdom; omega)), Int.add_zero]
theorem zvG_4 {M : zM} {a y : Int} (h : 0 ≤ y) (h2 : y < 10) (h3 : y < M a 7) : zvG M a 4 y = M (a + 4) y := by
  unfold zvG; rw [zif_t (by unfold gdom; omega)]
theorem zvG_5 {M : zM} {a y : Int} (h : 0 ≤ y) (h2 : y < 25) : zvG M a 5 y = M (a + 5) y := by
  unfold zvG; rw [zif_t (by unfold gdom; omega)]
theorem zvG_6 {M : zM} {a y : Int} (h : 0 ≤ y) (h2 : y < 2) : zvG M a 6 y = M (a + 6) y := by
  unfold zvG; rw [zif_t (by unfold gdom; omega)]
/-- a store inside the view -/
theorem zvS_in {M : zM} {a i j v : Int} (ha : 0 ≤ a) (h : sdom i j) : zvS (zup M (a + i) j v) a = zup (zvS M a) i j v := by
  have hi : 0 ≤ i := by unfold sdom at h; omega
  funext x y
  unfold zvS zup
  by_cases hx : x = i ∧ y = j
  · obtain ⟨rfl, rfl⟩ := hx
    rw [zif_t h, if_pos ⟨rfl, rfl, by omega⟩, if_pos ⟨rfl, rfl, by omega⟩]
  · have h1 : ¬ (a + x = a + i ∧ y = j ∧ a + x ≠ -1) := fun z => hx ⟨by omega, z.2.1⟩
    have h2 : ¬ (x = i ∧ y = j ∧ x ≠ -1) := fun z => hx ⟨z.1, z.2.1⟩
    rw [if_neg h1, if_neg h2]
theorem zvS_in0 {M : zM} {a j v : Int} (ha : 0 ≤ a) (h : sdom 0 j) : zvS (zup M a j v) a = zup (zvS M a) 0 j v := by
  have := zvS_in (M := M) (v := v) ha h
  rwa [Int.add_zero] at this
theorem zvS_out {M : zM} {a b j v : Int} (h : b < a ∨ a + 9 ≤ b) : zvS (zup M b j v) a = zvS M a := by
  funext x y
  unfold zvS
  by_cases hd : sdom x y
  · rw [zif_t hd, zif_t hd, zup_a]
    unfold sdom at hd; omega
  · rw [zif_f hd, zif_f hd]
theorem zvG_out {M : zM} {a b j v : Int} (h : b < a ∨ a + 7 ≤ b) : zvG (zup M b j v) a = zvG M a := by
  have e : zup M b j v a 7 = M a 7 := zup_a (by omega)
  funext x y
  unfold zvG
  rw [e]
  by_cases hd : gdom (M a 7) x y
  · rw [zif_t hd, zif_t hd, zup_a]
    unfold gdom at hd; omega
  · rw [zif_f hd, zif_f hd]
theorem zvN_out {M : zM} {a b j v : Int} (h : b < a ∨ a + 7 ≤ b) : zvN (zup M b j v) a = zvN M a := by
  funext x y
  unfold zvN
  by_cases hd : ndom x y
  · rw [zif_t hd, zif_t hd, zup_a]
    unfold ndom at hd; omega
  · rw [zif_f hd, zif_f hd]
def zany (p : Int → Bool) : Nat → Int → Bool
  | 0, _ => false
  | n + 1, h => if p h = true then true else zany p n (h + 1)
def sNoise (sil ch wea sand irons h : Int) : Int :=
  if zbit sil h ≠ 0 then 0 else
  let v := if zbit ch h ≠ 0 then z32 (irons * 2) else irons
  let v := if wea = 1 then z32 (Int.tdiv v 2) else v
  if 0 < z32 (v - sand) then z32 (v - sand) else 0
def sHn (S G : zM) (h w more : Int) : Int := sNoise (S 0 8) (G 0 9) (S 0 9) (S 8 w) (z32 (S 1 h + more)) h
def sSum (S G : zM) (g w : Int) : Int := zit (fun h v => if zbit g h ≠ 0 then z32 (v + sHn S G h w 0) else v) (G 0 7).toNat 0 0
def sWay (S G : zM) (g w : Int) : Int := if 0 < sSum S G g w then z32 (sSum S G g w + G 6 w) else 0
def sCar (S G : zM) (l r : Int) : Bool := decide (sWay S G r 1 < sWay S G l 0)
def sWould (S G : zM) (q : Int) : Bool := sCar S G (S 3 q) (S 4 q)
def sThose (S G : zM) (how : Int) : Int := zit (fun q v => if S 5 q = how then zor v (zshl 1 q) else v) (G 0 8).toNat 0 0
def sPut (S G : zM) : Bool := zany (fun q => decide (S 5 q ≠ 0) && decide (S 6 q = S 0 10)) (G 0 8).toNat 0
def sWant (S : zM) (h q : Int) : Int := if zbit (S 3 q) h ≠ 0 then 0 else if zbit (S 4 q) h ≠ 0 then 1 else -2
/-- acts -/
def tBuy (S G : zM) (h n : Int) : zM := zup (zup S 2 h (z32 (S 2 h - z32 (n * G 0 10)))) 1 h (z32 (S 1 h + n))
def sWhyBuy (S G : zM) (h n : Int) : Int := if S 2 h < z32 (n * G 0 10) then 1 else if 20 < z32 (S 1 h + n) then 2 else 0
def sMin (a b : Int) : Int := if b < a then b else a
def tGrant (S G : zM) (q : Int) : zM := zit (fun h T => zup T 1 h (sMin 20 (z32 (T 1 h + G 5 (q * 5 + G 4 h))))) (G 0 7).toNat 0 S
def sAbs (x : Int) : Int := if 0 ≤ x then x else z32 (0 - x)
def sAhead (S G : zM) (q : Int) : Int := z32 (sWay S G (S 3 q) 0 - sWay S G (S 4 q) 1)
def tPut0 (S G : zM) (q : Int) : zM := zup (zup (zup S 5 q (if 0 < sAhead S G q then 1 else 2)) 6 q (S 0 10)) 7 q (sAbs (sAhead S G q))
def tPut (S G : zM) (q : Int) : zM := if 0 < sAhead S G q then tGrant (tPut0 S G q) G q else tPut0 S G q
def sWhyPut (S G : zM) (q : Int) : Int := if S 5 q ≠ 0 then 1 else if S 0 9 = 2 then 2 else if sPut S G = true then 3 else 0
def tSway (S : zM) (h q w : Int) : zM := if w = 0 then zup (zup S 3 q (zor (S 3 q) (zshl 1 h))) 4 q (zand (S 4 q) (zxor (zshl 1 h) (-1))) else zup (zup S 3 q (zand (S 3 q) (zxor (zshl 1 h) (-1)))) 4 q (zor (S 4 q) (zshl 1 h))
def sWhySway (S : zM) (h q w : Int) : Int := if S 5 q ≠ 0 then 1 else if sWant S h q = w then 2 else 0
def tPay (S G : zM) : zM := zit (fun h T => if zbit (T 0 8) h ≠ 0 then T else zup T 2 h (sMin 999 (z32 (T 2 h + G 0 11)))) (G 0 7).toNat 0 S
def tDay (S G : zM) : zM := zup (zup (tPay S G) 0 9 0) 0 10 (z32 (S 0 10 + 1))
