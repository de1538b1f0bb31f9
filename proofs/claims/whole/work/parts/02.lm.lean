/-! A small machine over Int: what a method's code does to a memory of numbers. Values: (tag, value, length). -/
abbrev zV : Type := Int × Int × Int
abbrev zM : Type := Int → Int → Int
abbrev zO : Type := Option (zV × zM)
abbrev zE : Type := Nat × Nat × Nat × List Int
abbrev zC : Type := Nat × List zV × List zV × zM
/-- the place (-1, ..) is the machine's own count: no store changes it -/
def zup (M : zM) (a j v : Int) : zM := fun x y => if x = a ∧ y = j ∧ x ≠ -1 then v else M x y
def z32 (x : Int) : Int := Int.bmod x 4294967296
def z64 (x : Int) : Int := Int.bmod x 18446744073709551616
def zb (x : Int) : Int32 := Int32.ofInt x
def zl (x : Int) : Int64 := Int64.ofInt x
def zand (a b : Int) : Int := (zb a &&& zb b).toInt
def zor (a b : Int) : Int := (zb a ||| zb b).toInt
def zxor (a b : Int) : Int := (zb a ^^^ zb b).toInt
def zshl (a b : Int) : Int := (zb a <<< (zb b &&& 31)).toInt
def zshr (a b : Int) : Int := (zb a >>> (zb b &&& 31)).toInt
def zush (a b : Int) : Int := (((zb a).toUInt32 >>> ((zb b).toUInt32 &&& Int32.toUInt32 31)).toInt32).toInt
def zlan (a b : Int) : Int := (zl a &&& zl b).toInt
def zlor (a b : Int) : Int := (zl a ||| zl b).toInt
def zlsl (a b : Int) : Int := (zl a <<< ((zb b).toInt64 &&& 63)).toInt
def zlus (a b : Int) : Int := (((zl a).toUInt64 >>> ((zb b).toInt64.toUInt64 &&& Int64.toUInt64 63)).toInt64).toInt
def zb8 (x : Int) : Int := Int.bmod x 256
def zc16 (x : Int) : Int := (((zb x).toUInt32 % 65536).toInt32).toInt
def zrem (a b : Int) : Int := z32 (a - z32 (z32 (Int.tdiv a b) * b))
def zlrem (a b : Int) : Int := z64 (a - z64 (z64 (Int.tdiv a b) * b))
def zcmp (a b : Int) : Int := if b < a then 1 else if a = b then 0 else -1
def znth : List zV → Nat → zV
  | [], _ => (3, 0, 0)
  | a :: _, 0 => a
  | _ :: l, k + 1 => znth l k
def zset : List zV → Nat → zV → List zV
  | [], _, _ => []
  | _ :: l, 0, v => v :: l
  | a :: l, k + 1, v => a :: zset l k v
/-- a store of one word at k: not into the second half of a long -/
def zok : List zV → Nat → Bool
  | [], _ => false
  | _ :: _, 0 => true
  | v :: l, k + 1 => if k = 0 then decide (v.1 ≠ 1) && !l.isEmpty else zok l k
def ztsw (dflt : Nat) (lo : Int) (ts : List Int) (x : Int) : Nat := if lo ≤ x then ((ts[(x - lo).toNat]?).map Int.toNat).getD dflt else dflt
def zlsw (dflt : Nat) : List Int → Int → Nat
  | k :: t :: l, x => if x = k then t.toNat else zlsw dflt l x
  | _, _ => dflt
/-- a copy of n elements from place sp of a on to place dp of b on -/
def zcpy (M : zM) (a sp b dp n : Int) : zM := fun x y => if x = b ∧ dp ≤ y ∧ y < dp + n ∧ x ≠ -1 then M a (sp + (y - dp)) else M x y
/-! constants, loads, stores -/
def zF0_il (k : Nat) (L st : List zV) : Option (List zV × List zV) := match znth L k with
  | (0, x, _) => some (L, (0, x, 0) :: st)
  | _ => none
def zF0_ll (k : Nat) (L st : List zV) : Option (List zV × List zV) := match znth L k with
  | (1, x, _) => some (L, (1, x, 0) :: st)
  | _ => none
def zF0_al (k : Nat) (L st : List zV) : Option (List zV × List zV) := match znth L k with
  | (t, x, n) => if 4 ≤ t then some (L, (t, x, n) :: st) else none
def zF0_is (k : Nat) (L st : List zV) : Option (List zV × List zV) := match st with
  | (0, x, _) :: s => if zok L k = true then some (zset L k (0, x, 0), s) else none
  | _ => none
def zF0_ls (k : Nat) (L st : List zV) : Option (List zV × List zV) := match st with
  | (1, x, _) :: s => if zok L k = true ∧ k + 1 < L.length then some (zset (zset L k (1, x, 0)) (k + 1) (3, 0, 0), s) else none
  | _ => none
def zF0_as (k : Nat) (L st : List zV) : Option (List zV × List zV) := match st with
  | (t, x, n) :: s => if 4 ≤ t ∧ zok L k = true then some (zset L k (t, x, n), s) else none
  | _ => none
def zF0_inc (k : Nat) (c : Int) (L st : List zV) : Option (List zV × List zV) := match znth L k with
  | (0, x, _) => if zok L k = true then some (zset L k (0, z32 (x + c), 0), st) else none
  | _ => none
def zr0 (r : List Int) : Int := r.headD 0
def zr1 (r : List Int) : Int := r.tail.headD 0
def zr2 (r : List Int) : Int := r.tail.tail.headD 0
def zr3 (r : List Int) : Int := r.tail.tail.tail.headD 0
def zr4 (r : List Int) : Int := r.tail.tail.tail.tail.headD 0
def zF0 (op : Nat) (r : List Int) (L st : List zV) : Option (List zV × List zV) :=
  if op = 0 then some (L, (0, zr0 r, 0) :: st)
  else if op = 1 then some (L, (1, zr0 r, 0) :: st)
  else if op = 2 then zF0_il (zr0 r).toNat L st
  else if op = 3 then zF0_ll (zr0 r).toNat L st
  else if op = 4 then zF0_al (zr0 r).toNat L st
  else if op = 5 then zF0_is (zr0 r).toNat L st
  else if op = 6 then zF0_ls (zr0 r).toNat L st
  else if op = 7 then zF0_as (zr0 r).toNat L st
  else zF0_inc (zr0 r).toNat (zr1 r) L st
/-! arithmetic -/
def zi2 (op : Nat) (a b : Int) : Int :=
  match op with
  | 0 => z32 (a + b)
  | 1 => z32 (a - b)
  | 2 => z32 (a * b)
  | 3 => z32 (Int.tdiv a b)
  | 4 => zrem a b
  | 6 => zand a b
  | 7 => zor a b
  | 8 => zxor a b
  | 9 => zshl a b
  | 10 => zshr a b
  | _ => zush a b
def zl2 (op : Nat) (a b : Int) : Int :=
  match op with
  | 0 => z64 (a + b)
  | 1 => z64 (a - b)
  | 2 => z64 (a * b)
  | 3 => z64 (Int.tdiv a b)
  | 4 => zlrem a b
  | 10 => zlan a b
  | _ => zlor a b
def zF1_2 (op : Nat) (st : List zV) : Option (List zV) := match st with
  | (0, b, _) :: (0, a, _) :: s => if (op = 13 ∨ op = 14) ∧ b = 0 then none else some ((0, zi2 (op - 10) a b, 0) :: s)
  | _ => none
def zF1_n (st : List zV) : Option (List zV) := match st with
  | (0, a, _) :: s => some ((0, z32 (-a), 0) :: s)
  | _ => none
def zF1_l (op : Nat) (st : List zV) : Option (List zV) := match st with
  | (1, b, _) :: (1, a, _) :: s => if (op = 25 ∨ op = 26) ∧ b = 0 then none else some ((1, zl2 (op - 22) a b, 0) :: s)
  | _ => none
def zF1_cmp (st : List zV) : Option (List zV) := match st with
  | (1, b, _) :: (1, a, _) :: s => some ((0, zcmp a b, 0) :: s)
  | _ => none
def zF1_c (op : Nat) (st : List zV) : Option (List zV) := match st with
  | (0, a, _) :: s => some (if op = 28 then (1, a, 0) :: s else if op = 30 then (0, zc16 a, 0) :: s else (0, zb8 a, 0) :: s)
  | _ => none
def zF1_li (st : List zV) : Option (List zV) := match st with
  | (1, a, _) :: s => some ((0, z32 a, 0) :: s)
  | _ => none
def zF1_sh (op : Nat) (st : List zV) : Option (List zV) := match st with
  | (0, b, _) :: (1, a, _) :: s => some ((1, if op = 34 then zlsl a b else zlus a b, 0) :: s)
  | _ => none
def zF1_d (op : Nat) (st : List zV) : Option (List zV) := match st with
  | v :: s => if v.1 = 1 then none else some (if op = 36 then v :: v :: s else s)
  | _ => none
def zF1_dd (op : Nat) (st : List zV) : Option (List zV) := match st with
  | v :: w :: s => if v.1 = 1 ∨ w.1 = 1 then none else some (if op = 37 then v :: w :: v :: w :: s else v :: w :: v :: s)
  | _ => none
def zF1 (op : Nat) (st : List zV) : Option (List zV) :=
  if op = 15 then zF1_n st
  else if op < 22 then zF1_2 op st
  else if op < 27 ∨ op = 32 ∨ op = 33 then zF1_l op st
  else if op = 27 then zF1_cmp st
  else if op = 29 then zF1_li st
  else if op < 32 then zF1_c op st
  else if op < 36 then zF1_sh op st
  else if op = 36 ∨ op = 38 then zF1_d op st
  else zF1_dd op st
/-! branches -/
def zcond (op : Nat) (a b : Int) : Bool :=
  match op with
  | 0 => decide (a = b)
  | 1 => decide (a ≠ b)
  | 2 => decide (a < b)
  | 3 => decide (b ≤ a)
  | 4 => decide (b < a)
  | _ => decide (a ≤ b)
def zF2_1 (op nx tg : Nat) (st : List zV) : Option (Nat × List zV) := match st with
  | (0, a, _) :: s => some (bif zcond (op - 40) a 0 then tg else nx, s)
  | _ => none
def zF2_2 (op nx tg : Nat) (st : List zV) : Option (Nat × List zV) := match st with
  | (0, b, _) :: (0, a, _) :: s => some (bif zcond (op - 46) a b then tg else nx, s)
  | _ => none
def zF2_e (op nx tg : Nat) (st : List zV) : Option (Nat × List zV) := match st with
  | (4, b, _) :: (4, a, _) :: s => some (bif zcond (op - 53) a b then tg else nx, s)
  | _ => none
def zF2_n (tg : Nat) (st : List zV) : Option (Nat × List zV) := match st with
  | v :: s => if 4 ≤ v.1 ∧ v.1 ≠ 17 then some (tg, s) else none
  | _ => none
def zF2_t (tg : Nat) (r : List Int) (st : List zV) : Option (Nat × List zV) := match st with
  | (0, a, _) :: s => some (ztsw tg (zr0 r) r.tail a, s)
  | _ => none
def zF2_l (tg : Nat) (r : List Int) (st : List zV) : Option (Nat × List zV) := match st with
  | (0, a, _) :: s => some (zlsw tg r a, s)
  | _ => none
def zF2 (op nx tg : Nat) (r : List Int) (st : List zV) : Option (Nat × List zV) :=
  if op < 46 then zF2_1 op nx tg st
  else if op < 52 then zF2_2 op nx tg st
  else if op = 52 then some (tg, st)
  else if op < 55 then zF2_e op nx tg st
  else if op = 55 then zF2_n tg st
  else if op = 56 then zF2_t tg r st
  else zF2_l tg r st
/-- a new cell of n places: the place (-1, 0) counts the cells that have a number here, (-1, 1) all cells made, (-1, 2) their places -/
def znew (M : zM) (n : Int) : zM := fun x y => if x = -1 then (if y = 0 then M (-1) 0 + 1 else if y = 1 then M (-1) 1 + 1 else if y = 2 then M (-1) 2 + n else M x y) else if x = M (-1) 0 then 0 else M x y
/-- an exception is made: a cell without a number -/
def zthr (M : zM) : zM := fun x y => if x = -1 then (if y = 1 then M (-1) 1 + 1 else if y = 2 then M (-1) 2 + 6 else M x y) else M x y
/-! the numbers that stand from the start: the words' keys by place, the switch map, the digits, the texts -/
def zkey (e : Int) : Int := ([0, 0, 659100852, 263620, 3417476, 606852490734, 24165011, 398548, 19176724, 253803155, 624068, 167183, 17376357, 754917, 87859, 21091364019, 24627571, 661709988, 17076, 12345, 4697, 23732, 637431, 4153, 498, 1476, 14836, 647370196, 486, 6642, 1309981300, 10042835, 113966, 492210354] : List Int).getD (e - 1).toNat 0
def zswl : List Int := [0, 0, 1, 2, 12, 3, 4, 0, 0, 5, 6, 7, 8, 9, 25, 26, 27, 0, 19, 20, 21, 22, 23, 24, 0, 0, 10, 11, 13, 14, 15, 16, 17, 18]
def zstr : List (List Int) := [[110, 111, 32, 115, 117, 99, 104, 32, 104, 97, 110, 100], [110, 111, 116, 104, 105, 110, 103, 32, 115, 117, 99, 104, 32, 111, 102, 32, 97, 32, 104, 97, 110, 100], [110, 111, 32, 115, 117, 99, 104, 32, 113, 117, 101, 115, 116, 105, 111, 110], [110, 111, 116, 104, 105, 110, 103, 32, 115, 117, 99, 104, 32, 111, 102, 32, 97, 32, 113, 117, 101, 115, 116, 105, 111, 110], [32, 105, 115, 32, 111, 112, 101, 110], [32, 99, 97, 114, 114, 105, 101, 100, 32, 98, 121, 32], [32, 108, 111, 115, 116, 32, 98, 121, 32], [59, 60, 61, 62, 40, 41, 46]]
/-- an element of a row that nobody writes: tag 5 the switch map, 7 digits (0 ones, 1 tens), 9 a text's bytes -/
def zsta (t k i : Int) : Int := if t = 5 then zswl.getD i.toNat 0 else if t = 7 then (if k = 0 then 48 + i % 10 else 48 + i / 10) else (zstr.getD k.toNat []).getD i.toNat 0
/-- the same out of a text's bytes -/
def zcpyS (M : zM) (a sp b dp n : Int) : zM := fun x y => if x = b ∧ dp ≤ y ∧ y < dp + n ∧ x ≠ -1 then zsta 9 a (sp + (y - dp)) else M x y
/-! fields; a place whose object never changes is 'this + off' -/
def zF3_g (ph : Bool) (op : Nat) (r : List Int) (st : List zV) (M : zM) : Option (List zV × zM) := match st with
  | (t, a, _) :: s => if t = zr0 r then
      (if op = 60 then some ((0, M a (zr1 r), 0) :: s, M)
      else if op = 61 then some ((1, M a (zr1 r), 0) :: s, M)
      else if op = 62 then (if ph = true ∨ M a (zr1 r) = 1 then some ((zr3 r, a + zr2 r, zr4 r) :: s, M) else none)
      else if op = 63 then (if 0 < M a (zr1 r) then some ((4, M a (zr1 r), 0) :: s, M) else none)
      else (if 0 < M a (zr1 r) then some ((zr2 r, M a (zr1 r), M a (1000 + zr1 r)) :: s, M) else none)) else none
  | _ => none
def zin2 (r : List Int) (x : Int) : Bool := match r with
  | [_, _, lo, hi] => decide (lo ≤ x) && decide (x ≤ hi)
  | _ => true
def zF3_p (ph : Bool) (op : Nat) (r : List Int) (st : List zV) (M : zM) : Option (List zV × zM) := match st with
  | (u, v, k) :: (t, a, _) :: s => if t = zr0 r then
      (if op = 65 then (if u = 0 ∧ zin2 r v = true then some (s, zup M a (zr1 r) v) else none)
      else if op = 66 then (if u = 1 then some (s, zup M a (zr1 r) v) else none)
      else if op = 67 then (if ph = false ∧ u = zr3 r ∧ v = a + zr2 r ∧ k = zr4 r then some (s, zup M a (zr1 r) 1) else none)
      else if op = 68 then (if u = 4 then some (s, zup M a (zr1 r) v) else none)
      else (if u = zr2 r ∧ 0 < v then some (s, zup (zup M a (zr1 r) v) a (1000 + zr1 r) k) else none)) else none
  | _ => none
def zF3_s (op : Nat) (st : List zV) : Option (List zV) := match st with
  | (t, k, n) :: s => if op = 98 then (if t = 8 then some ((9, k, n) :: s) else none)
      else if op = 99 then (if t = 8 then some ((0, 0, 0) :: s) else none)
      else (if t = 4 then some ((1, zkey k, 0) :: s) else none)
  | _ => none
def zF3 (ph : Bool) (op : Nat) (r : List Int) (st : List zV) (M : zM) : Option (List zV × zM) :=
  if op < 65 then zF3_g ph op r st M
  else if op < 70 then zF3_p ph op r st M
  else (zF3_s op st).map fun q => (q, M)
/-! rows -/
def zF4_n (st : List zV) : Option (List zV) := match st with
  | (t, _, n) :: s => if 5 ≤ t ∧ t < 20 ∧ t ≠ 8 ∧ t ≠ 17 then some ((0, n, 0) :: s) else none
  | _ => none
def zF4_l (op : Nat) (st : List zV) (M : zM) : Option (List zV) := match st with
  | (0, i, _) :: (t, a, n) :: s => if 0 ≤ i ∧ i < n then
      (if op = 85 then (if t = 10 ∨ t = 16 then some ((0, M a i, 0) :: s) else if t = 5 then some ((0, zsta 5 a i, 0) :: s) else none)
      else if op = 86 then (if t = 11 then some ((1, M a i, 0) :: s) else none)
      else if op = 87 then (if t = 12 ∨ t = 13 then some ((0, M a i, 0) :: s) else if t = 7 ∨ t = 9 then some ((0, zsta t a i, 0) :: s) else none)
      else (if t = 6 then some ((4, i + 1, 0) :: s) else if (t = 14 ∨ t = 15) ∧ 0 < M a i then some ((if t = 14 then 26 else 21, M a i, 0) :: s) else none)) else none
  | _ => none
def zF4_s (op : Nat) (st : List zV) (M : zM) : Option (List zV × zM) := match st with
  | (u, v, _) :: (0, i, _) :: (t, a, n) :: s => if 0 ≤ i ∧ i < n then
      (if op = 89 then (if t = 10 ∧ u = 0 then some (s, zup M a i v) else none)
      else if op = 90 then (if t = 11 ∧ u = 1 then some (s, zup M a i v) else none)
      else if op = 91 then (if u = 0 ∧ (t = 13 ∧ -128 ≤ v ∧ v < 128 ∨ t = 12 ∧ 0 ≤ v ∧ v ≤ 1) then some (s, zup M a i v) else none)
      else (if (t = 14 ∧ u = 26 ∨ t = 15 ∧ u = 21) ∧ 0 < v then some (s, zup M a i v) else none)) else none
  | _ => none
def zF4_a (r : List Int) (st : List zV) (M : zM) : Option (List zV × zM) := match st with
  | (0, n, _) :: s => if 0 ≤ n ∧ n ≤ 4096 then some ((zr0 r, M (-1) 0, n) :: s, znew M n) else none
  | _ => none
def zF4 (ph : Bool) (op : Nat) (r : List Int) (st : List zV) (M : zM) : Option (List zV × zM) :=
  if op = 84 then (zF4_n st).map fun q => (q, M)
  else if op < 89 then (zF4_l op st M).map fun q => (q, M)
  else if op < 93 then zF4_s op st M
  else if op < 95 then zF4_a r st M
  else if ph = false ∧ 0 ≤ zr1 r then some ((zr0 r, M (-1) 0, 0) :: st, znew M (zr1 r)) else none
/-- what lies under a call: at most four values -/
def zroom : List zV → Bool
  | _ :: _ :: _ :: _ :: _ :: _ => false
  | _ => true
/-! constants that lie elsewhere -/
def zF5_o (st : List zV) : Option (List zV) := match st with
  | (4, e, _) :: s => if zroom s = true then some ((0, e - 1, 0) :: s) else none
  | _ => none
def zF5 (op : Nat) (r : List Int) (st : List zV) : Option (List zV) :=
  if op = 76 then zF5_o st
  else if op = 77 then some ((4, zr0 r, 0) :: st)
  else if op = 78 then some ((5, zr0 r, zr1 r) :: st)
  else if op = 79 then some ((6, 0, zr0 r) :: st)
  else if op = 97 then some ((8, zr0 r, zr1 r) :: st)
  else if op = 102 then some ((7, zr0 r, zr1 r) :: st)
  else some ((17, 0, 0) :: st)
/-! members of the library with a law of their own -/
def zF6_m (op : Nat) (st : List zV) : Option (List zV) := match st with
  | (0, b, _) :: (0, a, _) :: s => if zroom s = true then some ((0, if op = 71 then (if a < b then b else a) else (if b < a then b else a), 0) :: s) else none
  | _ => none
def zF6_a (st : List zV) : Option (List zV) := match st with
  | (0, a, _) :: s => if zroom s = true then some ((0, if 0 ≤ a then a else z32 (0 - a), 0) :: s) else none
  | _ => none
def zF6_c (st : List zV) (M : zM) : Option (List zV × zM) := match st with
  | (0, n, _) :: (0, dp, _) :: (u, b, k) :: (0, sp, _) :: (t, a, i) :: s =>
      if zroom s = true ∧ 0 ≤ sp ∧ 0 ≤ dp ∧ 0 ≤ n ∧ sp + n ≤ i ∧ dp + n ≤ k then
        (if u = t ∧ (t = 10 ∨ t = 11 ∨ t = 13) ∧ a ≠ b then some (s, zcpy M a sp b dp n)
        else if t = 9 ∧ u = 13 then some (s, zcpyS M a sp b dp n)
        else none) else none
  | _ => none
def zF6_o (st : List zV) : Option (List zV) := match st with
  | v :: s => if zroom s = true ∧ 20 ≤ v.1 then some s else none
  | _ => none
def zF6 (op : Nat) (st : List zV) (M : zM) : Option (List zV × zM) :=
  if op < 73 then (zF6_m op st).map fun q => (q, M)
  else if op = 73 then (zF6_a st).map fun q => (q, M)
  else if op = 74 then zF6_c st M
  else (zF6_o st).map fun q => (q, M)
/-! one step of a method: on to a place of it, or to its end -/
abbrev zS : Type := Option (zC ⊕ (zV × zM))
def zargs : Nat → List zV → List zV → Option (List zV × List zV)
  | 0, acc, s => some (acc, s)
  | n + 1, acc, v :: s => zargs n (v :: acc) s
  | _ + 1, _, [] => none
def zin : List Int → Int → Bool
  | [lo, hi], x => decide (lo ≤ x) && decide (x ≤ hi)
  | _, _ => true
def zF7 (op : Nat) (r : List Int) (st : List zV) : Option zV :=
  if op = 80 then (match st with
    | [(0, x, _)] => if zin r x = true then some (0, x, 0) else none
    | _ => none)
  else if op = 81 then (match st with
    | [(1, x, _)] => some (1, x, 0)
    | _ => none)
  else if op = 82 then (match st with
    | [(t, x, n)] => if 4 ≤ t ∧ t < 98 then some (t, x, n) else none
    | _ => none)
  else (match st with
    | [] => some (98, 0, 0)
    | _ => none)
def zF8 (cl : Nat → List zV → zM → zO) (tg : Nat) (r : List Int) (st : List zV) (M : zM) : Option (List zV × zM) :=
  match r with
  | [n, v, t] => match zargs n.toNat [] st with
    | some (as, s) => if zroom s = true ∧ (t = -1 ∨ (as.headD (3, 0, 0)).1 = t) then (match cl tg as M with
      | some (w, M1) => if v = 0 then (if w.1 = 98 then some (s, M1) else none) else if w.1 < 98 then some (w :: s, M1) else none
      | none => none) else none
    | none => none
  | _ => none
def zstep (ph : Bool) (cl : Nat → List zV → zM → zO) (op nx tg : Nat) (r : List Int) (L st : List zV) (M : zM) : zS :=
  if op < 10 then (zF0 op r L st).map fun q => .inl (nx, q.1, q.2, M)
  else if op < 40 then (zF1 op st).map fun q => .inl (nx, L, q, M)
  else if op < 60 then (zF2 op nx tg r st).map fun q => .inl (q.1, L, q.2, M)
  else if op < 70 ∨ (98 ≤ op ∧ op < 101) then (zF3 ph op r st M).map fun q => .inl (nx, L, q.1, q.2)
  else if op = 70 then (zF8 cl tg r st M).map fun q => .inl (nx, L, q.1, q.2)
  else if op < 76 then (zF6 op st M).map fun q => .inl (nx, L, q.1, q.2)
  else if op < 80 ∨ op = 97 ∨ op = 102 ∨ op = 103 then (zF5 op r st).map fun q => .inl (nx, L, q, M)
  else if op < 84 then (zF7 op r st).map fun v => .inr (v, M)
  else if op = 96 then some (.inr ((99, 0, 0), zthr M))
  else (zF4 ph op r st M).map fun q => .inl (nx, L, q.1, q.2)
