/-! orders of open questions: lists, the next one as a dictionary has them -/
def pM (m : Int) : Int := zbit m 0 + zbit m 1 + zbit m 2 + zbit m 3 + zbit m 4
def clrM (m q : Int) : Int := zand m (zxor (zshl 1 q) (-1))
def lM (m : Int) : List Int := ([0, 1, 2, 3, 4] : List Int).filter (fun q => decide (zbit m q ≠ 0))
def permsQ (f : Int → List (List Int)) : Nat → Int → List (List Int)
  | 0, _ => []
  | j + 1, q => f q ++ permsQ f j (q + 1)
def permsM : Nat → Int → List (List Int)
  | 0, _ => [[]]
  | n + 1, m => permsQ (fun q => if zbit m q ≠ 0 then (permsM n (clrM m q)).map (fun p => q :: p) else []) 5 0
def nxI (R : Int → Int) : Nat → Int → Int
  | 0, i => i
  | f + 1, i => if i < 0 then i else if R (i + 1) < R i then nxI R f (i - 1) else i
def nxJ (R : Int → Int) (i : Int) : Nat → Int → Int
  | 0, j => j
  | f + 1, j => if j ≤ i then j else if R j < R i then nxJ R i f (j - 1) else j
def swpR (R : Int → Int) (i j : Int) : Int → Int := fun x => if x = j then R i else if x = i then R j else R x
def revR : Nat → Int → Int → (Int → Int) → (Int → Int)
  | 0, _, _, R => R
  | f + 1, lo, hi, R => if lo < hi then revR f (lo + 1) (hi - 1) (swpR R lo hi) else R
def nxtR (R : Int → Int) (n : Int) : Option (Int → Int) := if nxI R 5 (n - 2) < 0 then none else some (revR 3 (nxI R 5 (n - 2) + 1) (n - 1) (swpR R (nxI R 5 (n - 2)) (nxJ R (nxI R 5 (n - 2)) 5 (n - 1))))
def zIs (R : Int → Int) (p : List Int) : Prop := ∀ i : Int, 0 ≤ i → i < p.length → R i = p.getD i.toNat 0
def ofL (p : List Int) : Int → Int := fun i => p.getD i.toNat 0
def toL (R : Int → Int) (n : Nat) : List Int := (List.range n).map (fun (i : Nat) => R (i : Int))
def nxtL (p : List Int) : Option (List Int) := (nxtR (ofL p) p.length).map (fun R => toL R p.length)
theorem nxI_bd {R : Int → Int} : ∀ (f : Nat) (i : Int), nxI R f i ≤ i ∧ (-1 ≤ i → -1 ≤ nxI R f i)
  | 0, i => by unfold nxI; omega
  | f + 1, i => by
    have := nxI_bd (R := R) f (i - 1)
    unfold nxI
    split
    · omega
    · split <;> omega
theorem nxJ_bd {R : Int → Int} {i : Int} : ∀ (f : Nat) (j : Int), nxJ R i f j ≤ j ∧ (i ≤ j → i ≤ nxJ R i f j)
  | 0, j => by unfold nxJ; omega
  | f + 1, j => by
    have := nxJ_bd (R := R) (i := i) f (j - 1)
    unfold nxJ
    split
    · omega
    · split <;> omega
theorem nxI_eq {R R' : Int → Int} {n : Int} (h : ∀ i, 0 ≤ i → i < n → R i = R' i) : ∀ (f : Nat) (i : Int), i + 1 < n → nxI R f i = nxI R' f i
  | 0, i, _ => rfl
  | f + 1, i, hi => by
    unfold nxI
    by_cases c : i < 0
    · rw [if_pos c, if_pos c]
    · rw [if_neg c, if_neg c, h i (by omega) (by omega), h (i + 1) (by omega) (by omega), nxI_eq h f (i - 1) (by omega)]
theorem nxJ_eq {R R' : Int → Int} {n i : Int} (h : ∀ i, 0 ≤ i → i < n → R i = R' i) (i0 : 0 ≤ i) (i1 : i < n) : ∀ (f : Nat) (j : Int), j < n → nxJ R i f j = nxJ R' i f j
  | 0, j, _ => rfl
  | f + 1, j, hj => by
    unfold nxJ
    by_cases c : j ≤ i
    · rw [if_pos c, if_pos c]
    · rw [if_neg c, if_neg c, h i i0 i1, h j (by omega) hj, nxJ_eq h i0 i1 f (j - 1) (by omega)]
theorem swpR_eq {R R' : Int → Int} {n i j : Int} (h : ∀ i, 0 ≤ i → i < n → R i = R' i) (i0 : 0 ≤ i) (i1 : i < n) (j0 : 0 ≤ j) (j1 : j < n) : ∀ x, 0 ≤ x → x < n → swpR R i j x = swpR R' i j x := by
  intro x x0 x1
  unfold swpR
  rw [h i i0 i1, h j j0 j1, h x x0 x1]
theorem revR_eq {n : Int} : ∀ (f : Nat) (lo hi : Int) (R R' : Int → Int), (∀ i, 0 ≤ i → i < n → R i = R' i) → 0 ≤ lo → hi < n → ∀ x, 0 ≤ x → x < n → revR f lo hi R x = revR f lo hi R' x
  | 0, lo, hi, R, R', h, _, _, x, x0, x1 => h x x0 x1
  | f + 1, lo, hi, R, R', h, l0, h1, x, x0, x1 => by
    unfold revR
    by_cases c : lo < hi
    · rw [if_pos c, if_pos c]
      exact revR_eq f (lo + 1) (hi - 1) _ _ (swpR_eq h l0 (by omega) (by omega) h1) (by omega) (by omega) x x0 x1
    · rw [if_neg c, if_neg c]
      exact h x x0 x1
theorem ofL_is (p : List Int) : zIs (ofL p) p := fun _ _ _ => rfl
theorem toL_is {R : Int → Int} {n : Nat} : zIs R (toL R n) := by
  intro i i0 i1
  unfold toL at i1 ⊢
  rw [List.length_map, List.length_range] at i1
  rw [List.getD_eq_getElem?_getD, List.getElem?_map, List.getElem?_range (by omega)]
  show R i = R ((i.toNat : Nat) : Int)
  rw [Int.toNat_of_nonneg i0]
/-- the row's next order is the list's next order -/
theorem nxtR_L {R : Int → Int} {p : List Int} (h : zIs R p) : (nxtL p = none → nxtR R p.length = none) ∧ ∀ p', nxtL p = some p' → p'.length = p.length ∧ ∃ R', nxtR R p.length = some R' ∧ zIs R' p' := by
  have h' : ∀ i : Int, 0 ≤ i → i < (p.length : Int) → R i = ofL p i := fun i i0 i1 => h i i0 i1
  have e1 := nxI_eq h' 5 ((p.length : Int) - 2) (by omega)
  unfold nxtL nxtR
  rw [e1]
  have b1 := nxI_bd (R := ofL p) 5 ((p.length : Int) - 2)
  generalize nxI (ofL p) 5 ((p.length : Int) - 2) = i at b1 ⊢
  by_cases c : i < 0
  · rw [if_pos c, if_pos c]
    exact ⟨fun _ => rfl, fun p' hp => by cases hp⟩
  · rw [if_neg c, if_neg c]
    refine ⟨fun hp => (by cases hp), fun p' hp => ?_⟩
    have e2 := nxJ_eq (i := i) h' (by omega) (by omega) 5 ((p.length : Int) - 1) (by omega)
    rw [e2]
    have b2 := nxJ_bd (R := ofL p) (i := i) 5 ((p.length : Int) - 1)
    generalize nxJ (ofL p) i 5 ((p.length : Int) - 1) = j at b2 hp ⊢
    have e3 := revR_eq (n := (p.length : Int)) 3 (i + 1) ((p.length : Int) - 1) _ _ (swpR_eq (i := i) (j := j) h' (by omega) (by omega) (by omega) (by omega)) (by omega) (by omega)
    have hp2 : toL (revR 3 (i + 1) ((p.length : Int) - 1) (swpR (ofL p) i j)) p.length = p' := by
      have := Option.some.inj hp
      exact this
    have hlen : p'.length = p.length := by
      rw [← hp2]
      unfold toL
      rw [List.length_map, List.length_range]
    refine ⟨hlen, _, rfl, fun x x0 x1 => ?_⟩
    rw [e3 x x0 (by omega)]
    have := toL_is (R := revR 3 (i + 1) ((p.length : Int) - 1) (swpR (ofL p) i j)) (n := p.length) x x0 (by rw [hp2]; exact x1)
    rw [hp2] at this
    exact this
/-- all the orders of an open set, one the next of the other -/
def chainL (n : Nat) : List (List Int) → Bool
  | [] => false
  | [p] => decide (p.length = n) && decide (nxtL p = none) && p.all (fun q => decide (0 ≤ q) && decide (q < 5))
  | p :: p' :: l => decide (p.length = n) && decide (nxtL p = some p') && p.all (fun q => decide (0 ≤ q) && decide (q < 5)) && chainL n (p' :: l)
def chkM (m : Int) : Bool := chainL (pM m).toNat (permsM (pM m).toNat m) && decide ((permsM (pM m).toNat m).length ≤ 120) && decide ((permsM (pM m).toNat m).head? = some (lM m)) && decide (0 ≤ pM m) && decide (pM m ≤ 5) && decide (kB 10 m = pM m) && decide ((lM m).length = (pM m).toNat) && (decide (pM m ≠ 0) || decide (m = 0)) && (decide (pM m = 0) || decide (m ≠ 0))
theorem chkM_all : ((List.range 32).all fun m => chkM m) = true := by decide +kernel
theorem chkM_t {m : Int} (m0 : 0 ≤ m) (m1 : m < 32) : chkM m = true := by
  have := chkM_all
  rw [List.all_eq_true] at this
  have := this m.toNat (List.mem_range.mpr (by omega))
  rwa [Int.toNat_of_nonneg m0] at this
def bitM (m q : Int) : Bool := decide (0 ≤ clrM m q) && decide (clrM m q < 32) && (decide (zbit m q = 0) || decide (pM (clrM m q) = pM m - 1)) && (([0, 1, 2, 3, 4] : List Int).all fun r => decide (zbit (clrM m q) r = 0) || decide (zbit m r ≠ 0))
theorem bitM_all : ((List.range 32).all fun m => (List.range 5).all fun q => bitM m q) = true := by decide +kernel
theorem bitM_t {m q : Int} (m0 : 0 ≤ m) (m1 : m < 32) (q0 : 0 ≤ q) (q1 : q < 5) : (0 ≤ clrM m q ∧ clrM m q < 32) ∧ (zbit m q ≠ 0 → pM (clrM m q) = pM m - 1) ∧ ∀ r, 0 ≤ r → r < 5 → zbit (clrM m q) r ≠ 0 → zbit m r ≠ 0 := by
  have := bitM_all
  rw [List.all_eq_true] at this
  have := this m.toNat (List.mem_range.mpr (by omega))
  rw [List.all_eq_true] at this
  have := this q.toNat (List.mem_range.mpr (by omega))
  rw [Int.toNat_of_nonneg m0, Int.toNat_of_nonneg q0] at this
  unfold bitM at this
  simp only [Bool.and_eq_true, Bool.or_eq_true, decide_eq_true_eq, List.all_eq_true] at this
  obtain ⟨⟨⟨h1, h2⟩, h3⟩, h4⟩ := this
  refine ⟨⟨h1, h2⟩, fun h => h3.resolve_left h, fun r r0 r1 hr => ?_⟩
  have := h4 r (by
    rcases (show r = 0 ∨ r = 1 ∨ r = 2 ∨ r = 3 ∨ r = 4 by omega) with rfl | rfl | rfl | rfl | rfl <;> simp)
  exact this.resolve_left hr
def addM (m q : Int) : Bool := decide ((2 : Int) ^ q.toNat ≤ m) || (decide (0 ≤ zor m (zshl 1 q)) && decide (zor m (zshl 1 q) < 2 ^ (q.toNat + 1)) && decide (lM (zor m (zshl 1 q)) = lM m ++ [q]) && decide (pM (zor m (zshl 1 q)) = pM m + 1) && decide (pM m ≤ q) && decide ((lM m).length = (pM m).toNat))
theorem addM_all : ((List.range 32).all fun m => (List.range 5).all fun q => addM m q) = true := by decide +kernel
theorem addM_t {m q : Int} (m0 : 0 ≤ m) (m1 : m < 2 ^ q.toNat) (q0 : 0 ≤ q) (q1 : q < 5) : (0 ≤ zor m (zshl 1 q) ∧ zor m (zshl 1 q) < 2 ^ (q.toNat + 1)) ∧ lM (zor m (zshl 1 q)) = lM m ++ [q] ∧ pM (zor m (zshl 1 q)) = pM m + 1 ∧ pM m ≤ q ∧ (lM m).length = (pM m).toNat := by
  have hm : m < 32 := by
    rcases (show q = 0 ∨ q = 1 ∨ q = 2 ∨ q = 3 ∨ q = 4 by omega) with rfl | rfl | rfl | rfl | rfl <;> simp at m1 <;> omega
  have := addM_all
  rw [List.all_eq_true] at this
  have := this m.toNat (List.mem_range.mpr (by omega))
  rw [List.all_eq_true] at this
  have := this q.toNat (List.mem_range.mpr (by omega))
  rw [Int.toNat_of_nonneg m0, Int.toNat_of_nonneg q0] at this
  unfold addM at this
  simp only [Bool.and_eq_true, Bool.or_eq_true, decide_eq_true_eq] at this
  rcases this with h | ⟨⟨⟨⟨⟨h1, h2⟩, h3⟩, h4⟩, h5⟩, h6⟩
  · omega
  · exact ⟨⟨h1, h2⟩, h3, h4, h5, h6⟩
theorem permsQ_nil {f : Int → List (List Int)} : ∀ (j : Nat) (q : Int), (∀ r, q ≤ r → r < q + j → f r = []) → permsQ f j q = []
  | 0, _, _ => rfl
  | j + 1, q, h => by
    unfold permsQ
    rw [h q (Int.le_refl _) (by omega), permsQ_nil j (q + 1) (fun r h1 h2 => h r (by omega) (by omega))]
    rfl
/-! how many an order carries -/
def sVal (G : zM) : zM → List Int → Int
  | _, [] => 0
  | S, q :: p => if sWould S G q = true then 1 + sVal G (tGrant S G q) p else sVal G S p
theorem sVal_bd {G : zM} : ∀ (p : List Int) (S : zM), 0 ≤ sVal G S p ∧ sVal G S p ≤ p.length
  | [], S => by unfold sVal; simp
  | q :: p, S => by
    have h1 := sVal_bd (G := G) p (tGrant S G q)
    have h2 := sVal_bd (G := G) p S
    unfold sVal
    rw [List.length_cons]
    split <;> omega
def updB (b : Int × List Int) (v : Int) (p : List Int) : Int × List Int := if b.1 < v then (v, p) else b
def bestL (G S : zM) (c : Int) (P : List Int) (b : Int × List Int) (ps : List (List Int)) : Int × List Int := ps.foldl (fun b p => updB b (c + sVal G S p) (P ++ p)) b
