/-! the law's own table, in chunks -/
theorem zokL_app {q : zME} : ∀ (a b : List (Option zE)) (p : Nat), zokL q p (a ++ b) = (zokL q p a && zokL q (p + a.length) b)
  | [], b, p => by simp [zokL]
  | none :: a, b, p => by
    rw [List.cons_append, zokL, zokL, zokL_app a b (p + 1), List.length_cons]
    congr 2
    omega
  | some e :: a, b, p => by
    rw [List.cons_append, zokL, zokL, zokL_app a b (p + 1), List.length_cons, Bool.and_assoc]
    congr 3
    omega
theorem zokL_ch {q : zME} {k : Nat} : ∀ (n : Nat) (l : List (Option zE)) (p : Nat), (∀ i, i < n → zokL q (p + k * i) ((l.drop (k * i)).take k) = true) → l.length ≤ k * n → zokL q p l = true
  | 0, l, p, _, h => by
    have : l = [] := List.eq_nil_of_length_eq_zero (by omega)
    subst this
    rfl
  | n + 1, l, p, hc, h => by
    rw [← List.take_append_drop k l, zokL_app, Bool.and_eq_true]
    constructor
    · have := hc 0 (by omega)
      simpa using this
    · by_cases hl : l.length ≤ k
      · rw [List.drop_eq_nil_of_le hl]; rfl
      · rw [List.length_take, Nat.min_eq_left (by omega)]
        refine zokL_ch (k := k) n (l.drop k) (p + k) (fun i hi => ?_) (by rw [List.length_drop]; rw [Nat.mul_succ] at h; omega)
        have := hc (i + 1) (by omega)
        rw [List.drop_drop]
        rwa [show p + k * (i + 1) = p + k + k * i by rw [Nat.mul_succ]; omega, show k * (i + 1) = k + k * i by rw [Nat.mul_succ]; omega] at this
def zq372 : zME := (⟨"ClogVotesLaw", "law", "([I)Z"⟩, code, 7, some .boolean, 24)
set_option maxRecDepth 20000 in
theorem zch0 : zokL zq372 0 ((zk372.drop 0).take 30) = true := by decide +kernel
set_option maxRecDepth 20000 in
theorem zch1 : zokL zq372 30 ((zk372.drop 30).take 30) = true := by decide +kernel
set_option maxRecDepth 20000 in
theorem zch2 : zokL zq372 60 ((zk372.drop 60).take 30) = true := by decide +kernel
set_option maxRecDepth 20000 in
theorem zch3 : zokL zq372 90 ((zk372.drop 90).take 30) = true := by decide +kernel
set_option maxRecDepth 20000 in
theorem zch4 : zokL zq372 120 ((zk372.drop 120).take 30) = true := by decide +kernel
set_option maxRecDepth 20000 in
theorem zch5 : zokL zq372 150 ((zk372.drop 150).take 30) = true := by decide +kernel
set_option maxRecDepth 20000 in
theorem zch6 : zokL zq372 180 ((zk372.drop 180).take 30) = true := by decide +kernel
set_option maxRecDepth 20000 in
theorem zch7 : zokL zq372 210 ((zk372.drop 210).take 30) = true := by decide +kernel
set_option maxRecDepth 20000 in
theorem zch8 : zokL zq372 240 ((zk372.drop 240).take 30) = true := by decide +kernel
set_option maxRecDepth 20000 in
theorem zch9 : zokL zq372 270 ((zk372.drop 270).take 30) = true := by decide +kernel
set_option maxRecDepth 20000 in
theorem zch10 : zokL zq372 300 ((zk372.drop 300).take 30) = true := by decide +kernel
set_option maxRecDepth 20000 in
theorem zch11 : zokL zq372 330 ((zk372.drop 330).take 30) = true := by decide +kernel
set_option maxRecDepth 20000 in
theorem zch12 : zokL zq372 360 ((zk372.drop 360).take 30) = true := by decide +kernel
