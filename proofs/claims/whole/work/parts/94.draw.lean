/-! days by draws: what is drawn -/
def dNext (sd : Int) : Int := z32 (z32 (sd * 1103515245) + 12345)
def dVal (sd n : Int) : Int := zrem (zush sd 8) n
theorem zush8_bd (s : Int) : 0 ≤ zush s 8 ∧ zush s 8 < 16777216 := by
  unfold zush
  generalize zb s = x
  have e : ((zb 8).toUInt32 &&& Int32.toUInt32 31) = 8 := by decide +kernel
  rw [e]
  have h1 : ((x.toUInt32 >>> 8).toInt32).toInt = (x.toUInt32 >>> 8).toBitVec.toInt := rfl
  have h2 : (x.toUInt32 >>> 8).toNat = x.toUInt32.toNat / 256 := by
    rw [UInt32.toNat_shiftRight]
    show x.toUInt32.toNat >>> (8 % 32) = _
    rw [Nat.shiftRight_eq_div_pow]
  have h3 : x.toUInt32.toNat < 4294967296 := x.toUInt32.toNat_lt
  have h4 : (x.toUInt32 >>> 8).toBitVec.toNat = (x.toUInt32 >>> 8).toNat := rfl
  rw [h1, BitVec.toInt_eq_toNat_of_lt (by omega)]
  omega
theorem zrem_bd {a n : Int} (a0 : 0 ≤ a) (a1 : a < 16777216) (n0 : 0 < n) (n1 : n ≤ 10) : 0 ≤ zrem a n ∧ zrem a n < n := by
  have hd : Int.tdiv a n = a / n := Int.tdiv_eq_ediv_of_nonneg a0
  have h1 : 0 ≤ a / n := Int.ediv_nonneg a0 (by omega)
  have h2 : a / n ≤ a := Int.ediv_le_self n a0
  have h3 := Int.emod_nonneg a (show n ≠ 0 by omega)
  have h4 := Int.emod_lt_of_pos a n0
  have h5 : a / n * n = a - a % n := by
    have := Int.emod_add_mul_ediv a n
    rw [Int.mul_comm]
    omega
  unfold zrem
  rw [hd, z32_id (x := a / n) (by omega) (by omega), h5, z32_id (x := a - a % n) (by omega) (by omega), z32_id (by omega) (by omega)]
  omega
theorem dVal_bd {sd n : Int} (n0 : 0 < n) (n1 : n ≤ 10) : 0 ≤ dVal sd n ∧ dVal sd n < n := by
  obtain ⟨h1, h2⟩ := zush8_bd sd
  exact zrem_bd h1 h2 n0 n1
def dHand (G : zM) (h : Int) (p : zM × Int) : zM × Int := (if dVal (dNext p.2) 10 = 0 then zup p.1 0 8 (zxor (p.1 0 8) (zshl 1 h)) else if dVal (dNext p.2) 10 = 1 then (if sWhyBuy p.1 G h 1 = 0 then tBuy p.1 G h 1 else p.1) else p.1, dNext p.2)
def dHands (G : zM) (p : zM × Int) : zM × Int := zit (dHand G) (G 0 7).toNat 0 (zup p.1 0 9 (dVal (dNext p.2) 3), dNext p.2)
def dPut (G : zM) (p : zM × Int) : zM × Int := if 0 < G 0 8 then (if sWhyPut p.1 G (dVal (dNext p.2) (G 0 8)) = 0 then tPut p.1 G (dVal (dNext p.2) (G 0 8)) else p.1, dNext p.2) else p
def dDay (G : zM) (p : zM × Int) : zM × Int := (tDay2 (dPut G (dHands G p)).1 G, (dPut G (dHands G p)).2)
/-- a state as all calls keep it -/
def okD (S G : zM) : Prop := zt S = S ∧ okT S G
set_option maxRecDepth 20000 in
theorem zxor_all : ((List.range 1024).all fun s => (List.range 10).all fun h => decide (0 ≤ zxor s (zshl 1 h)) && decide (zxor s (zshl 1 h) < 1024)) = true := by decide +kernel
theorem zxor_bd {s h : Int} (s0 : 0 ≤ s) (s1 : s < 1024) (h0 : 0 ≤ h) (h1 : h < 10) : 0 ≤ zxor s (zshl 1 h) ∧ zxor s (zshl 1 h) < 1024 := by
  obtain ⟨i, rfl⟩ := Int.eq_ofNat_of_zero_le s0
  obtain ⟨k, rfl⟩ := Int.eq_ofNat_of_zero_le h0
  have := List.all_eq_true.mp (List.all_eq_true.mp zxor_all i (List.mem_range.mpr (by omega))) k (List.mem_range.mpr (by omega))
  simp only [Bool.and_eq_true, decide_eq_true_eq] at this
  exact this
theorem okD_row {S G : zM} {i j v : Int} (h : okD S G) (hd : sdom i j) (h1 : i ≠ 1) (h2 : i ≠ 2) (hs : okS (zup S i j v)) (h3 : i ≠ 5 := by omega) (h4 : i ≠ 7 := by omega) : okD (zup S i j v) G := ⟨zt_up hd h.1, hs, okH_row h.2.2 h1 h2 h3 h4⟩
theorem okD_hand {S G : zM} {h sd : Int} (hG : okG G) (hS : okD S G) (h0 : 0 ≤ h) (h1 : h < G 0 7) : okD (dHand G h (S, sd)).1 G := by
  have g := hG.2.1
  unfold dHand
  dsimp only
  split
  · have := zxor_bd (h := h) hS.2.1.1.1 hS.2.1.1.2 h0 (by omega)
    exact okD_row hS (by unfold sdom; omega) (by omega) (by omega) (okS_u08 hS.2.1 this.1 this.2)
  · split
    · split
      · rename_i hw
        exact ⟨by unfold tBuy; exact zt_up (by unfold sdom; omega) (zt_up (by unfold sdom; omega) hS.1), okS_buy hS.2.1 hG h0 (by omega) (by omega) (by omega) hw, okH_buy hS.2.2 h1⟩
      · exact hS
    · exact hS
theorem okD_hands {S G : zM} {sd : Int} (hG : okG G) (hS : okD S G) : okD (dHands G (S, sd)).1 G := by
  have g := hG.2.1
  unfold dHands
  dsimp only
  have hv := dVal_bd (sd := dNext sd) (n := 3) (by omega) (by omega)
  refine zit_inv (fun _ (p : zM × Int) => okD p.1 G) _ _ _ (okD_row hS (by unfold sdom; omega) (by omega) (by omega) (okS_u09 hS.2.1 hv.1 (by omega))) (fun k p k0 k1 hp => okD_hand (sd := p.2) hG hp k0 (by omega))
theorem okD_put {S G : zM} {sd : Int} (hG : okG G) (hS : okD S G) : okD (dPut G (S, sd)).1 G := by
  have g := hG.2.2.1
  unfold dPut
  split
  · rename_i hq
    have hv := dVal_bd (sd := dNext sd) (n := G 0 8) hq (by omega)
    dsimp only
    split
    · exact ⟨zt_put hS.1 hv.1 (by omega) hG.2.1, okS_put hS.2.1 hG hv.1 (by omega), okH_put hS.2.2 hG.2.1.1 hS.2.1 hG⟩
    · exact hS
  · exact hS
theorem dHand_row {S G : zM} {h sd i j : Int} (h0 : i ≠ 0) (h1 : i ≠ 1) (h2 : i ≠ 2) : (dHand G h (S, sd)).1 i j = S i j := by
  unfold dHand tBuy
  dsimp only
  split
  · rw [zup_a h0]
  · split
    · split
      · rw [zup_a h1, zup_a h2]
      · rfl
    · rfl
theorem dHand_day {S G : zM} {h sd : Int} : (dHand G h (S, sd)).1 0 10 = S 0 10 := by
  unfold dHand tBuy
  dsimp only
  split
  · rw [zup_j (by omega)]
  · split
    · split
      · rw [zup_a (by omega), zup_a (by omega)]
      · rfl
    · rfl
theorem dHands_day {S G : zM} {sd : Int} : (dHands G (S, sd)).1 0 10 = S 0 10 := by
  unfold dHands
  refine zit_inv (fun _ (p : zM × Int) => p.1 0 10 = S 0 10) _ _ _ (by dsimp only; rw [zup_j (by omega)]) (fun k p k0 k1 hp => ?_)
  rw [show p = (p.1, p.2) from rfl, dHand_day]
  exact hp
theorem dHands_sPut {S G : zM} {sd : Int} : sPut (dHands G (S, sd)).1 G = sPut S G := by
  have h : ∀ i j, i ≠ 0 → i ≠ 1 → i ≠ 2 → (dHands G (S, sd)).1 i j = S i j := by
    intro i j h0 h1 h2
    unfold dHands
    refine zit_inv (fun _ (p : zM × Int) => p.1 i j = S i j) _ _ _ (by dsimp only; rw [zup_a h0]) (fun k p k0 k1 hp => ?_)
    rw [show p = (p.1, p.2) from rfl, dHand_row h0 h1 h2]
    exact hp
  exact sPut_eq (fun q => h 5 q (by omega) (by omega) (by omega)) (fun q => h 6 q (by omega) (by omega) (by omega)) dHands_day
theorem tPut_day {S G : zM} {q : Int} : tPut S G q 0 10 = S 0 10 := by
  unfold tPut
  have h : tPut0 S G q 0 10 = S 0 10 := by unfold tPut0; rw [zup_a (by omega), zup_a (by omega), zup_a (by omega)]
  split
  · rw [tGrant_row (by omega), h]
  · exact h
theorem dPut_day {S G : zM} {sd : Int} : (dPut G (S, sd)).1 0 10 = S 0 10 := by
  unfold dPut
  split
  · dsimp only
    split
    · exact tPut_day
    · rfl
  · rfl
theorem tDay2_day {S G : zM} (h0 : 0 ≤ S 0 10) (h1 : S 0 10 < 400) : tDay2 S G 0 10 = S 0 10 + 1 := by
  unfold tDay2
  rw [zup_e (by omega), tPay_row (by omega), z32_id (by omega) (by omega)]
theorem okD_day {S G : zM} (hG : okG G) (hS : okD S G) (hd : S 0 10 < 400) : okD (tDay2 S G) G := ⟨zt_day hS.1 hG.2.1, okS_day hS.2.1 hG hd, okH_day hS.2.2 hG.2.1.1⟩
theorem dDay_ok {S G : zM} {sd : Int} (hG : okG G) (hS : okD S G) (hd : S 0 10 < 400) : okD (dDay G (S, sd)).1 G ∧ (dDay G (S, sd)).1 0 10 = S 0 10 + 1 ∧ sPut (dDay G (S, sd)).1 G = false := by
  have e1 : (dHands G (S, sd)).1 0 10 = S 0 10 := dHands_day
  have o1 : okD (dHands G (S, sd)).1 G := okD_hands hG hS
  unfold dDay
  generalize dHands G (S, sd) = p at e1 o1
  obtain ⟨T, sd1⟩ := p
  have e2 : (dPut G (T, sd1)).1 0 10 = T 0 10 := dPut_day
  have o2 : okD (dPut G (T, sd1)).1 G := okD_put hG o1
  generalize dPut G (T, sd1) = p2 at e2 o2
  obtain ⟨U, sd2⟩ := p2
  dsimp only at e1 e2 o1 o2 ⊢
  have := hS.2.1.2.2.1
  have hU : U 0 10 < 400 := by omega
  have hU0 : 0 ≤ U 0 10 := by omega
  exact ⟨okD_day hG o2 hU, by rw [tDay2_day hU0 hU]; omega, sPut_day o2.2.1 hU hG.2.2.1.2⟩
def dDays (G : zM) (n : Nat) (p : zM × Int) : zM × Int := zit (fun _ p => dDay G p) n 0 p
