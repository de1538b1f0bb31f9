/-! bounds kept by acts; who was put today -/
theorem okS_u1 {S : zM} {j v : Int} (h : okS S) (v0 : 0 ≤ v) (v1 : v ≤ 20) : okS (zup S 1 j v) := by
  obtain ⟨a1, a2, a3, a4, a5, a6, a7, a8, a9, a10, a11⟩ := h
  refine ⟨by simpa [zup] using a1, by simpa [zup] using a2, by simpa [zup] using a3, fun k k0 k1 => ?_, by simpa [zup] using a5, by simpa [zup] using a6, by simpa [zup] using a7, by simpa [zup] using a8, by simpa [zup] using a9, by simpa [zup] using a10, by simpa [zup] using a11⟩
  have := a4 k k0 k1
  unfold zup
  split <;> omega
theorem okS_u2 {S : zM} {j v : Int} (h : okS S) (v0 : 0 ≤ v) (v1 : v ≤ 999) : okS (zup S 2 j v) := by
  obtain ⟨a1, a2, a3, a4, a5, a6, a7, a8, a9, a10, a11⟩ := h
  refine ⟨by simpa [zup] using a1, by simpa [zup] using a2, by simpa [zup] using a3, by simpa [zup] using a4, fun k k0 k1 => ?_, by simpa [zup] using a6, by simpa [zup] using a7, by simpa [zup] using a8, by simpa [zup] using a9, by simpa [zup] using a10, by simpa [zup] using a11⟩
  have := a5 k k0 k1
  unfold zup
  split <;> omega
theorem okS_u3 {S : zM} {j v : Int} (h : okS S) (v0 : 0 ≤ v) (v1 : v < 1024) : okS (zup S 3 j v) := by
  obtain ⟨a1, a2, a3, a4, a5, a6, a7, a8, a9, a10, a11⟩ := h
  refine ⟨by simpa [zup] using a1, by simpa [zup] using a2, by simpa [zup] using a3, by simpa [zup] using a4, by simpa [zup] using a5, fun k k0 k1 => ?_, by simpa [zup] using a7, by simpa [zup] using a8, by simpa [zup] using a9, by simpa [zup] using a10, by simpa [zup] using a11⟩
  have := a6 k k0 k1
  unfold zup
  split <;> omega
theorem okS_u4 {S : zM} {j v : Int} (h : okS S) (v0 : 0 ≤ v) (v1 : v < 1024) : okS (zup S 4 j v) := by
  obtain ⟨a1, a2, a3, a4, a5, a6, a7, a8, a9, a10, a11⟩ := h
  refine ⟨by simpa [zup] using a1, by simpa [zup] using a2, by simpa [zup] using a3, by simpa [zup] using a4, by simpa [zup] using a5, by simpa [zup] using a6, fun k k0 k1 => ?_, by simpa [zup] using a8, by simpa [zup] using a9, by simpa [zup] using a10, by simpa [zup] using a11⟩
  have := a7 k k0 k1
  unfold zup
  split <;> omega
theorem okS_u5 {S : zM} {j v : Int} (h : okS S) (v0 : 0 ≤ v) (v1 : v ≤ 2) : okS (zup S 5 j v) := by
  obtain ⟨a1, a2, a3, a4, a5, a6, a7, a8, a9, a10, a11⟩ := h
  refine ⟨by simpa [zup] using a1, by simpa [zup] using a2, by simpa [zup] using a3, by simpa [zup] using a4, by simpa [zup] using a5, by simpa [zup] using a6, by simpa [zup] using a7, fun k k0 k1 => ?_, by simpa [zup] using a9, by simpa [zup] using a10, by simpa [zup] using a11⟩
  have := a8 k k0 k1
  unfold zup
  split <;> omega
theorem okS_u6 {S : zM} {j v : Int} (h : okS S) (v0 : -1 ≤ v) (v1 : v ≤ S 0 10) : okS (zup S 6 j v) := by
  obtain ⟨a1, a2, a3, a4, a5, a6, a7, a8, a9, a10, a11⟩ := h
  refine ⟨by simpa [zup] using a1, by simpa [zup] using a2, by simpa [zup] using a3, by simpa [zup] using a4, by simpa [zup] using a5, by simpa [zup] using a6, by simpa [zup] using a7, by simpa [zup] using a8, fun k k0 k1 => ?_, by simpa [zup] using a10, by simpa [zup] using a11⟩
  have := a9 k k0 k1
  have e : zup S 6 j v 0 10 = S 0 10 := zup_a (by omega)
  rw [e]
  unfold zup
  split <;> omega
theorem okS_u7 {S : zM} {j v : Int} (h : okS S) (v0 : -1 ≤ v) (v1 : v ≤ 1000) : okS (zup S 7 j v) := by
  obtain ⟨a1, a2, a3, a4, a5, a6, a7, a8, a9, a10, a11⟩ := h
  refine ⟨by simpa [zup] using a1, by simpa [zup] using a2, by simpa [zup] using a3, by simpa [zup] using a4, by simpa [zup] using a5, by simpa [zup] using a6, by simpa [zup] using a7, by simpa [zup] using a8, by simpa [zup] using a9, fun k k0 k1 => ?_, by simpa [zup] using a11⟩
  have := a10 k k0 k1
  unfold zup
  split <;> omega
theorem okS_u8 {S : zM} {j v : Int} (h : okS S) (v0 : 0 ≤ v) (v1 : v ≤ 20) : okS (zup S 8 j v) := by
  obtain ⟨a1, a2, a3, a4, a5, a6, a7, a8, a9, a10, a11⟩ := h
  refine ⟨by simpa [zup] using a1, by simpa [zup] using a2, by simpa [zup] using a3, by simpa [zup] using a4, by simpa [zup] using a5, by simpa [zup] using a6, by simpa [zup] using a7, by simpa [zup] using a8, by simpa [zup] using a9, by simpa [zup] using a10, fun k k0 k1 => ?_⟩
  have := a11 k k0 k1
  unfold zup
  split <;> omega
theorem okS_u08 {S : zM} {v : Int} (h : okS S) (v0 : 0 ≤ v) (v1 : v < 1024) : okS (zup S 0 8 v) := by
  obtain ⟨a1, a2, a3, a4, a5, a6, a7, a8, a9, a10, a11⟩ := h
  exact ⟨by simp [zup]; omega, by simpa [zup] using a2, by simpa [zup] using a3, by simpa [zup] using a4, by simpa [zup] using a5, by simpa [zup] using a6, by simpa [zup] using a7, by simpa [zup] using a8, by simpa [zup] using a9, by simpa [zup] using a10, by simpa [zup] using a11⟩
theorem okS_u09 {S : zM} {v : Int} (h : okS S) (v0 : 0 ≤ v) (v1 : v ≤ 2) : okS (zup S 0 9 v) := by
  obtain ⟨a1, a2, a3, a4, a5, a6, a7, a8, a9, a10, a11⟩ := h
  exact ⟨by simpa [zup] using a1, by simp [zup]; omega, by simpa [zup] using a3, by simpa [zup] using a4, by simpa [zup] using a5, by simpa [zup] using a6, by simpa [zup] using a7, by simpa [zup] using a8, by simpa [zup] using a9, by simpa [zup] using a10, by simpa [zup] using a11⟩
theorem okS_u0t {S : zM} {v : Int} (h : okS S) (v0 : S 0 10 ≤ v) (v1 : v ≤ 400) : okS (zup S 0 10 v) := by
  obtain ⟨a1, a2, a3, a4, a5, a6, a7, a8, a9, a10, a11⟩ := h
  refine ⟨by simpa [zup] using a1, by simpa [zup] using a2, by simp [zup]; omega, by simpa [zup] using a4, by simpa [zup] using a5, by simpa [zup] using a6, by simpa [zup] using a7, by simpa [zup] using a8, fun k k0 k1 => ?_, by simpa [zup] using a10, by simpa [zup] using a11⟩
  have := a9 k k0 k1
  rw [zup_e (by omega), zup_a (by omega)]
  omega
theorem prod_bd {n p : Int} (n0 : 0 ≤ n) (n1 : n ≤ 20) (p0 : 0 ≤ p) (p1 : p ≤ 9) : 0 ≤ n * p ∧ n * p ≤ 180 := by
  have h1 := Int.mul_nonneg n0 p0
  have h2 : n * p ≤ 20 * 9 := Int.mul_le_mul n1 p1 p0 (by omega)
  omega
theorem okS_buy {S G : zM} {h n : Int} (hS : okS S) (hG : okG G) (h0 : 0 ≤ h) (h1 : h < 10) (n0 : 1 ≤ n) (n1 : n ≤ 20) (hw : sWhyBuy S G h n = 0) : okS (tBuy S G h n) := by
  obtain ⟨-, -, -, -, ⟨p0, p1⟩, -⟩ := hG
  have hp := prod_bd (n := n) (p := G 0 10) (by omega) n1 (by omega) p1
  have hi := hS.2.2.2.1 h h0 h1
  have hc := hS.2.2.2.2.1 h h0 h1
  have z1 : z32 (n * G 0 10) = n * G 0 10 := z32_id (by omega) (by omega)
  have z2 : z32 (S 1 h + n) = S 1 h + n := z32_id (by omega) (by omega)
  have z3 : z32 (S 2 h - n * G 0 10) = S 2 h - n * G 0 10 := z32_id (by omega) (by omega)
  unfold sWhyBuy at hw
  rw [z1, z2] at hw
  by_cases c1 : S 2 h < n * G 0 10
  · rw [if_pos c1] at hw; omega
  by_cases c2 : 20 < S 1 h + n
  · rw [if_neg c1, if_pos c2] at hw; omega
  unfold tBuy
  rw [z1, z2, z3]
  exact okS_u1 (okS_u2 hS (by omega) (by omega)) (by omega) (by omega)
theorem okS_grant {S G : zM} {q : Int} (hS : okS S) (hG : okG G) (q0 : 0 ≤ q) (q1 : q < 5) : okS (tGrant S G q) := by
  obtain ⟨⟨g3, g4⟩, ⟨g1, g2⟩, -, -, -, -, gh, gg, -⟩ := hG
  unfold tGrant
  refine zit_inv (fun _ T => okS T) _ _ _ hS (fun k T k0 k1 hT => ?_)
  have h1 := gh k k0 (by omega)
  have h2 := gg (q * 5 + G 4 k) (by omega) (by omega)
  have h3 := hT.2.2.2.1 k k0 (by omega)
  refine okS_u1 hT ?_ ?_ <;> (unfold sMin; rw [z32_id (by omega) (by omega)]; split <;> omega)
theorem okS_put {S G : zM} {q : Int} (hS : okS S) (hG : okG G) (q0 : 0 ≤ q) (q1 : q < 5) : okS (tPut S G q) := by
  have hb := sAhead_bd (q := q) hS hG
  have h0 : okS (tPut0 S G q) := by
    unfold tPut0
    refine okS_u7 (okS_u6 (okS_u5 hS (by split <;> omega) (by split <;> omega)) ?_ ?_) ?_ ?_
    · have := hS.2.2.1; omega
    · rw [zup_a (by omega)]; omega
    · unfold sAbs; split
      · omega
      · rw [z32_id (by omega) (by omega)]; omega
    · unfold sAbs; split
      · omega
      · rw [z32_id (by omega) (by omega)]; omega
  unfold tPut
  split
  · exact okS_grant h0 hG q0 q1
  · exact h0
theorem okS_sway {S : zM} {h q w : Int} (hS : okS S) (h0 : 0 ≤ h) (h1 : h < 10) (q0 : 0 ≤ q) (q1 : q < 5) : okS (tSway S h q w) := by
  have hl := hS.2.2.2.2.2.1 q q0 q1
  have hr := hS.2.2.2.2.2.2.1 q q0 q1
  have b1 := zbits hl.1 hl.2 h0 h1
  have b2 := zbits hr.1 hr.2 h0 h1
  unfold tSway
  split
  · exact okS_u4 (okS_u3 hS b1.2.2.2.1.1 b1.2.2.2.1.2) b2.2.2.2.2.1 b2.2.2.2.2.2
  · exact okS_u4 (okS_u3 hS b1.2.2.2.2.1 b1.2.2.2.2.2) b2.2.2.2.1.1 b2.2.2.2.1.2
theorem okS_pay {S G : zM} (hS : okS S) (hG : okG G) : okS (tPay S G) := by
  obtain ⟨-, ⟨g1, g2⟩, -, -, -, ⟨w0, w1⟩, -⟩ := hG
  unfold tPay
  refine zit_inv (fun _ T => okS T) _ _ _ hS (fun k T k0 k1 hT => ?_)
  have h3 := hT.2.2.2.2.1 k k0 (by omega)
  split
  · exact hT
  · refine okS_u2 hT ?_ ?_ <;> (unfold sMin; rw [z32_id (by omega) (by omega)]; split <;> omega)
theorem tPay_row {S G : zM} {i j : Int} (hi : i ≠ 2) : tPay S G i j = S i j := by
  unfold tPay
  refine zit_inv (fun _ (T : zM) => T i j = S i j) _ _ _ rfl (fun k T k0 k1 hT => ?_)
  split
  · exact hT
  · rw [zup_a hi]; exact hT
theorem tGrant_row {S G : zM} {q i j : Int} (hi : i ≠ 1) : tGrant S G q i j = S i j := by
  unfold tGrant
  refine zit_inv (fun _ (T : zM) => T i j = S i j) _ _ _ rfl (fun k T k0 k1 hT => ?_)
  rw [zup_a hi]; exact hT
theorem okS_day {S G : zM} (hS : okS S) (hG : okG G) (hd : S 0 10 < 400) : okS (tDay2 S G) := by
  have h1 := okS_pay hS hG
  have e : tPay S G 0 10 = S 0 10 := tPay_row (by omega)
  have := hS.2.2.1
  unfold tDay2
  rw [e, z32_id (by omega) (by omega)]
  refine okS_u0t (okS_u09 h1 (by omega) (by omega)) ?_ (by omega)
  rw [zup_j (by omega), e]
  omega
theorem zany_congr {p p' : Int → Bool} : ∀ (n : Nat) (h : Int), (∀ k, h ≤ k → k < h + n → p k = p' k) → zany p n h = zany p' n h
  | 0, _, _ => rfl
  | n + 1, h, hs => by
    unfold zany
    rw [hs h (by omega) (by omega), zany_congr n (h + 1) (fun k h1 h2 => hs k (by omega) (by omega))]
theorem zany_t {p : Int → Bool} : ∀ (n : Nat) (h k : Int), h ≤ k → k < h + n → p k = true → zany p n h = true
  | 0, _, _, h1, h2, _ => by omega
  | n + 1, h, k, h1, h2, h3 => by
    unfold zany
    by_cases c : h = k
    · subst c; rw [if_pos h3]
    · split
      · rfl
      · exact zany_t n (h + 1) k (by omega) (by omega) h3
theorem zany_f {p : Int → Bool} : ∀ (n : Nat) (h : Int), (∀ k, h ≤ k → k < h + n → p k = false) → zany p n h = false
  | 0, _, _ => rfl
  | n + 1, h, hs => by
    unfold zany
    rw [hs h (by omega) (by omega), zany_f n (h + 1) (fun k h1 h2 => hs k (by omega) (by omega))]
    rfl
theorem sPut_eq {S S' G : zM} (h5 : ∀ q, S' 5 q = S 5 q) (h6 : ∀ q, S' 6 q = S 6 q) (hd : S' 0 10 = S 0 10) : sPut S' G = sPut S G := by
  unfold sPut
  exact zany_congr _ _ (fun k _ _ => by rw [h5, h6, hd])
theorem sPut_put {S G : zM} {q : Int} (q0 : 0 ≤ q) (q1 : q < G 0 8) : sPut (tPut S G q) G = true := by
  have h5 : tPut S G q 5 q ≠ 0 := by
    have : tPut S G q 5 q = tPut0 S G q 5 q := by
      unfold tPut
      split
      · exact tGrant_row (by omega)
      · rfl
    rw [this]
    unfold tPut0
    rw [zup_a (by omega), zup_a (by omega), zup_e (by omega)]
    split <;> omega
  have h6 : tPut S G q 6 q = tPut S G q 0 10 := by
    have e1 : ∀ i j, i ≠ 1 → tPut S G q i j = tPut0 S G q i j := by
      intro i j hi
      unfold tPut
      split
      · exact tGrant_row hi
      · rfl
    rw [e1 6 q (by omega), e1 0 10 (by omega)]
    unfold tPut0
    rw [zup_a (by omega), zup_e (by omega), zup_a (by omega), zup_a (by omega), zup_a (by omega)]
  unfold sPut
  refine zany_t _ _ q q0 (by omega) ?_
  rw [decide_eq_true h5, decide_eq_true h6]
  rfl
theorem sPut_day {S G : zM} (hS : okS S) (hd : S 0 10 < 400) (g8 : G 0 8 ≤ 5) : sPut (tDay2 S G) G = false := by
  have := hS.2.2.1
  have hr : ∀ i j, i ≠ 0 → i ≠ 2 → tDay2 S G i j = S i j := by
    intro i j h1 h2
    unfold tDay2
    rw [zup_a h1, zup_a h1, tPay_row h2]
  have hd2 : tDay2 S G 0 10 = S 0 10 + 1 := by
    unfold tDay2
    rw [zup_e (by omega), tPay_row (by omega), z32_id (by omega) (by omega)]
  unfold sPut
  refine zany_f _ _ (fun k k0 k1 => ?_)
  have h6 := hS.2.2.2.2.2.2.2.2.1 k k0 (by omega)
  have : ¬ (tDay2 S G 6 k = tDay2 S G 0 10) := by rw [hr 6 k (by omega) (by omega), hd2]; omega
  rw [decide_eq_false this, Bool.and_false]
theorem okH_eq {S S' G : zM} (h : okH S G) (h1 : ∀ k, G 0 7 ≤ k → S' 1 k = S 1 k) (h2 : ∀ k, G 0 7 ≤ k → S' 2 k = S 2 k) (h5 : ∀ k, S' 5 k = S 5 k) (h7 : ∀ k, S' 7 k = S 7 k) : okH S' G := ⟨fun k k0 k1 => by
  rw [h1 k k0, h2 k k0]; exact h.1 k k0 k1, fun k k0 k1 => by rw [h5, h7]; exact h.2 k k0 k1⟩
theorem okH_buy {S G : zM} {h n : Int} (hH : okH S G) (h1 : h < G 0 7) : okH (tBuy S G h n) G := by
  unfold tBuy
  exact okH_eq hH (fun k k0 => by rw [zup_j (by omega), zup_a (by omega)]) (fun k k0 => by rw [zup_a (by omega), zup_j (by omega)]) (fun k => by rw [zup_a (by omega), zup_a (by omega)]) (fun k => by rw [zup_a (by omega), zup_a (by omega)])
theorem okH_row {S G : zM} {i j v : Int} (hH : okH S G) (h1 : i ≠ 1) (h2 : i ≠ 2) (h3 : i ≠ 5 := by omega) (h4 : i ≠ 7 := by omega) : okH (zup S i j v) G :=
  okH_eq hH (fun k _ => zup_a (fun z => h1 z.symm)) (fun k _ => zup_a (fun z => h2 z.symm)) (fun k => zup_a (fun z => h3 z.symm)) (fun k => zup_a (fun z => h4 z.symm))
theorem okH_sway {S G : zM} {h q w : Int} (hH : okH S G) : okH (tSway S h q w) G := by
  unfold tSway
  split <;> exact okH_row (okH_row hH (by omega) (by omega)) (by omega) (by omega)
theorem okH_grant {S G : zM} {q : Int} (hH : okH S G) (g : 0 ≤ G 0 7) : okH (tGrant S G q) G := by
  unfold tGrant
  refine zit_inv (fun _ (T : zM) => okH T G) _ _ _ hH (fun k T k0 k1 hT => okH_eq hT (fun j j0 => zup_j (by omega)) (fun j j0 => zup_a (by omega)) (fun j => zup_a (by omega)) (fun j => zup_a (by omega)))
theorem okH_put {S G : zM} {q : Int} (hH : okH S G) (g : 0 ≤ G 0 7) (hS : okS S) (hG : okG G) : okH (tPut S G q) G := by
  have h0 : okH (tPut0 S G q) G := by
    have hb := sAhead_bd (q := q) hS hG
    unfold tPut0
    refine ⟨fun k k0 k1 => ?_, fun k k0 k1 h => ?_⟩
    · rw [zup_a (by omega), zup_a (by omega), zup_a (by omega), zup_a (by omega), zup_a (by omega), zup_a (by omega)]
      exact hH.1 k k0 k1
    · by_cases c : k = q
      · rw [c, zup_e (by omega)]
        unfold sAbs
        split
        · omega
        · rw [z32_id (by omega) (by omega)]; omega
      · rw [zup_a (by omega), zup_a (by omega), zup_j c] at h
        rw [zup_j c, zup_a (by omega), zup_a (by omega)]
        exact hH.2 k k0 k1 h
  unfold tPut
  split
  · exact okH_grant h0 g
  · exact h0
theorem okH_day {S G : zM} (hH : okH S G) (g : 0 ≤ G 0 7) : okH (tDay2 S G) G := by
  have h0 : okH (tPay S G) G := by
    unfold tPay
    refine zit_inv (fun _ (T : zM) => okH T G) _ _ _ hH (fun k T k0 k1 hT => ?_)
    split
    · exact hT
    · exact okH_eq hT (fun j j0 => zup_a (by omega)) (fun j j0 => zup_j (by omega)) (fun j => zup_a (by omega)) (fun j => zup_a (by omega))
  unfold tDay2
  exact okH_row (okH_row h0 (by omega) (by omega)) (by omega) (by omega)
