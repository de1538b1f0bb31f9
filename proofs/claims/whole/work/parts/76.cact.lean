/-! the class's acts from outside -/
def zFC (x y : Int) : Prop := (37 ≤ x ∧ x ≤ 45) ∨ (59 ≤ x ∧ x ≤ 67) ∨ (81 ≤ x ∧ x ≤ 152) ∨ x = 77 ∨ (x = 0 ∧ y = 13)
def cDone (M S' M' : zM) : Prop := (∀ x y, ¬ zFC x y → M' x y = M x y) ∧ zvS M' 37 = S' ∧ okP M' ∧ M' 0 13 = (if M 0 13 = 8 then 8 else M 0 13 + 1) ∧ zvS M' (M' 77 (M' 0 13 - 1)) = zvS M 37 ∧ ∀ i, 0 ≤ i → i < M' 0 13 - 1 → zvS M' (M' 77 i) = zvS M (M 77 (if M 0 13 = 8 then i + 1 else i))
theorem okP_eq {M M' : zM} (h : ∀ y, M' 77 y = M 77 y) (hp : okP M) : okP M' := ⟨fun i h0 h1 => by rw [h]; exact hp.1 i h0 h1, fun i j h0 h1 h2 => by rw [h, h]; exact hp.2 i j h0 h1 h2⟩
theorem c_done (d : Nat) (x0 y : Int) (M S' : zM) (hz : zt S' = S') (n0 : 0 ≤ M 0 13) (n1 : M 0 13 ≤ 8) (hp : okP M) : ∃ M', zEm true (d + 3) 50 [(29, 0, x0), (0, 0, y)] (zput (cpS M 59 37) 37 S') = some ((0, 0, 0), M') ∧ cDone M S' M' := by
  have ho : ∀ x y, ¬ ((37 ≤ x ∧ x ≤ 45) ∨ (59 ≤ x ∧ x ≤ 67)) → zput (cpS M 59 37) 37 S' x y = M x y := fun x y h => by rw [zput_o (by omega), cpS_o (by omega)]
  have e13 := ho 0 13 (by omega)
  have e77 : ∀ i, zput (cpS M 59 37) 37 S' 77 i = M 77 i := fun i => ho 77 i (by omega)
  obtain ⟨M', h1, -, h3⟩ := c_keepIfDone d x0 0 y (zput (cpS M 59 37) 37 S') (by rw [e13]; exact n0) (by rw [e13]; exact n1) (okP_eq e77 hp)
  obtain ⟨k1, k2, k3, k4, k5⟩ := h3 rfl
  refine ⟨M', h1, fun x y h => ?_, ?_, k2, ?_, ?_, fun i i0 i1 => ?_⟩
  · unfold zFC at h
    rw [k1 x y (by omega), ho x y (by omega)]
  · have : zvS M' 37 = zvS (zput (cpS M 59 37) 37 S') 37 := zvS_eq (fun x y h1 h2 => k1 x y (by omega))
    rw [this, zvS_put, hz]
  · rw [k3, e13]
  · rw [k4, zvS_puto (by omega), zvS_cp (by omega) (by omega)]
  · have h13 : M' 0 13 = if M 0 13 = 8 then 8 else M 0 13 + 1 := by rw [k3, e13]
    have hx : 0 ≤ (if M 0 13 = 8 then i + 1 else i) ∧ (if M 0 13 = 8 then i + 1 else i) < 8 := by
      by_cases c : M 0 13 = 8
      · rw [if_pos c] at h13 ⊢; omega
      · rw [if_neg c] at h13 ⊢; omega
    have hq := hp.1 _ hx.1 hx.2
    rw [k5 i i0 i1, e13, e77]
    exact zvS_eq (fun x y h1 h2 => ho x y (by omega))
theorem c_not (d : Nat) (x0 w y : Int) (M : zM) (h : w ≠ 0) : zEm true (d + 3) 50 [(29, 0, x0), (0, w, y)] M = some ((0, w, 0), M) := by
  simp (disch := first | assumption | exact zrm0 | exact zrm1 _ | exact zrm2 _ _ | exact zrm3 _ _ _ | exact zrm4 _ _ _ _ | omega) only [m50, ↓k_dp, ↓k_dn, k_dp, k_dn, k_dT, k_dF, k_ip, k_in, if_true, if_false, ne_eq, not_true_eq_false, not_false_eq_true, Int.reduceAdd, zup_a, zup_e, zup_j, z32_id, k_il1, k_ifne, k_al0, k_v1, k_ri, zb0_some, zb1_some, e50_0, e50_1, e50_4, e50_5, e50_8, e50_9]
theorem m46 (ph : Bool) (d : Nat) (a x0 p0 y0 : Int) (M : zM) : zEm ph (d + 1) 46 [(29, a, x0), (0, p0, y0)] M = zEv ph d 46 0 [(29, a, x0), (0, p0, y0)] [] M := rfl
theorem e46_0 (ph : Bool) (d : Nat) (L st : List zV) (M : zM) : zEv ph d 46 0 L st M = zcont ph d 46 (zstep ph (zEm ph d) 2 1 0 [1] L st M) := zEv_step rfl
theorem e46_1 (ph : Bool) (d : Nat) (L st : List zV) (M : zM) : zEv ph d 46 1 L st M = zcont ph d 46 (zstep ph (zEm ph d) 42 4 19 [] L st M) := zEv_step rfl
theorem e46_4 (ph : Bool) (d : Nat) (L st : List zV) (M : zM) : zEv ph d 46 4 L st M = zcont ph d 46 (zstep ph (zEm ph d) 2 5 0 [1] L st M) := zEv_step rfl
theorem e46_5 (ph : Bool) (d : Nat) (L st : List zV) (M : zM) : zEv ph d 46 5 L st M = zcont ph d 46 (zstep ph (zEm ph d) 4 6 0 [0] L st M) := zEv_step rfl
theorem e46_6 (ph : Bool) (d : Nat) (L st : List zV) (M : zM) : zEv ph d 46 6 L st M = zcont ph d 46 (zstep ph (zEm ph d) 62 9 0 [29, 2, 30, 28, 0] L st M) := zEv_step rfl
theorem e46_9 (ph : Bool) (d : Nat) (L st : List zV) (M : zM) : zEv ph d 46 9 L st M = zcont ph d 46 (zstep ph (zEm ph d) 60 12 0 [28, 7] L st M) := zEv_step rfl
theorem e46_12 (ph : Bool) (d : Nat) (L st : List zV) (M : zM) : zEv ph d 46 12 L st M = zcont ph d 46 (zstep ph (zEm ph d) 49 15 19 [] L st M) := zEv_step rfl
theorem e46_15 (ph : Bool) (d : Nat) (L st : List zV) (M : zM) : zEv ph d 46 15 L st M = zcont ph d 46 (zstep ph (zEm ph d) 0 16 0 [1] L st M) := zEv_step rfl
theorem e46_16 (ph : Bool) (d : Nat) (L st : List zV) (M : zM) : zEv ph d 46 16 L st M = zcont ph d 46 (zstep ph (zEm ph d) 52 19 20 [] L st M) := zEv_step rfl
theorem e46_19 (ph : Bool) (d : Nat) (L st : List zV) (M : zM) : zEv ph d 46 19 L st M = zcont ph d 46 (zstep ph (zEm ph d) 0 20 0 [0] L st M) := zEv_step rfl
theorem e46_20 (ph : Bool) (d : Nat) (L st : List zV) (M : zM) : zEv ph d 46 20 L st M = zcont ph d 46 (zstep ph (zEm ph d) 80 21 0 [0, 1] L st M) := zEv_step rfl
theorem m47 (ph : Bool) (d : Nat) (a x0 p0 y0 : Int) (M : zM) : zEm ph (d + 1) 47 [(29, a, x0), (0, p0, y0)] M = zEv ph d 47 0 [(29, a, x0), (0, p0, y0)] [] M := rfl
theorem e47_0 (ph : Bool) (d : Nat) (L st : List zV) (M : zM) : zEv ph d 47 0 L st M = zcont ph d 47 (zstep ph (zEm ph d) 2 1 0 [1] L st M) := zEv_step rfl
theorem e47_1 (ph : Bool) (d : Nat) (L st : List zV) (M : zM) : zEv ph d 47 1 L st M = zcont ph d 47 (zstep ph (zEm ph d) 42 4 19 [] L st M) := zEv_step rfl
theorem e47_4 (ph : Bool) (d : Nat) (L st : List zV) (M : zM) : zEv ph d 47 4 L st M = zcont ph d 47 (zstep ph (zEm ph d) 2 5 0 [1] L st M) := zEv_step rfl
theorem e47_5 (ph : Bool) (d : Nat) (L st : List zV) (M : zM) : zEv ph d 47 5 L st M = zcont ph d 47 (zstep ph (zEm ph d) 4 6 0 [0] L st M) := zEv_step rfl
theorem e47_6 (ph : Bool) (d : Nat) (L st : List zV) (M : zM) : zEv ph d 47 6 L st M = zcont ph d 47 (zstep ph (zEm ph d) 62 9 0 [29, 2, 30, 28, 0] L st M) := zEv_step rfl
theorem e47_9 (ph : Bool) (d : Nat) (L st : List zV) (M : zM) : zEv ph d 47 9 L st M = zcont ph d 47 (zstep ph (zEm ph d) 60 12 0 [28, 8] L st M) := zEv_step rfl
theorem e47_12 (ph : Bool) (d : Nat) (L st : List zV) (M : zM) : zEv ph d 47 12 L st M = zcont ph d 47 (zstep ph (zEm ph d) 49 15 19 [] L st M) := zEv_step rfl
theorem e47_15 (ph : Bool) (d : Nat) (L st : List zV) (M : zM) : zEv ph d 47 15 L st M = zcont ph d 47 (zstep ph (zEm ph d) 0 16 0 [1] L st M) := zEv_step rfl
theorem e47_16 (ph : Bool) (d : Nat) (L st : List zV) (M : zM) : zEv ph d 47 16 L st M = zcont ph d 47 (zstep ph (zEm ph d) 52 19 20 [] L st M) := zEv_step rfl
theorem e47_19 (ph : Bool) (d : Nat) (L st : List zV) (M : zM) : zEv ph d 47 19 L st M = zcont ph d 47 (zstep ph (zEm ph d) 0 20 0 [0] L st M) := zEv_step rfl
theorem e47_20 (ph : Bool) (d : Nat) (L st : List zV) (M : zM) : zEv ph d 47 20 L st M = zcont ph d 47 (zstep ph (zEm ph d) 80 21 0 [0, 1] L st M) := zEv_step rfl
theorem m48 (ph : Bool) (d : Nat) (p0 y0 : Int) (M : zM) : zEm ph (d + 1) 48 [(0, p0, y0)] M = zEv ph d 48 0 [(0, p0, y0)] [] M := rfl
theorem e48_0 (ph : Bool) (d : Nat) (L st : List zV) (M : zM) : zEv ph d 48 0 L st M = zcont ph d 48 (zstep ph (zEm ph d) 2 1 0 [0] L st M) := zEv_step rfl
theorem e48_1 (ph : Bool) (d : Nat) (L st : List zV) (M : zM) : zEv ph d 48 1 L st M = zcont ph d 48 (zstep ph (zEm ph d) 40 4 9 [] L st M) := zEv_step rfl
theorem e48_4 (ph : Bool) (d : Nat) (L st : List zV) (M : zM) : zEv ph d 48 4 L st M = zcont ph d 48 (zstep ph (zEm ph d) 2 5 0 [0] L st M) := zEv_step rfl
theorem e48_5 (ph : Bool) (d : Nat) (L st : List zV) (M : zM) : zEv ph d 48 5 L st M = zcont ph d 48 (zstep ph (zEm ph d) 0 6 0 [1] L st M) := zEv_step rfl
theorem e48_6 (ph : Bool) (d : Nat) (L st : List zV) (M : zM) : zEv ph d 48 6 L st M = zcont ph d 48 (zstep ph (zEm ph d) 47 9 13 [] L st M) := zEv_step rfl
theorem e48_9 (ph : Bool) (d : Nat) (L st : List zV) (M : zM) : zEv ph d 48 9 L st M = zcont ph d 48 (zstep ph (zEm ph d) 0 10 0 [1] L st M) := zEv_step rfl
theorem e48_10 (ph : Bool) (d : Nat) (L st : List zV) (M : zM) : zEv ph d 48 10 L st M = zcont ph d 48 (zstep ph (zEm ph d) 52 13 14 [] L st M) := zEv_step rfl
theorem e48_13 (ph : Bool) (d : Nat) (L st : List zV) (M : zM) : zEv ph d 48 13 L st M = zcont ph d 48 (zstep ph (zEm ph d) 0 14 0 [0] L st M) := zEv_step rfl
theorem e48_14 (ph : Bool) (d : Nat) (L st : List zV) (M : zM) : zEv ph d 48 14 L st M = zcont ph d 48 (zstep ph (zEm ph d) 80 15 0 [0, 1] L st M) := zEv_step rfl
theorem m11 (ph : Bool) (d : Nat) (a x0 p0 y0 p1 y1 : Int) (M : zM) : zEm ph (d + 1) 11 [(29, a, x0), (0, p0, y0), (0, p1, y1)] M = zEv ph d 11 0 [(29, a, x0), (0, p0, y0), (0, p1, y1)] [] M := rfl
theorem e11_0 (ph : Bool) (d : Nat) (L st : List zV) (M : zM) : zEv ph d 11 0 L st M = zcont ph d 11 (zstep ph (zEm ph d) 4 1 0 [0] L st M) := zEv_step rfl
theorem e11_1 (ph : Bool) (d : Nat) (L st : List zV) (M : zM) : zEv ph d 11 1 L st M = zcont ph d 11 (zstep ph (zEm ph d) 2 2 0 [1] L st M) := zEv_step rfl
theorem e11_2 (ph : Bool) (d : Nat) (L st : List zV) (M : zM) : zEv ph d 11 2 L st M = zcont ph d 11 (zstep ph (zEm ph d) 70 5 46 [2, 1, 29] L st M) := zEv_step rfl
theorem e11_5 (ph : Bool) (d : Nat) (L st : List zV) (M : zM) : zEv ph d 11 5 L st M = zcont ph d 11 (zstep ph (zEm ph d) 40 8 19 [] L st M) := zEv_step rfl
theorem e11_8 (ph : Bool) (d : Nat) (L st : List zV) (M : zM) : zEv ph d 11 8 L st M = zcont ph d 11 (zstep ph (zEm ph d) 2 9 0 [2] L st M) := zEv_step rfl
theorem e11_9 (ph : Bool) (d : Nat) (L st : List zV) (M : zM) : zEv ph d 11 9 L st M = zcont ph d 11 (zstep ph (zEm ph d) 0 10 0 [1] L st M) := zEv_step rfl
theorem e11_10 (ph : Bool) (d : Nat) (L st : List zV) (M : zM) : zEv ph d 11 10 L st M = zcont ph d 11 (zstep ph (zEm ph d) 48 13 19 [] L st M) := zEv_step rfl
theorem e11_13 (ph : Bool) (d : Nat) (L st : List zV) (M : zM) : zEv ph d 11 13 L st M = zcont ph d 11 (zstep ph (zEm ph d) 2 14 0 [2] L st M) := zEv_step rfl
theorem e11_14 (ph : Bool) (d : Nat) (L st : List zV) (M : zM) : zEv ph d 11 14 L st M = zcont ph d 11 (zstep ph (zEm ph d) 0 16 0 [20] L st M) := zEv_step rfl
theorem e11_16 (ph : Bool) (d : Nat) (L st : List zV) (M : zM) : zEv ph d 11 16 L st M = zcont ph d 11 (zstep ph (zEm ph d) 51 19 21 [] L st M) := zEv_step rfl
theorem e11_19 (ph : Bool) (d : Nat) (L st : List zV) (M : zM) : zEv ph d 11 19 L st M = zcont ph d 11 (zstep ph (zEm ph d) 0 20 0 [-1] L st M) := zEv_step rfl
theorem e11_20 (ph : Bool) (d : Nat) (L st : List zV) (M : zM) : zEv ph d 11 20 L st M = zcont ph d 11 (zstep ph (zEm ph d) 80 21 0 [] L st M) := zEv_step rfl
theorem e11_21 (ph : Bool) (d : Nat) (L st : List zV) (M : zM) : zEv ph d 11 21 L st M = zcont ph d 11 (zstep ph (zEm ph d) 4 22 0 [0] L st M) := zEv_step rfl
theorem e11_22 (ph : Bool) (d : Nat) (L st : List zV) (M : zM) : zEv ph d 11 22 L st M = zcont ph d 11 (zstep ph (zEm ph d) 62 25 0 [29, 7, 59, 26, 0] L st M) := zEv_step rfl
theorem e11_25 (ph : Bool) (d : Nat) (L st : List zV) (M : zM) : zEv ph d 11 25 L st M = zcont ph d 11 (zstep ph (zEm ph d) 4 26 0 [0] L st M) := zEv_step rfl
theorem e11_26 (ph : Bool) (d : Nat) (L st : List zV) (M : zM) : zEv ph d 11 26 L st M = zcont ph d 11 (zstep ph (zEm ph d) 62 29 0 [29, 3, 37, 26, 0] L st M) := zEv_step rfl
theorem e11_29 (ph : Bool) (d : Nat) (L st : List zV) (M : zM) : zEv ph d 11 29 L st M = zcont ph d 11 (zstep ph (zEm ph d) 70 32 113 [2, 0, 26] L st M) := zEv_step rfl
theorem e11_32 (ph : Bool) (d : Nat) (L st : List zV) (M : zM) : zEv ph d 11 32 L st M = zcont ph d 11 (zstep ph (zEm ph d) 4 33 0 [0] L st M) := zEv_step rfl
theorem e11_33 (ph : Bool) (d : Nat) (L st : List zV) (M : zM) : zEv ph d 11 33 L st M = zcont ph d 11 (zstep ph (zEm ph d) 4 34 0 [0] L st M) := zEv_step rfl
theorem e11_34 (ph : Bool) (d : Nat) (L st : List zV) (M : zM) : zEv ph d 11 34 L st M = zcont ph d 11 (zstep ph (zEm ph d) 62 37 0 [29, 3, 37, 26, 0] L st M) := zEv_step rfl
theorem e11_37 (ph : Bool) (d : Nat) (L st : List zV) (M : zM) : zEv ph d 11 37 L st M = zcont ph d 11 (zstep ph (zEm ph d) 4 38 0 [0] L st M) := zEv_step rfl
theorem e11_38 (ph : Bool) (d : Nat) (L st : List zV) (M : zM) : zEv ph d 11 38 L st M = zcont ph d 11 (zstep ph (zEm ph d) 62 41 0 [29, 2, 30, 28, 0] L st M) := zEv_step rfl
theorem e11_41 (ph : Bool) (d : Nat) (L st : List zV) (M : zM) : zEv ph d 11 41 L st M = zcont ph d 11 (zstep ph (zEm ph d) 2 42 0 [1] L st M) := zEv_step rfl
theorem e11_42 (ph : Bool) (d : Nat) (L st : List zV) (M : zM) : zEv ph d 11 42 L st M = zcont ph d 11 (zstep ph (zEm ph d) 2 43 0 [2] L st M) := zEv_step rfl
theorem e11_43 (ph : Bool) (d : Nat) (L st : List zV) (M : zM) : zEv ph d 11 43 L st M = zcont ph d 11 (zstep ph (zEm ph d) 70 46 124 [4, 1, 26] L st M) := zEv_step rfl
theorem e11_46 (ph : Bool) (d : Nat) (L st : List zV) (M : zM) : zEv ph d 11 46 L st M = zcont ph d 11 (zstep ph (zEm ph d) 70 49 50 [2, 1, 29] L st M) := zEv_step rfl
theorem e11_49 (ph : Bool) (d : Nat) (L st : List zV) (M : zM) : zEv ph d 11 49 L st M = zcont ph d 11 (zstep ph (zEm ph d) 80 50 0 [] L st M) := zEv_step rfl
theorem m12 (ph : Bool) (d : Nat) (a x0 p0 y0 : Int) (M : zM) : zEm ph (d + 1) 12 [(29, a, x0), (0, p0, y0)] M = zEv ph d 12 0 [(29, a, x0), (0, p0, y0)] [] M := rfl
theorem e12_0 (ph : Bool) (d : Nat) (L st : List zV) (M : zM) : zEv ph d 12 0 L st M = zcont ph d 12 (zstep ph (zEm ph d) 4 1 0 [0] L st M) := zEv_step rfl
theorem e12_1 (ph : Bool) (d : Nat) (L st : List zV) (M : zM) : zEv ph d 12 1 L st M = zcont ph d 12 (zstep ph (zEm ph d) 2 2 0 [1] L st M) := zEv_step rfl
theorem e12_2 (ph : Bool) (d : Nat) (L st : List zV) (M : zM) : zEv ph d 12 2 L st M = zcont ph d 12 (zstep ph (zEm ph d) 70 5 46 [2, 1, 29] L st M) := zEv_step rfl
theorem e12_5 (ph : Bool) (d : Nat) (L st : List zV) (M : zM) : zEv ph d 12 5 L st M = zcont ph d 12 (zstep ph (zEm ph d) 41 8 10 [] L st M) := zEv_step rfl
theorem e12_8 (ph : Bool) (d : Nat) (L st : List zV) (M : zM) : zEv ph d 12 8 L st M = zcont ph d 12 (zstep ph (zEm ph d) 0 9 0 [-1] L st M) := zEv_step rfl
theorem e12_9 (ph : Bool) (d : Nat) (L st : List zV) (M : zM) : zEv ph d 12 9 L st M = zcont ph d 12 (zstep ph (zEm ph d) 80 10 0 [] L st M) := zEv_step rfl
theorem e12_10 (ph : Bool) (d : Nat) (L st : List zV) (M : zM) : zEv ph d 12 10 L st M = zcont ph d 12 (zstep ph (zEm ph d) 4 11 0 [0] L st M) := zEv_step rfl
theorem e12_11 (ph : Bool) (d : Nat) (L st : List zV) (M : zM) : zEv ph d 12 11 L st M = zcont ph d 12 (zstep ph (zEm ph d) 62 14 0 [29, 7, 59, 26, 0] L st M) := zEv_step rfl
theorem e12_14 (ph : Bool) (d : Nat) (L st : List zV) (M : zM) : zEv ph d 12 14 L st M = zcont ph d 12 (zstep ph (zEm ph d) 4 15 0 [0] L st M) := zEv_step rfl
theorem e12_15 (ph : Bool) (d : Nat) (L st : List zV) (M : zM) : zEv ph d 12 15 L st M = zcont ph d 12 (zstep ph (zEm ph d) 62 18 0 [29, 3, 37, 26, 0] L st M) := zEv_step rfl
theorem e12_18 (ph : Bool) (d : Nat) (L st : List zV) (M : zM) : zEv ph d 12 18 L st M = zcont ph d 12 (zstep ph (zEm ph d) 70 21 113 [2, 0, 26] L st M) := zEv_step rfl
theorem e12_21 (ph : Bool) (d : Nat) (L st : List zV) (M : zM) : zEv ph d 12 21 L st M = zcont ph d 12 (zstep ph (zEm ph d) 4 22 0 [0] L st M) := zEv_step rfl
theorem e12_22 (ph : Bool) (d : Nat) (L st : List zV) (M : zM) : zEv ph d 12 22 L st M = zcont ph d 12 (zstep ph (zEm ph d) 4 23 0 [0] L st M) := zEv_step rfl
theorem e12_23 (ph : Bool) (d : Nat) (L st : List zV) (M : zM) : zEv ph d 12 23 L st M = zcont ph d 12 (zstep ph (zEm ph d) 62 26 0 [29, 3, 37, 26, 0] L st M) := zEv_step rfl
theorem e12_26 (ph : Bool) (d : Nat) (L st : List zV) (M : zM) : zEv ph d 12 26 L st M = zcont ph d 12 (zstep ph (zEm ph d) 2 27 0 [1] L st M) := zEv_step rfl
theorem e12_27 (ph : Bool) (d : Nat) (L st : List zV) (M : zM) : zEv ph d 12 27 L st M = zcont ph d 12 (zstep ph (zEm ph d) 70 30 125 [2, 1, 26] L st M) := zEv_step rfl
theorem e12_30 (ph : Bool) (d : Nat) (L st : List zV) (M : zM) : zEv ph d 12 30 L st M = zcont ph d 12 (zstep ph (zEm ph d) 70 33 50 [2, 1, 29] L st M) := zEv_step rfl
theorem e12_33 (ph : Bool) (d : Nat) (L st : List zV) (M : zM) : zEv ph d 12 33 L st M = zcont ph d 12 (zstep ph (zEm ph d) 80 34 0 [] L st M) := zEv_step rfl
theorem m13 (ph : Bool) (d : Nat) (a x0 p0 y0 : Int) (M : zM) : zEm ph (d + 1) 13 [(29, a, x0), (0, p0, y0)] M = zEv ph d 13 0 [(29, a, x0), (0, p0, y0)] [] M := rfl
theorem e13_0 (ph : Bool) (d : Nat) (L st : List zV) (M : zM) : zEv ph d 13 0 L st M = zcont ph d 13 (zstep ph (zEm ph d) 4 1 0 [0] L st M) := zEv_step rfl
theorem e13_1 (ph : Bool) (d : Nat) (L st : List zV) (M : zM) : zEv ph d 13 1 L st M = zcont ph d 13 (zstep ph (zEm ph d) 2 2 0 [1] L st M) := zEv_step rfl
theorem e13_2 (ph : Bool) (d : Nat) (L st : List zV) (M : zM) : zEv ph d 13 2 L st M = zcont ph d 13 (zstep ph (zEm ph d) 70 5 46 [2, 1, 29] L st M) := zEv_step rfl
theorem e13_5 (ph : Bool) (d : Nat) (L st : List zV) (M : zM) : zEv ph d 13 5 L st M = zcont ph d 13 (zstep ph (zEm ph d) 41 8 10 [] L st M) := zEv_step rfl
theorem e13_8 (ph : Bool) (d : Nat) (L st : List zV) (M : zM) : zEv ph d 13 8 L st M = zcont ph d 13 (zstep ph (zEm ph d) 0 9 0 [-1] L st M) := zEv_step rfl
theorem e13_9 (ph : Bool) (d : Nat) (L st : List zV) (M : zM) : zEv ph d 13 9 L st M = zcont ph d 13 (zstep ph (zEm ph d) 80 10 0 [] L st M) := zEv_step rfl
theorem e13_10 (ph : Bool) (d : Nat) (L st : List zV) (M : zM) : zEv ph d 13 10 L st M = zcont ph d 13 (zstep ph (zEm ph d) 4 11 0 [0] L st M) := zEv_step rfl
theorem e13_11 (ph : Bool) (d : Nat) (L st : List zV) (M : zM) : zEv ph d 13 11 L st M = zcont ph d 13 (zstep ph (zEm ph d) 62 14 0 [29, 7, 59, 26, 0] L st M) := zEv_step rfl
theorem e13_14 (ph : Bool) (d : Nat) (L st : List zV) (M : zM) : zEv ph d 13 14 L st M = zcont ph d 13 (zstep ph (zEm ph d) 4 15 0 [0] L st M) := zEv_step rfl
theorem e13_15 (ph : Bool) (d : Nat) (L st : List zV) (M : zM) : zEv ph d 13 15 L st M = zcont ph d 13 (zstep ph (zEm ph d) 62 18 0 [29, 3, 37, 26, 0] L st M) := zEv_step rfl
theorem e13_18 (ph : Bool) (d : Nat) (L st : List zV) (M : zM) : zEv ph d 13 18 L st M = zcont ph d 13 (zstep ph (zEm ph d) 70 21 113 [2, 0, 26] L st M) := zEv_step rfl
theorem e13_21 (ph : Bool) (d : Nat) (L st : List zV) (M : zM) : zEv ph d 13 21 L st M = zcont ph d 13 (zstep ph (zEm ph d) 4 22 0 [0] L st M) := zEv_step rfl
theorem e13_22 (ph : Bool) (d : Nat) (L st : List zV) (M : zM) : zEv ph d 13 22 L st M = zcont ph d 13 (zstep ph (zEm ph d) 4 23 0 [0] L st M) := zEv_step rfl
theorem e13_23 (ph : Bool) (d : Nat) (L st : List zV) (M : zM) : zEv ph d 13 23 L st M = zcont ph d 13 (zstep ph (zEm ph d) 62 26 0 [29, 3, 37, 26, 0] L st M) := zEv_step rfl
theorem e13_26 (ph : Bool) (d : Nat) (L st : List zV) (M : zM) : zEv ph d 13 26 L st M = zcont ph d 13 (zstep ph (zEm ph d) 2 27 0 [1] L st M) := zEv_step rfl
theorem e13_27 (ph : Bool) (d : Nat) (L st : List zV) (M : zM) : zEv ph d 13 27 L st M = zcont ph d 13 (zstep ph (zEm ph d) 70 30 126 [2, 1, 26] L st M) := zEv_step rfl
theorem e13_30 (ph : Bool) (d : Nat) (L st : List zV) (M : zM) : zEv ph d 13 30 L st M = zcont ph d 13 (zstep ph (zEm ph d) 70 33 50 [2, 1, 29] L st M) := zEv_step rfl
theorem e13_33 (ph : Bool) (d : Nat) (L st : List zV) (M : zM) : zEv ph d 13 33 L st M = zcont ph d 13 (zstep ph (zEm ph d) 80 34 0 [] L st M) := zEv_step rfl
theorem m14 (ph : Bool) (d : Nat) (a x0 p0 y0 p1 y1 p2 y2 : Int) (M : zM) : zEm ph (d + 1) 14 [(29, a, x0), (0, p0, y0), (0, p1, y1), (0, p2, y2)] M = zEv ph d 14 0 [(29, a, x0), (0, p0, y0), (0, p1, y1), (0, p2, y2)] [] M := rfl
theorem e14_0 (ph : Bool) (d : Nat) (L st : List zV) (M : zM) : zEv ph d 14 0 L st M = zcont ph d 14 (zstep ph (zEm ph d) 4 1 0 [0] L st M) := zEv_step rfl
theorem e14_1 (ph : Bool) (d : Nat) (L st : List zV) (M : zM) : zEv ph d 14 1 L st M = zcont ph d 14 (zstep ph (zEm ph d) 2 2 0 [1] L st M) := zEv_step rfl
theorem e14_2 (ph : Bool) (d : Nat) (L st : List zV) (M : zM) : zEv ph d 14 2 L st M = zcont ph d 14 (zstep ph (zEm ph d) 70 5 46 [2, 1, 29] L st M) := zEv_step rfl
theorem e14_5 (ph : Bool) (d : Nat) (L st : List zV) (M : zM) : zEv ph d 14 5 L st M = zcont ph d 14 (zstep ph (zEm ph d) 40 8 23 [] L st M) := zEv_step rfl
theorem e14_8 (ph : Bool) (d : Nat) (L st : List zV) (M : zM) : zEv ph d 14 8 L st M = zcont ph d 14 (zstep ph (zEm ph d) 4 9 0 [0] L st M) := zEv_step rfl
theorem e14_9 (ph : Bool) (d : Nat) (L st : List zV) (M : zM) : zEv ph d 14 9 L st M = zcont ph d 14 (zstep ph (zEm ph d) 2 10 0 [2] L st M) := zEv_step rfl
theorem e14_10 (ph : Bool) (d : Nat) (L st : List zV) (M : zM) : zEv ph d 14 10 L st M = zcont ph d 14 (zstep ph (zEm ph d) 70 13 47 [2, 1, 29] L st M) := zEv_step rfl
theorem e14_13 (ph : Bool) (d : Nat) (L st : List zV) (M : zM) : zEv ph d 14 13 L st M = zcont ph d 14 (zstep ph (zEm ph d) 40 16 23 [] L st M) := zEv_step rfl
theorem e14_16 (ph : Bool) (d : Nat) (L st : List zV) (M : zM) : zEv ph d 14 16 L st M = zcont ph d 14 (zstep ph (zEm ph d) 2 17 0 [3] L st M) := zEv_step rfl
theorem e14_17 (ph : Bool) (d : Nat) (L st : List zV) (M : zM) : zEv ph d 14 17 L st M = zcont ph d 14 (zstep ph (zEm ph d) 70 20 48 [1, 1, -1] L st M) := zEv_step rfl
theorem e14_20 (ph : Bool) (d : Nat) (L st : List zV) (M : zM) : zEv ph d 14 20 L st M = zcont ph d 14 (zstep ph (zEm ph d) 41 23 25 [] L st M) := zEv_step rfl
theorem e14_23 (ph : Bool) (d : Nat) (L st : List zV) (M : zM) : zEv ph d 14 23 L st M = zcont ph d 14 (zstep ph (zEm ph d) 0 24 0 [-1] L st M) := zEv_step rfl
theorem e14_24 (ph : Bool) (d : Nat) (L st : List zV) (M : zM) : zEv ph d 14 24 L st M = zcont ph d 14 (zstep ph (zEm ph d) 80 25 0 [] L st M) := zEv_step rfl
theorem e14_25 (ph : Bool) (d : Nat) (L st : List zV) (M : zM) : zEv ph d 14 25 L st M = zcont ph d 14 (zstep ph (zEm ph d) 4 26 0 [0] L st M) := zEv_step rfl
theorem e14_26 (ph : Bool) (d : Nat) (L st : List zV) (M : zM) : zEv ph d 14 26 L st M = zcont ph d 14 (zstep ph (zEm ph d) 62 29 0 [29, 7, 59, 26, 0] L st M) := zEv_step rfl
theorem e14_29 (ph : Bool) (d : Nat) (L st : List zV) (M : zM) : zEv ph d 14 29 L st M = zcont ph d 14 (zstep ph (zEm ph d) 4 30 0 [0] L st M) := zEv_step rfl
theorem e14_30 (ph : Bool) (d : Nat) (L st : List zV) (M : zM) : zEv ph d 14 30 L st M = zcont ph d 14 (zstep ph (zEm ph d) 62 33 0 [29, 3, 37, 26, 0] L st M) := zEv_step rfl
theorem e14_33 (ph : Bool) (d : Nat) (L st : List zV) (M : zM) : zEv ph d 14 33 L st M = zcont ph d 14 (zstep ph (zEm ph d) 70 36 113 [2, 0, 26] L st M) := zEv_step rfl
theorem e14_36 (ph : Bool) (d : Nat) (L st : List zV) (M : zM) : zEv ph d 14 36 L st M = zcont ph d 14 (zstep ph (zEm ph d) 4 37 0 [0] L st M) := zEv_step rfl
theorem e14_37 (ph : Bool) (d : Nat) (L st : List zV) (M : zM) : zEv ph d 14 37 L st M = zcont ph d 14 (zstep ph (zEm ph d) 4 38 0 [0] L st M) := zEv_step rfl
theorem e14_38 (ph : Bool) (d : Nat) (L st : List zV) (M : zM) : zEv ph d 14 38 L st M = zcont ph d 14 (zstep ph (zEm ph d) 62 41 0 [29, 3, 37, 26, 0] L st M) := zEv_step rfl
theorem e14_41 (ph : Bool) (d : Nat) (L st : List zV) (M : zM) : zEv ph d 14 41 L st M = zcont ph d 14 (zstep ph (zEm ph d) 2 42 0 [1] L st M) := zEv_step rfl
theorem e14_42 (ph : Bool) (d : Nat) (L st : List zV) (M : zM) : zEv ph d 14 42 L st M = zcont ph d 14 (zstep ph (zEm ph d) 2 43 0 [2] L st M) := zEv_step rfl
theorem e14_43 (ph : Bool) (d : Nat) (L st : List zV) (M : zM) : zEv ph d 14 43 L st M = zcont ph d 14 (zstep ph (zEm ph d) 2 44 0 [3] L st M) := zEv_step rfl
theorem e14_44 (ph : Bool) (d : Nat) (L st : List zV) (M : zM) : zEv ph d 14 44 L st M = zcont ph d 14 (zstep ph (zEm ph d) 70 47 127 [4, 1, 26] L st M) := zEv_step rfl
theorem e14_47 (ph : Bool) (d : Nat) (L st : List zV) (M : zM) : zEv ph d 14 47 L st M = zcont ph d 14 (zstep ph (zEm ph d) 70 50 50 [2, 1, 29] L st M) := zEv_step rfl
theorem e14_50 (ph : Bool) (d : Nat) (L st : List zV) (M : zM) : zEv ph d 14 50 L st M = zcont ph d 14 (zstep ph (zEm ph d) 80 51 0 [] L st M) := zEv_step rfl
theorem m15 (ph : Bool) (d : Nat) (a x0 p0 y0 : Int) (M : zM) : zEm ph (d + 1) 15 [(29, a, x0), (0, p0, y0)] M = zEv ph d 15 0 [(29, a, x0), (0, p0, y0)] [] M := rfl
theorem e15_0 (ph : Bool) (d : Nat) (L st : List zV) (M : zM) : zEv ph d 15 0 L st M = zcont ph d 15 (zstep ph (zEm ph d) 4 1 0 [0] L st M) := zEv_step rfl
theorem e15_1 (ph : Bool) (d : Nat) (L st : List zV) (M : zM) : zEv ph d 15 1 L st M = zcont ph d 15 (zstep ph (zEm ph d) 2 2 0 [1] L st M) := zEv_step rfl
theorem e15_2 (ph : Bool) (d : Nat) (L st : List zV) (M : zM) : zEv ph d 15 2 L st M = zcont ph d 15 (zstep ph (zEm ph d) 70 5 47 [2, 1, 29] L st M) := zEv_step rfl
theorem e15_5 (ph : Bool) (d : Nat) (L st : List zV) (M : zM) : zEv ph d 15 5 L st M = zcont ph d 15 (zstep ph (zEm ph d) 41 8 10 [] L st M) := zEv_step rfl
theorem e15_8 (ph : Bool) (d : Nat) (L st : List zV) (M : zM) : zEv ph d 15 8 L st M = zcont ph d 15 (zstep ph (zEm ph d) 0 9 0 [-1] L st M) := zEv_step rfl
theorem e15_9 (ph : Bool) (d : Nat) (L st : List zV) (M : zM) : zEv ph d 15 9 L st M = zcont ph d 15 (zstep ph (zEm ph d) 80 10 0 [] L st M) := zEv_step rfl
theorem e15_10 (ph : Bool) (d : Nat) (L st : List zV) (M : zM) : zEv ph d 15 10 L st M = zcont ph d 15 (zstep ph (zEm ph d) 4 11 0 [0] L st M) := zEv_step rfl
theorem e15_11 (ph : Bool) (d : Nat) (L st : List zV) (M : zM) : zEv ph d 15 11 L st M = zcont ph d 15 (zstep ph (zEm ph d) 62 14 0 [29, 7, 59, 26, 0] L st M) := zEv_step rfl
theorem e15_14 (ph : Bool) (d : Nat) (L st : List zV) (M : zM) : zEv ph d 15 14 L st M = zcont ph d 15 (zstep ph (zEm ph d) 4 15 0 [0] L st M) := zEv_step rfl
theorem e15_15 (ph : Bool) (d : Nat) (L st : List zV) (M : zM) : zEv ph d 15 15 L st M = zcont ph d 15 (zstep ph (zEm ph d) 62 18 0 [29, 3, 37, 26, 0] L st M) := zEv_step rfl
theorem e15_18 (ph : Bool) (d : Nat) (L st : List zV) (M : zM) : zEv ph d 15 18 L st M = zcont ph d 15 (zstep ph (zEm ph d) 70 21 113 [2, 0, 26] L st M) := zEv_step rfl
theorem e15_21 (ph : Bool) (d : Nat) (L st : List zV) (M : zM) : zEv ph d 15 21 L st M = zcont ph d 15 (zstep ph (zEm ph d) 4 22 0 [0] L st M) := zEv_step rfl
theorem e15_22 (ph : Bool) (d : Nat) (L st : List zV) (M : zM) : zEv ph d 15 22 L st M = zcont ph d 15 (zstep ph (zEm ph d) 4 23 0 [0] L st M) := zEv_step rfl
theorem e15_23 (ph : Bool) (d : Nat) (L st : List zV) (M : zM) : zEv ph d 15 23 L st M = zcont ph d 15 (zstep ph (zEm ph d) 62 26 0 [29, 3, 37, 26, 0] L st M) := zEv_step rfl
theorem e15_26 (ph : Bool) (d : Nat) (L st : List zV) (M : zM) : zEv ph d 15 26 L st M = zcont ph d 15 (zstep ph (zEm ph d) 4 27 0 [0] L st M) := zEv_step rfl
theorem e15_27 (ph : Bool) (d : Nat) (L st : List zV) (M : zM) : zEv ph d 15 27 L st M = zcont ph d 15 (zstep ph (zEm ph d) 62 30 0 [29, 2, 30, 28, 0] L st M) := zEv_step rfl
theorem e15_30 (ph : Bool) (d : Nat) (L st : List zV) (M : zM) : zEv ph d 15 30 L st M = zcont ph d 15 (zstep ph (zEm ph d) 2 31 0 [1] L st M) := zEv_step rfl
theorem e15_31 (ph : Bool) (d : Nat) (L st : List zV) (M : zM) : zEv ph d 15 31 L st M = zcont ph d 15 (zstep ph (zEm ph d) 70 34 129 [3, 1, 26] L st M) := zEv_step rfl
theorem e15_34 (ph : Bool) (d : Nat) (L st : List zV) (M : zM) : zEv ph d 15 34 L st M = zcont ph d 15 (zstep ph (zEm ph d) 70 37 50 [2, 1, 29] L st M) := zEv_step rfl
theorem e15_37 (ph : Bool) (d : Nat) (L st : List zV) (M : zM) : zEv ph d 15 37 L st M = zcont ph d 15 (zstep ph (zEm ph d) 80 38 0 [] L st M) := zEv_step rfl
theorem m16 (ph : Bool) (d : Nat) (a x0 p0 y0 p1 y1 : Int) (M : zM) : zEm ph (d + 1) 16 [(29, a, x0), (0, p0, y0), (0, p1, y1)] M = zEv ph d 16 0 [(29, a, x0), (0, p0, y0), (0, p1, y1)] [] M := rfl
theorem e16_0 (ph : Bool) (d : Nat) (L st : List zV) (M : zM) : zEv ph d 16 0 L st M = zcont ph d 16 (zstep ph (zEm ph d) 2 1 0 [1] L st M) := zEv_step rfl
theorem e16_1 (ph : Bool) (d : Nat) (L st : List zV) (M : zM) : zEv ph d 16 1 L st M = zcont ph d 16 (zstep ph (zEm ph d) 70 4 48 [1, 1, -1] L st M) := zEv_step rfl
theorem e16_4 (ph : Bool) (d : Nat) (L st : List zV) (M : zM) : zEv ph d 16 4 L st M = zcont ph d 16 (zstep ph (zEm ph d) 40 7 17 [] L st M) := zEv_step rfl
theorem e16_7 (ph : Bool) (d : Nat) (L st : List zV) (M : zM) : zEv ph d 16 7 L st M = zcont ph d 16 (zstep ph (zEm ph d) 2 8 0 [2] L st M) := zEv_step rfl
theorem e16_8 (ph : Bool) (d : Nat) (L st : List zV) (M : zM) : zEv ph d 16 8 L st M = zcont ph d 16 (zstep ph (zEm ph d) 42 11 17 [] L st M) := zEv_step rfl
theorem e16_11 (ph : Bool) (d : Nat) (L st : List zV) (M : zM) : zEv ph d 16 11 L st M = zcont ph d 16 (zstep ph (zEm ph d) 2 12 0 [2] L st M) := zEv_step rfl
theorem e16_12 (ph : Bool) (d : Nat) (L st : List zV) (M : zM) : zEv ph d 16 12 L st M = zcont ph d 16 (zstep ph (zEm ph d) 0 14 0 [20] L st M) := zEv_step rfl
theorem e16_14 (ph : Bool) (d : Nat) (L st : List zV) (M : zM) : zEv ph d 16 14 L st M = zcont ph d 16 (zstep ph (zEm ph d) 51 17 19 [] L st M) := zEv_step rfl
theorem e16_17 (ph : Bool) (d : Nat) (L st : List zV) (M : zM) : zEv ph d 16 17 L st M = zcont ph d 16 (zstep ph (zEm ph d) 0 18 0 [-1] L st M) := zEv_step rfl
theorem e16_18 (ph : Bool) (d : Nat) (L st : List zV) (M : zM) : zEv ph d 16 18 L st M = zcont ph d 16 (zstep ph (zEm ph d) 80 19 0 [] L st M) := zEv_step rfl
theorem e16_19 (ph : Bool) (d : Nat) (L st : List zV) (M : zM) : zEv ph d 16 19 L st M = zcont ph d 16 (zstep ph (zEm ph d) 4 20 0 [0] L st M) := zEv_step rfl
theorem e16_20 (ph : Bool) (d : Nat) (L st : List zV) (M : zM) : zEv ph d 16 20 L st M = zcont ph d 16 (zstep ph (zEm ph d) 62 23 0 [29, 7, 59, 26, 0] L st M) := zEv_step rfl
theorem e16_23 (ph : Bool) (d : Nat) (L st : List zV) (M : zM) : zEv ph d 16 23 L st M = zcont ph d 16 (zstep ph (zEm ph d) 4 24 0 [0] L st M) := zEv_step rfl
theorem e16_24 (ph : Bool) (d : Nat) (L st : List zV) (M : zM) : zEv ph d 16 24 L st M = zcont ph d 16 (zstep ph (zEm ph d) 62 27 0 [29, 3, 37, 26, 0] L st M) := zEv_step rfl
theorem e16_27 (ph : Bool) (d : Nat) (L st : List zV) (M : zM) : zEv ph d 16 27 L st M = zcont ph d 16 (zstep ph (zEm ph d) 70 30 113 [2, 0, 26] L st M) := zEv_step rfl
theorem e16_30 (ph : Bool) (d : Nat) (L st : List zV) (M : zM) : zEv ph d 16 30 L st M = zcont ph d 16 (zstep ph (zEm ph d) 4 31 0 [0] L st M) := zEv_step rfl
theorem e16_31 (ph : Bool) (d : Nat) (L st : List zV) (M : zM) : zEv ph d 16 31 L st M = zcont ph d 16 (zstep ph (zEm ph d) 4 32 0 [0] L st M) := zEv_step rfl
theorem e16_32 (ph : Bool) (d : Nat) (L st : List zV) (M : zM) : zEv ph d 16 32 L st M = zcont ph d 16 (zstep ph (zEm ph d) 62 35 0 [29, 3, 37, 26, 0] L st M) := zEv_step rfl
theorem e16_35 (ph : Bool) (d : Nat) (L st : List zV) (M : zM) : zEv ph d 16 35 L st M = zcont ph d 16 (zstep ph (zEm ph d) 2 36 0 [1] L st M) := zEv_step rfl
theorem e16_36 (ph : Bool) (d : Nat) (L st : List zV) (M : zM) : zEv ph d 16 36 L st M = zcont ph d 16 (zstep ph (zEm ph d) 2 37 0 [2] L st M) := zEv_step rfl
theorem e16_37 (ph : Bool) (d : Nat) (L st : List zV) (M : zM) : zEv ph d 16 37 L st M = zcont ph d 16 (zstep ph (zEm ph d) 70 40 131 [3, 1, 26] L st M) := zEv_step rfl
theorem e16_40 (ph : Bool) (d : Nat) (L st : List zV) (M : zM) : zEv ph d 16 40 L st M = zcont ph d 16 (zstep ph (zEm ph d) 70 43 50 [2, 1, 29] L st M) := zEv_step rfl
theorem e16_43 (ph : Bool) (d : Nat) (L st : List zV) (M : zM) : zEv ph d 16 43 L st M = zcont ph d 16 (zstep ph (zEm ph d) 80 44 0 [] L st M) := zEv_step rfl
theorem m17 (ph : Bool) (d : Nat) (a x0 p0 y0 : Int) (M : zM) : zEm ph (d + 1) 17 [(29, a, x0), (0, p0, y0)] M = zEv ph d 17 0 [(29, a, x0), (0, p0, y0)] [] M := rfl
theorem e17_0 (ph : Bool) (d : Nat) (L st : List zV) (M : zM) : zEv ph d 17 0 L st M = zcont ph d 17 (zstep ph (zEm ph d) 2 1 0 [1] L st M) := zEv_step rfl
theorem e17_1 (ph : Bool) (d : Nat) (L st : List zV) (M : zM) : zEv ph d 17 1 L st M = zcont ph d 17 (zstep ph (zEm ph d) 42 4 9 [] L st M) := zEv_step rfl
theorem e17_4 (ph : Bool) (d : Nat) (L st : List zV) (M : zM) : zEv ph d 17 4 L st M = zcont ph d 17 (zstep ph (zEm ph d) 2 5 0 [1] L st M) := zEv_step rfl
theorem e17_5 (ph : Bool) (d : Nat) (L st : List zV) (M : zM) : zEv ph d 17 5 L st M = zcont ph d 17 (zstep ph (zEm ph d) 0 6 0 [2] L st M) := zEv_step rfl
theorem e17_6 (ph : Bool) (d : Nat) (L st : List zV) (M : zM) : zEv ph d 17 6 L st M = zcont ph d 17 (zstep ph (zEm ph d) 51 9 11 [] L st M) := zEv_step rfl
theorem e17_9 (ph : Bool) (d : Nat) (L st : List zV) (M : zM) : zEv ph d 17 9 L st M = zcont ph d 17 (zstep ph (zEm ph d) 0 10 0 [-1] L st M) := zEv_step rfl
theorem e17_10 (ph : Bool) (d : Nat) (L st : List zV) (M : zM) : zEv ph d 17 10 L st M = zcont ph d 17 (zstep ph (zEm ph d) 80 11 0 [] L st M) := zEv_step rfl
theorem e17_11 (ph : Bool) (d : Nat) (L st : List zV) (M : zM) : zEv ph d 17 11 L st M = zcont ph d 17 (zstep ph (zEm ph d) 4 12 0 [0] L st M) := zEv_step rfl
theorem e17_12 (ph : Bool) (d : Nat) (L st : List zV) (M : zM) : zEv ph d 17 12 L st M = zcont ph d 17 (zstep ph (zEm ph d) 62 15 0 [29, 7, 59, 26, 0] L st M) := zEv_step rfl
theorem e17_15 (ph : Bool) (d : Nat) (L st : List zV) (M : zM) : zEv ph d 17 15 L st M = zcont ph d 17 (zstep ph (zEm ph d) 4 16 0 [0] L st M) := zEv_step rfl
theorem e17_16 (ph : Bool) (d : Nat) (L st : List zV) (M : zM) : zEv ph d 17 16 L st M = zcont ph d 17 (zstep ph (zEm ph d) 62 19 0 [29, 3, 37, 26, 0] L st M) := zEv_step rfl
theorem e17_19 (ph : Bool) (d : Nat) (L st : List zV) (M : zM) : zEv ph d 17 19 L st M = zcont ph d 17 (zstep ph (zEm ph d) 70 22 113 [2, 0, 26] L st M) := zEv_step rfl
theorem e17_22 (ph : Bool) (d : Nat) (L st : List zV) (M : zM) : zEv ph d 17 22 L st M = zcont ph d 17 (zstep ph (zEm ph d) 4 23 0 [0] L st M) := zEv_step rfl
theorem e17_23 (ph : Bool) (d : Nat) (L st : List zV) (M : zM) : zEv ph d 17 23 L st M = zcont ph d 17 (zstep ph (zEm ph d) 4 24 0 [0] L st M) := zEv_step rfl
theorem e17_24 (ph : Bool) (d : Nat) (L st : List zV) (M : zM) : zEv ph d 17 24 L st M = zcont ph d 17 (zstep ph (zEm ph d) 62 27 0 [29, 3, 37, 26, 0] L st M) := zEv_step rfl
theorem e17_27 (ph : Bool) (d : Nat) (L st : List zV) (M : zM) : zEv ph d 17 27 L st M = zcont ph d 17 (zstep ph (zEm ph d) 2 28 0 [1] L st M) := zEv_step rfl
theorem e17_28 (ph : Bool) (d : Nat) (L st : List zV) (M : zM) : zEv ph d 17 28 L st M = zcont ph d 17 (zstep ph (zEm ph d) 70 31 132 [2, 1, 26] L st M) := zEv_step rfl
theorem e17_31 (ph : Bool) (d : Nat) (L st : List zV) (M : zM) : zEv ph d 17 31 L st M = zcont ph d 17 (zstep ph (zEm ph d) 70 34 50 [2, 1, 29] L st M) := zEv_step rfl
theorem e17_34 (ph : Bool) (d : Nat) (L st : List zV) (M : zM) : zEv ph d 17 34 L st M = zcont ph d 17 (zstep ph (zEm ph d) 80 35 0 [] L st M) := zEv_step rfl
theorem c_isHand (d : Nat) (x0 h y : Int) (M : zM) : zEm true (d + 1) 46 [(29, 0, x0), (0, h, y)] M = some ((0, if 0 ≤ h ∧ h < M 30 7 then 1 else 0, 0), M) := by
  by_cases c1 : 0 ≤ h
  · by_cases c2 : h < M 30 7
    · simp (disch := first | assumption | exact zrm0 | exact zrm1 _ | exact zrm2 _ _ | exact zrm3 _ _ _ | exact zrm4 _ _ _ _ | omega) only [m46, ↓k_dp, ↓k_dn, k_dp, k_dn, k_dT, k_dF, k_ip, k_in, if_true, if_false, ne_eq, not_true_eq_false, not_false_eq_true, Int.reduceAdd, zup_a, zup_e, zup_j, z32_id, k_il1, k_iflt, k_al0, k_gR, k_gI, k_icge, k_ic, k_goto, k_rz, e46_0, e46_1, e46_4, e46_5, e46_6, e46_9, e46_12, e46_15, e46_16, e46_19, e46_20, if_pos (And.intro c1 c2)]
    · rw [if_neg (fun z => c2 z.2)]
      simp (disch := first | assumption | exact zrm0 | exact zrm1 _ | exact zrm2 _ _ | exact zrm3 _ _ _ | exact zrm4 _ _ _ _ | omega) only [m46, ↓k_dp, ↓k_dn, k_dp, k_dn, k_dT, k_dF, k_ip, k_in, if_true, if_false, ne_eq, not_true_eq_false, not_false_eq_true, Int.reduceAdd, zup_a, zup_e, zup_j, z32_id, k_il1, k_iflt, k_al0, k_gR, k_gI, k_icge, k_ic, k_goto, k_rz, e46_0, e46_1, e46_4, e46_5, e46_6, e46_9, e46_12, e46_15, e46_16, e46_19, e46_20]
  · rw [if_neg (fun z => c1 z.1)]
    simp (disch := first | assumption | exact zrm0 | exact zrm1 _ | exact zrm2 _ _ | exact zrm3 _ _ _ | exact zrm4 _ _ _ _ | omega) only [m46, ↓k_dp, ↓k_dn, k_dp, k_dn, k_dT, k_dF, k_ip, k_in, if_true, if_false, ne_eq, not_true_eq_false, not_false_eq_true, Int.reduceAdd, zup_a, zup_e, zup_j, z32_id, k_il1, k_iflt, k_al0, k_gR, k_gI, k_icge, k_ic, k_goto, k_rz, e46_0, e46_1, e46_4, e46_5, e46_6, e46_9, e46_12, e46_15, e46_16, e46_19, e46_20]
theorem c_isQuestion (d : Nat) (x0 h y : Int) (M : zM) : zEm true (d + 1) 47 [(29, 0, x0), (0, h, y)] M = some ((0, if 0 ≤ h ∧ h < M 30 8 then 1 else 0, 0), M) := by
  by_cases c1 : 0 ≤ h
  · by_cases c2 : h < M 30 8
    · simp (disch := first | assumption | exact zrm0 | exact zrm1 _ | exact zrm2 _ _ | exact zrm3 _ _ _ | exact zrm4 _ _ _ _ | omega) only [m47, ↓k_dp, ↓k_dn, k_dp, k_dn, k_dT, k_dF, k_ip, k_in, if_true, if_false, ne_eq, not_true_eq_false, not_false_eq_true, Int.reduceAdd, zup_a, zup_e, zup_j, z32_id, k_il1, k_iflt, k_al0, k_gR, k_gI, k_icge, k_ic, k_goto, k_rz, e47_0, e47_1, e47_4, e47_5, e47_6, e47_9, e47_12, e47_15, e47_16, e47_19, e47_20, if_pos (And.intro c1 c2)]
    · rw [if_neg (fun z => c2 z.2)]
      simp (disch := first | assumption | exact zrm0 | exact zrm1 _ | exact zrm2 _ _ | exact zrm3 _ _ _ | exact zrm4 _ _ _ _ | omega) only [m47, ↓k_dp, ↓k_dn, k_dp, k_dn, k_dT, k_dF, k_ip, k_in, if_true, if_false, ne_eq, not_true_eq_false, not_false_eq_true, Int.reduceAdd, zup_a, zup_e, zup_j, z32_id, k_il1, k_iflt, k_al0, k_gR, k_gI, k_icge, k_ic, k_goto, k_rz, e47_0, e47_1, e47_4, e47_5, e47_6, e47_9, e47_12, e47_15, e47_16, e47_19, e47_20]
  · rw [if_neg (fun z => c1 z.1)]
    simp (disch := first | assumption | exact zrm0 | exact zrm1 _ | exact zrm2 _ _ | exact zrm3 _ _ _ | exact zrm4 _ _ _ _ | omega) only [m47, ↓k_dp, ↓k_dn, k_dp, k_dn, k_dT, k_dF, k_ip, k_in, if_true, if_false, ne_eq, not_true_eq_false, not_false_eq_true, Int.reduceAdd, zup_a, zup_e, zup_j, z32_id, k_il1, k_iflt, k_al0, k_gR, k_gI, k_icge, k_ic, k_goto, k_rz, e47_0, e47_1, e47_4, e47_5, e47_6, e47_9, e47_12, e47_15, e47_16, e47_19, e47_20]
theorem c_isWay (d : Nat) (w y : Int) (M : zM) : zEm true (d + 1) 48 [(0, w, y)] M = some ((0, if 0 ≤ w ∧ w ≤ 1 then 1 else 0, 0), M) := by
  by_cases c1 : 0 ≤ w ∧ w ≤ 1
  · rw [if_pos c1]
    by_cases c2 : w = 0
    · simp (disch := first | assumption | exact zrm0 | exact zrm1 _ | exact zrm2 _ _ | exact zrm3 _ _ _ | exact zrm4 _ _ _ _ | omega) only [m48, ↓k_dp, ↓k_dn, k_dp, k_dn, k_dT, k_dF, k_ip, k_in, if_true, if_false, ne_eq, not_true_eq_false, not_false_eq_true, Int.reduceAdd, zup_a, zup_e, zup_j, z32_id, k_il0, k_ifeq, k_ic, k_icne, k_goto, k_rz, e48_0, e48_1, e48_4, e48_5, e48_6, e48_9, e48_10, e48_13, e48_14]
    · simp (disch := first | assumption | exact zrm0 | exact zrm1 _ | exact zrm2 _ _ | exact zrm3 _ _ _ | exact zrm4 _ _ _ _ | omega) only [m48, ↓k_dp, ↓k_dn, k_dp, k_dn, k_dT, k_dF, k_ip, k_in, if_true, if_false, ne_eq, not_true_eq_false, not_false_eq_true, Int.reduceAdd, zup_a, zup_e, zup_j, z32_id, k_il0, k_ifeq, k_ic, k_icne, k_goto, k_rz, e48_0, e48_1, e48_4, e48_5, e48_6, e48_9, e48_10, e48_13, e48_14]
  · rw [if_neg c1]
    simp (disch := first | assumption | exact zrm0 | exact zrm1 _ | exact zrm2 _ _ | exact zrm3 _ _ _ | exact zrm4 _ _ _ _ | omega) only [m48, ↓k_dp, ↓k_dn, k_dp, k_dn, k_dT, k_dF, k_ip, k_in, if_true, if_false, ne_eq, not_true_eq_false, not_false_eq_true, Int.reduceAdd, zup_a, zup_e, zup_j, z32_id, k_il0, k_ifeq, k_ic, k_icne, k_goto, k_rz, e48_0, e48_1, e48_4, e48_5, e48_6, e48_9, e48_10, e48_13, e48_14]
theorem c_buy (d : Nat) (x0 h y0 n y1 : Int) (M : zM) (hG : okG (zvG M 30)) (n0 : 0 ≤ M 0 13) (n1 : M 0 13 ≤ 8) (hp : okP M) : (¬ ((0 ≤ h ∧ h < M 30 7) ∧ 1 ≤ n ∧ n ≤ 20) → zEm true (d + 4) 11 [(29, 0, x0), (0, h, y0), (0, n, y1)] M = some ((0, -1, 0), M)) ∧ ((0 ≤ h ∧ h < M 30 7) ∧ 1 ≤ n ∧ n ≤ 20 → (sWhyBuy (zvS M 37) (zvG M 30) h n ≠ 0 → zEm true (d + 4) 11 [(29, 0, x0), (0, h, y0), (0, n, y1)] M = some ((0, sWhyBuy (zvS M 37) (zvG M 30) h n, 0), cpS M 59 37)) ∧ (sWhyBuy (zvS M 37) (zvG M 30) h n = 0 → ∃ M', zEm true (d + 4) 11 [(29, 0, x0), (0, h, y0), (0, n, y1)] M = some ((0, 0, 0), M') ∧ cDone M (tBuy (zvS M 37) (zvG M 30) h n) M')) := by
  obtain ⟨⟨g6, g6'⟩, ⟨g1, g2⟩, ⟨g3, g4⟩, -, -, -, gh, -, -⟩ := okG_M hG
  refine ⟨fun c => ?_, fun hv => ⟨fun c => ?_, fun c => ?_⟩⟩
  · by_cases c1 : 0 ≤ h ∧ h < M 30 7
    · simp (disch := first | assumption | exact zrm0 | exact zrm1 _ | exact zrm2 _ _ | exact zrm3 _ _ _ | exact zrm4 _ _ _ _ | omega) only [m11, ↓k_dp, ↓k_dn, k_dp, k_dn, k_dT, k_dF, k_ip, k_in, if_true, if_false, ne_eq, not_true_eq_false, not_false_eq_true, Int.reduceAdd, zup_a, zup_e, zup_j, z32_id, k_al0, k_il1, k_v2r, k_ifeq, k_il2, k_ic, k_iclt, k_icle, k_ri, k_gR, k_v2, k_v4r, zb0_some, zb1_some, e11_0, e11_1, e11_2, e11_5, e11_8, e11_9, e11_10, e11_13, e11_14, e11_16, e11_19, e11_20, e11_21, e11_22, e11_25, e11_26, e11_29, e11_32, e11_33, e11_34, e11_37, e11_38, e11_41, e11_42, e11_43, e11_46, e11_49, c_isHand, if_pos c1]
      all_goals (split <;> rfl)
    · simp (disch := first | assumption | exact zrm0 | exact zrm1 _ | exact zrm2 _ _ | exact zrm3 _ _ _ | exact zrm4 _ _ _ _ | omega) only [m11, ↓k_dp, ↓k_dn, k_dp, k_dn, k_dT, k_dF, k_ip, k_in, if_true, if_false, ne_eq, not_true_eq_false, not_false_eq_true, Int.reduceAdd, zup_a, zup_e, zup_j, z32_id, k_al0, k_il1, k_v2r, k_ifeq, k_il2, k_ic, k_iclt, k_icle, k_ri, k_gR, k_v2, k_v4r, zb0_some, zb1_some, e11_0, e11_1, e11_2, e11_5, e11_8, e11_9, e11_10, e11_13, e11_14, e11_16, e11_19, e11_20, e11_21, e11_22, e11_25, e11_26, e11_29, e11_32, e11_33, e11_34, e11_37, e11_38, e11_41, e11_42, e11_43, e11_46, e11_49, c_isHand, if_neg c1]
  · obtain ⟨c1, c2, c3⟩ := hv
    simp (disch := first | assumption | exact zrm0 | exact zrm1 _ | exact zrm2 _ _ | exact zrm3 _ _ _ | exact zrm4 _ _ _ _ | omega) only [m11, ↓k_dp, ↓k_dn, k_dp, k_dn, k_dT, k_dF, k_ip, k_in, if_true, if_false, ne_eq, not_true_eq_false, not_false_eq_true, Int.reduceAdd, zup_a, zup_e, zup_j, z32_id, k_al0, k_il1, k_v2r, k_ifeq, k_il2, k_ic, k_iclt, k_icle, k_ri, k_gR, k_v2, k_v4r, zb0_some, zb1_some, e11_0, e11_1, e11_2, e11_5, e11_8, e11_9, e11_10, e11_13, e11_14, e11_16, e11_19, e11_20, e11_21, e11_22, e11_25, e11_26, e11_29, e11_32, e11_33, e11_34, e11_37, e11_38, e11_41, e11_42, e11_43, e11_46, e11_49, c_isHand, if_pos c1, s_copyS, s_buyIrons, zvS_cpo, zvG_cpo, if_neg c, c_not]
  · obtain ⟨M', k1, k2⟩ := c_done d x0 0 M (tBuy (zvS M 37) (zvG M 30) h n) (by obtain ⟨c1, c2, c3⟩ := hv; unfold tBuy; exact zt_up (by unfold sdom; omega) (zt_up (by unfold sdom; omega) zt_v)) n0 n1 hp
    refine ⟨M', ?_, k2⟩
    obtain ⟨c1, c2, c3⟩ := hv
    simp (disch := first | assumption | exact zrm0 | exact zrm1 _ | exact zrm2 _ _ | exact zrm3 _ _ _ | exact zrm4 _ _ _ _ | omega) only [m11, ↓k_dp, ↓k_dn, k_dp, k_dn, k_dT, k_dF, k_ip, k_in, if_true, if_false, ne_eq, not_true_eq_false, not_false_eq_true, Int.reduceAdd, zup_a, zup_e, zup_j, z32_id, k_al0, k_il1, k_v2r, k_ifeq, k_il2, k_ic, k_iclt, k_icle, k_ri, k_gR, k_v2, k_v4r, zb0_some, zb1_some, e11_0, e11_1, e11_2, e11_5, e11_8, e11_9, e11_10, e11_13, e11_14, e11_16, e11_19, e11_20, e11_21, e11_22, e11_25, e11_26, e11_29, e11_32, e11_33, e11_34, e11_37, e11_38, e11_41, e11_42, e11_43, e11_46, e11_49, c_isHand, if_pos c1, s_copyS, s_buyIrons, zvS_cpo, zvG_cpo, c, if_pos c, k1]
theorem c_strike (d : Nat) (x0 h y0 : Int) (M : zM) (hG : okG (zvG M 30)) (n0 : 0 ≤ M 0 13) (n1 : M 0 13 ≤ 8) (hp : okP M) : (¬ (0 ≤ h ∧ h < M 30 7) → zEm true (d + 4) 12 [(29, 0, x0), (0, h, y0)] M = some ((0, -1, 0), M)) ∧ (0 ≤ h ∧ h < M 30 7 → ((if zbit (zvS M 37 0 8) h ≠ 0 then (1 : Int) else 0) ≠ 0 → zEm true (d + 4) 12 [(29, 0, x0), (0, h, y0)] M = some ((0, (if zbit (zvS M 37 0 8) h ≠ 0 then (1 : Int) else 0), 0), cpS M 59 37)) ∧ ((if zbit (zvS M 37 0 8) h ≠ 0 then (1 : Int) else 0) = 0 → ∃ M', zEm true (d + 4) 12 [(29, 0, x0), (0, h, y0)] M = some ((0, 0, 0), M') ∧ cDone M (zup (zvS M 37) 0 8 (zor (zvS M 37 0 8) (zshl 1 h))) M')) := by
  obtain ⟨⟨g6, g6'⟩, ⟨g1, g2⟩, ⟨g3, g4⟩, -, -, -, gh, -, -⟩ := okG_M hG
  refine ⟨fun c => ?_, fun hv => ⟨fun c => ?_, fun c => ?_⟩⟩
  · simp (disch := first | assumption | exact zrm0 | exact zrm1 _ | exact zrm2 _ _ | exact zrm3 _ _ _ | exact zrm4 _ _ _ _ | omega) only [m12, ↓k_dp, ↓k_dn, k_dp, k_dn, k_dT, k_dF, k_ip, k_in, if_true, if_false, ne_eq, not_true_eq_false, not_false_eq_true, Int.reduceAdd, zup_a, zup_e, zup_j, z32_id, k_al0, k_il1, k_v2r, k_ifne, k_ic, k_ri, k_gR, k_v2, zb0_some, zb1_some, e12_0, e12_1, e12_2, e12_5, e12_8, e12_9, e12_10, e12_11, e12_14, e12_15, e12_18, e12_21, e12_22, e12_23, e12_26, e12_27, e12_30, e12_33, c_isHand, if_neg c]
  · by_cases c2 : zbit (zvS M 37 0 8) h = 0
    · exact absurd (if_neg (fun z => z c2)) c
    · rw [if_pos c2]
      simp (disch := first | assumption | exact zrm0 | exact zrm1 _ | exact zrm2 _ _ | exact zrm3 _ _ _ | exact zrm4 _ _ _ _ | omega) only [m12, ↓k_dp, ↓k_dn, k_dp, k_dn, k_dT, k_dF, k_ip, k_in, if_true, if_false, ne_eq, not_true_eq_false, not_false_eq_true, Int.reduceAdd, zup_a, zup_e, zup_j, z32_id, k_al0, k_il1, k_v2r, k_ifne, k_ic, k_ri, k_gR, k_v2, zb0_some, zb1_some, e12_0, e12_1, e12_2, e12_5, e12_8, e12_9, e12_10, e12_11, e12_14, e12_15, e12_18, e12_21, e12_22, e12_23, e12_26, e12_27, e12_30, e12_33, c_isHand, if_pos hv, s_copyS, s_goOnStrike, zvS_cpo, zvG_cpo, c2, c_not]
  · obtain ⟨M', k1, k2⟩ := c_done d x0 0 M (zup (zvS M 37) 0 8 (zor (zvS M 37 0 8) (zshl 1 h))) (zt_up (by unfold sdom; omega) zt_v) n0 n1 hp
    refine ⟨M', ?_, k2⟩
    by_cases c2 : zbit (zvS M 37 0 8) h = 0
    · simp (disch := first | assumption | exact zrm0 | exact zrm1 _ | exact zrm2 _ _ | exact zrm3 _ _ _ | exact zrm4 _ _ _ _ | omega) only [m12, ↓k_dp, ↓k_dn, k_dp, k_dn, k_dT, k_dF, k_ip, k_in, if_true, if_false, ne_eq, not_true_eq_false, not_false_eq_true, Int.reduceAdd, zup_a, zup_e, zup_j, z32_id, k_al0, k_il1, k_v2r, k_ifne, k_ic, k_ri, k_gR, k_v2, zb0_some, zb1_some, e12_0, e12_1, e12_2, e12_5, e12_8, e12_9, e12_10, e12_11, e12_14, e12_15, e12_18, e12_21, e12_22, e12_23, e12_26, e12_27, e12_30, e12_33, c_isHand, if_pos hv, s_copyS, s_goOnStrike, zvS_cpo, zvG_cpo, c2, k1]
    · rw [if_pos c2] at c
      exact absurd c (by decide)
theorem c_work (d : Nat) (x0 h y0 : Int) (M : zM) (hG : okG (zvG M 30)) (n0 : 0 ≤ M 0 13) (n1 : M 0 13 ≤ 8) (hp : okP M) : (¬ (0 ≤ h ∧ h < M 30 7) → zEm true (d + 4) 13 [(29, 0, x0), (0, h, y0)] M = some ((0, -1, 0), M)) ∧ (0 ≤ h ∧ h < M 30 7 → ((if zbit (zvS M 37 0 8) h ≠ 0 then (0 : Int) else 1) ≠ 0 → zEm true (d + 4) 13 [(29, 0, x0), (0, h, y0)] M = some ((0, (if zbit (zvS M 37 0 8) h ≠ 0 then (0 : Int) else 1), 0), cpS M 59 37)) ∧ ((if zbit (zvS M 37 0 8) h ≠ 0 then (0 : Int) else 1) = 0 → ∃ M', zEm true (d + 4) 13 [(29, 0, x0), (0, h, y0)] M = some ((0, 0, 0), M') ∧ cDone M (zup (zvS M 37) 0 8 (zand (zvS M 37 0 8) (zxor (zshl 1 h) (-1)))) M')) := by
  obtain ⟨⟨g6, g6'⟩, ⟨g1, g2⟩, ⟨g3, g4⟩, -, -, -, gh, -, -⟩ := okG_M hG
  refine ⟨fun c => ?_, fun hv => ⟨fun c => ?_, fun c => ?_⟩⟩
  · simp (disch := first | assumption | exact zrm0 | exact zrm1 _ | exact zrm2 _ _ | exact zrm3 _ _ _ | exact zrm4 _ _ _ _ | omega) only [m13, ↓k_dp, ↓k_dn, k_dp, k_dn, k_dT, k_dF, k_ip, k_in, if_true, if_false, ne_eq, not_true_eq_false, not_false_eq_true, Int.reduceAdd, zup_a, zup_e, zup_j, z32_id, k_al0, k_il1, k_v2r, k_ifne, k_ic, k_ri, k_gR, k_v2, zb0_some, zb1_some, e13_0, e13_1, e13_2, e13_5, e13_8, e13_9, e13_10, e13_11, e13_14, e13_15, e13_18, e13_21, e13_22, e13_23, e13_26, e13_27, e13_30, e13_33, c_isHand, if_neg c]
  · by_cases c2 : zbit (zvS M 37 0 8) h = 0
    · rw [if_neg (fun z => z c2)]
      simp (disch := first | assumption | exact zrm0 | exact zrm1 _ | exact zrm2 _ _ | exact zrm3 _ _ _ | exact zrm4 _ _ _ _ | omega) only [m13, ↓k_dp, ↓k_dn, k_dp, k_dn, k_dT, k_dF, k_ip, k_in, if_true, if_false, ne_eq, not_true_eq_false, not_false_eq_true, Int.reduceAdd, zup_a, zup_e, zup_j, z32_id, k_al0, k_il1, k_v2r, k_ifne, k_ic, k_ri, k_gR, k_v2, zb0_some, zb1_some, e13_0, e13_1, e13_2, e13_5, e13_8, e13_9, e13_10, e13_11, e13_14, e13_15, e13_18, e13_21, e13_22, e13_23, e13_26, e13_27, e13_30, e13_33, c_isHand, if_pos hv, s_copyS, s_goToWork, zvS_cpo, zvG_cpo, c2, c_not]
    · exact absurd (if_pos c2) c
  · obtain ⟨M', k1, k2⟩ := c_done d x0 0 M (zup (zvS M 37) 0 8 (zand (zvS M 37 0 8) (zxor (zshl 1 h) (-1)))) (zt_up (by unfold sdom; omega) zt_v) n0 n1 hp
    refine ⟨M', ?_, k2⟩
    by_cases c2 : zbit (zvS M 37 0 8) h = 0
    · rw [if_neg (fun z => z c2)] at c
      exact absurd c (by decide)
    · simp (disch := first | assumption | exact zrm0 | exact zrm1 _ | exact zrm2 _ _ | exact zrm3 _ _ _ | exact zrm4 _ _ _ _ | omega) only [m13, ↓k_dp, ↓k_dn, k_dp, k_dn, k_dT, k_dF, k_ip, k_in, if_true, if_false, ne_eq, not_true_eq_false, not_false_eq_true, Int.reduceAdd, zup_a, zup_e, zup_j, z32_id, k_al0, k_il1, k_v2r, k_ifne, k_ic, k_ri, k_gR, k_v2, zb0_some, zb1_some, e13_0, e13_1, e13_2, e13_5, e13_8, e13_9, e13_10, e13_11, e13_14, e13_15, e13_18, e13_21, e13_22, e13_23, e13_26, e13_27, e13_30, e13_33, c_isHand, if_pos hv, s_copyS, s_goToWork, zvS_cpo, zvG_cpo, c2, k1]
theorem zt_sway {S : zM} {h q w : Int} (hS : zt S = S) (q0 : 0 ≤ q) (q1 : q < 5) : zt (tSway S h q w) = tSway S h q w := by
  unfold tSway
  split <;> exact zt_up (by unfold sdom; omega) (zt_up (by unfold sdom; omega) hS)
theorem c_sway (d : Nat) (x0 h y0 q y1 w y2 : Int) (M : zM) (hG : okG (zvG M 30)) (n0 : 0 ≤ M 0 13) (n1 : M 0 13 ≤ 8) (hp : okP M) : (¬ ((0 ≤ h ∧ h < M 30 7) ∧ (0 ≤ q ∧ q < M 30 8) ∧ (0 ≤ w ∧ w ≤ 1)) → zEm true (d + 5) 14 [(29, 0, x0), (0, h, y0), (0, q, y1), (0, w, y2)] M = some ((0, -1, 0), M)) ∧ ((0 ≤ h ∧ h < M 30 7) ∧ (0 ≤ q ∧ q < M 30 8) ∧ (0 ≤ w ∧ w ≤ 1) → (sWhySway (zvS M 37) h q w ≠ 0 → zEm true (d + 5) 14 [(29, 0, x0), (0, h, y0), (0, q, y1), (0, w, y2)] M = some ((0, sWhySway (zvS M 37) h q w, 0), cpS M 59 37)) ∧ (sWhySway (zvS M 37) h q w = 0 → ∃ M', zEm true (d + 5) 14 [(29, 0, x0), (0, h, y0), (0, q, y1), (0, w, y2)] M = some ((0, 0, 0), M') ∧ cDone M (tSway (zvS M 37) h q w) M')) := by
  obtain ⟨⟨g6, g6'⟩, ⟨g1, g2⟩, ⟨g3, g4⟩, -, -, -, gh, -, -⟩ := okG_M hG
  refine ⟨fun c => ?_, fun hv => ⟨fun c => ?_, fun c => ?_⟩⟩
  · by_cases c1 : 0 ≤ h ∧ h < M 30 7
    · by_cases c2 : 0 ≤ q ∧ q < M 30 8
      · have c3 : ¬ (0 ≤ w ∧ w ≤ 1) := fun z => c ⟨c1, c2, z⟩
        simp (disch := first | assumption | exact zrm0 | exact zrm1 _ | exact zrm2 _ _ | exact zrm3 _ _ _ | exact zrm4 _ _ _ _ | omega) only [m14, ↓k_dp, ↓k_dn, k_dp, k_dn, k_dT, k_dF, k_ip, k_in, if_true, if_false, ne_eq, not_true_eq_false, not_false_eq_true, Int.reduceAdd, zup_a, zup_e, zup_j, z32_id, k_al0, k_il1, k_v2r, k_ifeq, k_il2, k_il3, k_s1r, k_ifne, k_ic, k_ri, k_gR, k_v2, k_v4r, zb0_some, zb1_some, e14_0, e14_1, e14_2, e14_5, e14_8, e14_9, e14_10, e14_13, e14_16, e14_17, e14_20, e14_23, e14_24, e14_25, e14_26, e14_29, e14_30, e14_33, e14_36, e14_37, e14_38, e14_41, e14_42, e14_43, e14_44, e14_47, e14_50, c_isHand, c_isQuestion, c_isWay, if_pos c1, if_pos c2, if_neg c3]
      · simp (disch := first | assumption | exact zrm0 | exact zrm1 _ | exact zrm2 _ _ | exact zrm3 _ _ _ | exact zrm4 _ _ _ _ | omega) only [m14, ↓k_dp, ↓k_dn, k_dp, k_dn, k_dT, k_dF, k_ip, k_in, if_true, if_false, ne_eq, not_true_eq_false, not_false_eq_true, Int.reduceAdd, zup_a, zup_e, zup_j, z32_id, k_al0, k_il1, k_v2r, k_ifeq, k_il2, k_il3, k_s1r, k_ifne, k_ic, k_ri, k_gR, k_v2, k_v4r, zb0_some, zb1_some, e14_0, e14_1, e14_2, e14_5, e14_8, e14_9, e14_10, e14_13, e14_16, e14_17, e14_20, e14_23, e14_24, e14_25, e14_26, e14_29, e14_30, e14_33, e14_36, e14_37, e14_38, e14_41, e14_42, e14_43, e14_44, e14_47, e14_50, c_isHand, c_isQuestion, if_pos c1, if_neg c2]
    · simp (disch := first | assumption | exact zrm0 | exact zrm1 _ | exact zrm2 _ _ | exact zrm3 _ _ _ | exact zrm4 _ _ _ _ | omega) only [m14, ↓k_dp, ↓k_dn, k_dp, k_dn, k_dT, k_dF, k_ip, k_in, if_true, if_false, ne_eq, not_true_eq_false, not_false_eq_true, Int.reduceAdd, zup_a, zup_e, zup_j, z32_id, k_al0, k_il1, k_v2r, k_ifeq, k_il2, k_il3, k_s1r, k_ifne, k_ic, k_ri, k_gR, k_v2, k_v4r, zb0_some, zb1_some, e14_0, e14_1, e14_2, e14_5, e14_8, e14_9, e14_10, e14_13, e14_16, e14_17, e14_20, e14_23, e14_24, e14_25, e14_26, e14_29, e14_30, e14_33, e14_36, e14_37, e14_38, e14_41, e14_42, e14_43, e14_44, e14_47, e14_50, c_isHand, if_neg c1]
  · obtain ⟨c1, c2, c3⟩ := hv
    simp (disch := first | assumption | exact zrm0 | exact zrm1 _ | exact zrm2 _ _ | exact zrm3 _ _ _ | exact zrm4 _ _ _ _ | omega) only [m14, ↓k_dp, ↓k_dn, k_dp, k_dn, k_dT, k_dF, k_ip, k_in, if_true, if_false, ne_eq, not_true_eq_false, not_false_eq_true, Int.reduceAdd, zup_a, zup_e, zup_j, z32_id, k_al0, k_il1, k_v2r, k_ifeq, k_il2, k_il3, k_s1r, k_ifne, k_ic, k_ri, k_gR, k_v2, k_v4r, zb0_some, zb1_some, e14_0, e14_1, e14_2, e14_5, e14_8, e14_9, e14_10, e14_13, e14_16, e14_17, e14_20, e14_23, e14_24, e14_25, e14_26, e14_29, e14_30, e14_33, e14_36, e14_37, e14_38, e14_41, e14_42, e14_43, e14_44, e14_47, e14_50, c_isHand, c_isQuestion, c_isWay, if_pos c1, if_pos c2, if_pos c3, s_copyS, s_swayHand, zvS_cpo, zvG_cpo, if_neg c, c_not]
  · obtain ⟨M', k1, k2⟩ := c_done (d + 1) x0 0 M (tSway (zvS M 37) h q w) (zt_sway zt_v (by omega) (by omega)) n0 n1 hp
    refine ⟨M', ?_, k2⟩
    obtain ⟨c1, c2, c3⟩ := hv
    simp (disch := first | assumption | exact zrm0 | exact zrm1 _ | exact zrm2 _ _ | exact zrm3 _ _ _ | exact zrm4 _ _ _ _ | omega) only [m14, ↓k_dp, ↓k_dn, k_dp, k_dn, k_dT, k_dF, k_ip, k_in, if_true, if_false, ne_eq, not_true_eq_false, not_false_eq_true, Int.reduceAdd, zup_a, zup_e, zup_j, z32_id, k_al0, k_il1, k_v2r, k_ifeq, k_il2, k_il3, k_s1r, k_ifne, k_ic, k_ri, k_gR, k_v2, k_v4r, zb0_some, zb1_some, e14_0, e14_1, e14_2, e14_5, e14_8, e14_9, e14_10, e14_13, e14_16, e14_17, e14_20, e14_23, e14_24, e14_25, e14_26, e14_29, e14_30, e14_33, e14_36, e14_37, e14_38, e14_41, e14_42, e14_43, e14_44, e14_47, e14_50, c_isHand, c_isQuestion, c_isWay, if_pos c1, if_pos c2, if_pos c3, s_copyS, s_swayHand, zvS_cpo, zvG_cpo, c, if_pos c, k1]
theorem s_put (d : Nat) (a x0 l x1 q y : Int) (M : zM) (ha : 0 ≤ a) (sep : l + 7 ≤ a ∨ a + 9 ≤ l) (hG : okG (zvG M l)) (q0 : 0 ≤ q) (q1 : q < 5) : zEm true (d + 4) 129 [(26, a, x0), (28, l, x1), (0, q, y)] M = some ((0, sWhyPut (zvS M a) (zvG M l) q, 0), if sWhyPut (zvS M a) (zvG M l) q = 0 then zput M a (tPut (zvS M a) (zvG M l) q) else M) := by
  have := s_put0 d a x0 l x1 q y M (zvS M a) zt_v ha sep hG q0 q1
  rw [zput_self] at this
  rw [this]
  split
  · rfl
  · rw [zput_self]
theorem c_put (d : Nat) (x0 q y0 : Int) (M : zM) (hG : okG (zvG M 30)) (n0 : 0 ≤ M 0 13) (n1 : M 0 13 ≤ 8) (hp : okP M) : (¬ (0 ≤ q ∧ q < M 30 8) → zEm true (d + 6) 15 [(29, 0, x0), (0, q, y0)] M = some ((0, -1, 0), M)) ∧ (0 ≤ q ∧ q < M 30 8 → (sWhyPut (zvS M 37) (zvG M 30) q ≠ 0 → zEm true (d + 6) 15 [(29, 0, x0), (0, q, y0)] M = some ((0, sWhyPut (zvS M 37) (zvG M 30) q, 0), cpS M 59 37)) ∧ (sWhyPut (zvS M 37) (zvG M 30) q = 0 → ∃ M', zEm true (d + 6) 15 [(29, 0, x0), (0, q, y0)] M = some ((0, 0, 0), M') ∧ cDone M (tPut (zvS M 37) (zvG M 30) q) M')) := by
  obtain ⟨⟨g6, g6'⟩, ⟨g1, g2⟩, ⟨g3, g4⟩, -, -, -, gh, -, -⟩ := okG_M hG
  refine ⟨fun c => ?_, fun hv => ⟨fun c => ?_, fun c => ?_⟩⟩
  · simp (disch := first | assumption | exact zrm0 | exact zrm1 _ | exact zrm2 _ _ | exact zrm3 _ _ _ | exact zrm4 _ _ _ _ | omega) only [m15, ↓k_dp, ↓k_dn, k_dp, k_dn, k_dT, k_dF, k_ip, k_in, if_true, if_false, ne_eq, not_true_eq_false, not_false_eq_true, Int.reduceAdd, zup_a, zup_e, zup_j, z32_id, k_al0, k_il1, k_v2r, k_ifne, k_ic, k_ri, k_gR, k_v2, k_v3r, zb0_some, zb1_some, e15_0, e15_1, e15_2, e15_5, e15_8, e15_9, e15_10, e15_11, e15_14, e15_15, e15_18, e15_21, e15_22, e15_23, e15_26, e15_27, e15_30, e15_31, e15_34, e15_37, c_isQuestion, if_neg c]
  · have hG2 : okG (zvG (cpS M 59 37) 30) := by rw [zvG_cpo (by omega)]; exact hG
    simp (disch := first | assumption | exact zrm0 | exact zrm1 _ | exact zrm2 _ _ | exact zrm3 _ _ _ | exact zrm4 _ _ _ _ | omega) only [m15, ↓k_dp, ↓k_dn, k_dp, k_dn, k_dT, k_dF, k_ip, k_in, if_true, if_false, ne_eq, not_true_eq_false, not_false_eq_true, Int.reduceAdd, zup_a, zup_e, zup_j, z32_id, k_al0, k_il1, k_v2r, k_ifne, k_ic, k_ri, k_gR, k_v2, k_v3r, zb0_some, zb1_some, e15_0, e15_1, e15_2, e15_5, e15_8, e15_9, e15_10, e15_11, e15_14, e15_15, e15_18, e15_21, e15_22, e15_23, e15_26, e15_27, e15_30, e15_31, e15_34, e15_37, c_isQuestion, if_pos hv, s_copyS, s_put, zvS_cpo, zvG_cpo, if_neg c, c_not]
  · obtain ⟨M', k1, k2⟩ := c_done (d + 2) x0 0 M (tPut (zvS M 37) (zvG M 30) q) (zt_put zt_v (by omega) (by omega) hG.2.1) n0 n1 hp
    refine ⟨M', ?_, k2⟩
    have hG2 : okG (zvG (cpS M 59 37) 30) := by rw [zvG_cpo (by omega)]; exact hG
    simp (disch := first | assumption | exact zrm0 | exact zrm1 _ | exact zrm2 _ _ | exact zrm3 _ _ _ | exact zrm4 _ _ _ _ | omega) only [m15, ↓k_dp, ↓k_dn, k_dp, k_dn, k_dT, k_dF, k_ip, k_in, if_true, if_false, ne_eq, not_true_eq_false, not_false_eq_true, Int.reduceAdd, zup_a, zup_e, zup_j, z32_id, k_al0, k_il1, k_v2r, k_ifne, k_ic, k_ri, k_gR, k_v2, k_v3r, zb0_some, zb1_some, e15_0, e15_1, e15_2, e15_5, e15_8, e15_9, e15_10, e15_11, e15_14, e15_15, e15_18, e15_21, e15_22, e15_23, e15_26, e15_27, e15_30, e15_31, e15_34, e15_37, c_isQuestion, if_pos hv, s_copyS, s_put, zvS_cpo, zvG_cpo, c, if_pos c, k1]
theorem c_lay (d : Nat) (x0 w y0 n y1 : Int) (M : zM) (hG : okG (zvG M 30)) (n0 : 0 ≤ M 0 13) (n1 : M 0 13 ≤ 8) (hp : okP M) : (¬ ((0 ≤ w ∧ w ≤ 1) ∧ 0 ≤ n ∧ n ≤ 20) → zEm true (d + 4) 16 [(29, 0, x0), (0, w, y0), (0, n, y1)] M = some ((0, -1, 0), M)) ∧ ((0 ≤ w ∧ w ≤ 1) ∧ 0 ≤ n ∧ n ≤ 20 → ((if zvS M 37 8 w = n then (1 : Int) else 0) ≠ 0 → zEm true (d + 4) 16 [(29, 0, x0), (0, w, y0), (0, n, y1)] M = some ((0, (if zvS M 37 8 w = n then (1 : Int) else 0), 0), cpS M 59 37)) ∧ ((if zvS M 37 8 w = n then (1 : Int) else 0) = 0 → ∃ M', zEm true (d + 4) 16 [(29, 0, x0), (0, w, y0), (0, n, y1)] M = some ((0, 0, 0), M') ∧ cDone M (zup (zvS M 37) 8 w n) M')) := by
  obtain ⟨⟨g6, g6'⟩, ⟨g1, g2⟩, ⟨g3, g4⟩, -, -, -, gh, -, -⟩ := okG_M hG
  refine ⟨fun c => ?_, fun hv => ⟨fun c => ?_, fun c => ?_⟩⟩
  · by_cases c1 : 0 ≤ w ∧ w ≤ 1
    · simp (disch := first | assumption | exact zrm0 | exact zrm1 _ | exact zrm2 _ _ | exact zrm3 _ _ _ | exact zrm4 _ _ _ _ | omega) only [m16, ↓k_dp, ↓k_dn, k_dp, k_dn, k_dT, k_dF, k_ip, k_in, if_true, if_false, ne_eq, not_true_eq_false, not_false_eq_true, Int.reduceAdd, zup_a, zup_e, zup_j, z32_id, k_il1, k_s1r, k_ifeq, k_il2, k_iflt, k_ic, k_icle, k_ri, k_al0, k_gR, k_v2, k_v3r, k_v2r, zb0_some, zb1_some, e16_0, e16_1, e16_4, e16_7, e16_8, e16_11, e16_12, e16_14, e16_17, e16_18, e16_19, e16_20, e16_23, e16_24, e16_27, e16_30, e16_31, e16_32, e16_35, e16_36, e16_37, e16_40, e16_43, c_isWay, if_pos c1]
      all_goals (split <;> rfl)
    · simp (disch := first | assumption | exact zrm0 | exact zrm1 _ | exact zrm2 _ _ | exact zrm3 _ _ _ | exact zrm4 _ _ _ _ | omega) only [m16, ↓k_dp, ↓k_dn, k_dp, k_dn, k_dT, k_dF, k_ip, k_in, if_true, if_false, ne_eq, not_true_eq_false, not_false_eq_true, Int.reduceAdd, zup_a, zup_e, zup_j, z32_id, k_il1, k_s1r, k_ifeq, k_il2, k_iflt, k_ic, k_icle, k_ri, k_al0, k_gR, k_v2, k_v3r, k_v2r, zb0_some, zb1_some, e16_0, e16_1, e16_4, e16_7, e16_8, e16_11, e16_12, e16_14, e16_17, e16_18, e16_19, e16_20, e16_23, e16_24, e16_27, e16_30, e16_31, e16_32, e16_35, e16_36, e16_37, e16_40, e16_43, c_isWay, if_neg c1]
  · obtain ⟨c1, c3, c4⟩ := hv
    by_cases c2 : zvS M 37 8 w = n
    · rw [if_pos c2]
      simp (disch := first | assumption | exact zrm0 | exact zrm1 _ | exact zrm2 _ _ | exact zrm3 _ _ _ | exact zrm4 _ _ _ _ | omega) only [m16, ↓k_dp, ↓k_dn, k_dp, k_dn, k_dT, k_dF, k_ip, k_in, if_true, if_false, ne_eq, not_true_eq_false, not_false_eq_true, Int.reduceAdd, zup_a, zup_e, zup_j, z32_id, k_il1, k_s1r, k_ifeq, k_il2, k_iflt, k_ic, k_icle, k_ri, k_al0, k_gR, k_v2, k_v3r, k_v2r, zb0_some, zb1_some, e16_0, e16_1, e16_4, e16_7, e16_8, e16_11, e16_12, e16_14, e16_17, e16_18, e16_19, e16_20, e16_23, e16_24, e16_27, e16_30, e16_31, e16_32, e16_35, e16_36, e16_37, e16_40, e16_43, c_isWay, if_pos c1, s_copyS, s_laySand, zvS_cpo, zvG_cpo, if_pos c2, c_not]
    · exact absurd (if_neg c2) c
  · obtain ⟨M', k1, k2⟩ := c_done d x0 0 M (zup (zvS M 37) 8 w n) (zt_up (by unfold sdom; omega) zt_v) n0 n1 hp
    refine ⟨M', ?_, k2⟩
    obtain ⟨c1, c3, c4⟩ := hv
    by_cases c2 : zvS M 37 8 w = n
    · rw [if_pos c2] at c
      exact absurd c (by decide)
    · simp (disch := first | assumption | exact zrm0 | exact zrm1 _ | exact zrm2 _ _ | exact zrm3 _ _ _ | exact zrm4 _ _ _ _ | omega) only [m16, ↓k_dp, ↓k_dn, k_dp, k_dn, k_dT, k_dF, k_ip, k_in, if_true, if_false, ne_eq, not_true_eq_false, not_false_eq_true, Int.reduceAdd, zup_a, zup_e, zup_j, z32_id, k_il1, k_s1r, k_ifeq, k_il2, k_iflt, k_ic, k_icle, k_ri, k_al0, k_gR, k_v2, k_v3r, k_v2r, zb0_some, zb1_some, e16_0, e16_1, e16_4, e16_7, e16_8, e16_11, e16_12, e16_14, e16_17, e16_18, e16_19, e16_20, e16_23, e16_24, e16_27, e16_30, e16_31, e16_32, e16_35, e16_36, e16_37, e16_40, e16_43, c_isWay, if_pos c1, s_copyS, s_laySand, zvS_cpo, zvG_cpo, if_neg c2, k1]
theorem c_weather (d : Nat) (x0 k y0 : Int) (M : zM) (hG : okG (zvG M 30)) (n0 : 0 ≤ M 0 13) (n1 : M 0 13 ≤ 8) (hp : okP M) : (¬ (0 ≤ k ∧ k ≤ 2) → zEm true (d + 4) 17 [(29, 0, x0), (0, k, y0)] M = some ((0, -1, 0), M)) ∧ (0 ≤ k ∧ k ≤ 2 → ((if zvS M 37 0 9 = k then (1 : Int) else 0) ≠ 0 → zEm true (d + 4) 17 [(29, 0, x0), (0, k, y0)] M = some ((0, (if zvS M 37 0 9 = k then (1 : Int) else 0), 0), cpS M 59 37)) ∧ ((if zvS M 37 0 9 = k then (1 : Int) else 0) = 0 → ∃ M', zEm true (d + 4) 17 [(29, 0, x0), (0, k, y0)] M = some ((0, 0, 0), M') ∧ cDone M (zup (zvS M 37) 0 9 k) M')) := by
  obtain ⟨⟨g6, g6'⟩, ⟨g1, g2⟩, ⟨g3, g4⟩, -, -, -, gh, -, -⟩ := okG_M hG
  refine ⟨fun c => ?_, fun hv => ⟨fun c => ?_, fun c => ?_⟩⟩
  · simp (disch := first | assumption | exact zrm0 | exact zrm1 _ | exact zrm2 _ _ | exact zrm3 _ _ _ | exact zrm4 _ _ _ _ | omega) only [m17, ↓k_dp, ↓k_dn, k_dp, k_dn, k_dT, k_dF, k_ip, k_in, if_true, if_false, ne_eq, not_true_eq_false, not_false_eq_true, Int.reduceAdd, zup_a, zup_e, zup_j, z32_id, k_il1, k_iflt, k_ic, k_icle, k_ri, k_al0, k_gR, k_v2, k_v2r, zb0_some, zb1_some, e17_0, e17_1, e17_4, e17_5, e17_6, e17_9, e17_10, e17_11, e17_12, e17_15, e17_16, e17_19, e17_22, e17_23, e17_24, e17_27, e17_28, e17_31, e17_34, if_true]
    all_goals (split <;> rfl)
  · by_cases c2 : zvS M 37 0 9 = k
    · rw [if_pos c2]
      simp (disch := first | assumption | exact zrm0 | exact zrm1 _ | exact zrm2 _ _ | exact zrm3 _ _ _ | exact zrm4 _ _ _ _ | omega) only [m17, ↓k_dp, ↓k_dn, k_dp, k_dn, k_dT, k_dF, k_ip, k_in, if_true, if_false, ne_eq, not_true_eq_false, not_false_eq_true, Int.reduceAdd, zup_a, zup_e, zup_j, z32_id, k_il1, k_iflt, k_ic, k_icle, k_ri, k_al0, k_gR, k_v2, k_v2r, zb0_some, zb1_some, e17_0, e17_1, e17_4, e17_5, e17_6, e17_9, e17_10, e17_11, e17_12, e17_15, e17_16, e17_19, e17_22, e17_23, e17_24, e17_27, e17_28, e17_31, e17_34, s_copyS, s_turnWeather, zvS_cpo, zvG_cpo, if_pos c2, c_not]
    · exact absurd (if_neg c2) c
  · obtain ⟨M', k1, k2⟩ := c_done d x0 0 M (zup (zvS M 37) 0 9 k) (zt_up (by unfold sdom; omega) zt_v) n0 n1 hp
    refine ⟨M', ?_, k2⟩
    by_cases c2 : zvS M 37 0 9 = k
    · rw [if_pos c2] at c
      exact absurd c (by decide)
    · simp (disch := first | assumption | exact zrm0 | exact zrm1 _ | exact zrm2 _ _ | exact zrm3 _ _ _ | exact zrm4 _ _ _ _ | omega) only [m17, ↓k_dp, ↓k_dn, k_dp, k_dn, k_dT, k_dF, k_ip, k_in, if_true, if_false, ne_eq, not_true_eq_false, not_false_eq_true, Int.reduceAdd, zup_a, zup_e, zup_j, z32_id, k_il1, k_iflt, k_ic, k_icle, k_ri, k_al0, k_gR, k_v2, k_v2r, zb0_some, zb1_some, e17_0, e17_1, e17_4, e17_5, e17_6, e17_9, e17_10, e17_11, e17_12, e17_15, e17_16, e17_19, e17_22, e17_23, e17_24, e17_27, e17_28, e17_31, e17_34, s_copyS, s_turnWeather, zvS_cpo, zvG_cpo, if_neg c2, k1]
