/-! the agenda: the pair -/
theorem m257 (ph : Bool) (d : Nat) (a x0 : Int) (M : zM) : zEm ph (d + 1) 257 [(30, a, x0)] M = zEv ph d 257 0 [(30, a, x0), (3, 0, 0)] [] M := rfl
theorem e257_0 (ph : Bool) (d : Nat) (L st : List zV) (M : zM) : zEv ph d 257 0 L st M = zcont ph d 257 (zstep ph (zEm ph d) 4 1 0 [0] L st M) := zEv_step rfl
theorem e257_1 (ph : Bool) (d : Nat) (L st : List zV) (M : zM) : zEv ph d 257 1 L st M = zcont ph d 257 (zstep ph (zEm ph d) 0 2 0 [0] L st M) := zEv_step rfl
theorem e257_2 (ph : Bool) (d : Nat) (L st : List zV) (M : zM) : zEv ph d 257 2 L st M = zcont ph d 257 (zstep ph (zEm ph d) 65 5 0 [30, 0] L st M) := zEv_step rfl
theorem e257_5 (ph : Bool) (d : Nat) (L st : List zV) (M : zM) : zEv ph d 257 5 L st M = zcont ph d 257 (zstep ph (zEm ph d) 4 6 0 [0] L st M) := zEv_step rfl
theorem e257_6 (ph : Bool) (d : Nat) (L st : List zV) (M : zM) : zEv ph d 257 6 L st M = zcont ph d 257 (zstep ph (zEm ph d) 62 9 0 [30, 14, 2, 10, 368] L st M) := zEv_step rfl
theorem e257_9 (ph : Bool) (d : Nat) (L st : List zV) (M : zM) : zEv ph d 257 9 L st M = zcont ph d 257 (zstep ph (zEm ph d) 0 11 0 [76] L st M) := zEv_step rfl
theorem e257_11 (ph : Bool) (d : Nat) (L st : List zV) (M : zM) : zEv ph d 257 11 L st M = zcont ph d 257 (zstep ph (zEm ph d) 85 12 0 [] L st M) := zEv_step rfl
theorem e257_12 (ph : Bool) (d : Nat) (L st : List zV) (M : zM) : zEv ph d 257 12 L st M = zcont ph d 257 (zstep ph (zEm ph d) 5 13 0 [1] L st M) := zEv_step rfl
theorem e257_13 (ph : Bool) (d : Nat) (L st : List zV) (M : zM) : zEv ph d 257 13 L st M = zcont ph d 257 (zstep ph (zEm ph d) 4 14 0 [0] L st M) := zEv_step rfl
theorem e257_14 (ph : Bool) (d : Nat) (L st : List zV) (M : zM) : zEv ph d 257 14 L st M = zcont ph d 257 (zstep ph (zEm ph d) 62 17 0 [30, 14, 2, 10, 368] L st M) := zEv_step rfl
theorem e257_17 (ph : Bool) (d : Nat) (L st : List zV) (M : zM) : zEv ph d 257 17 L st M = zcont ph d 257 (zstep ph (zEm ph d) 0 19 0 [76] L st M) := zEv_step rfl
theorem e257_19 (ph : Bool) (d : Nat) (L st : List zV) (M : zM) : zEv ph d 257 19 L st M = zcont ph d 257 (zstep ph (zEm ph d) 0 20 0 [0] L st M) := zEv_step rfl
theorem e257_20 (ph : Bool) (d : Nat) (L st : List zV) (M : zM) : zEv ph d 257 20 L st M = zcont ph d 257 (zstep ph (zEm ph d) 89 21 0 [] L st M) := zEv_step rfl
theorem e257_21 (ph : Bool) (d : Nat) (L st : List zV) (M : zM) : zEv ph d 257 21 L st M = zcont ph d 257 (zstep ph (zEm ph d) 4 22 0 [0] L st M) := zEv_step rfl
theorem e257_22 (ph : Bool) (d : Nat) (L st : List zV) (M : zM) : zEv ph d 257 22 L st M = zcont ph d 257 (zstep ph (zEm ph d) 0 23 0 [-1] L st M) := zEv_step rfl
theorem e257_23 (ph : Bool) (d : Nat) (L st : List zV) (M : zM) : zEv ph d 257 23 L st M = zcont ph d 257 (zstep ph (zEm ph d) 65 26 0 [30, 34] L st M) := zEv_step rfl
theorem e257_26 (ph : Bool) (d : Nat) (L st : List zV) (M : zM) : zEv ph d 257 26 L st M = zcont ph d 257 (zstep ph (zEm ph d) 4 27 0 [0] L st M) := zEv_step rfl
theorem e257_27 (ph : Bool) (d : Nat) (L st : List zV) (M : zM) : zEv ph d 257 27 L st M = zcont ph d 257 (zstep ph (zEm ph d) 4 28 0 [0] L st M) := zEv_step rfl
theorem e257_28 (ph : Bool) (d : Nat) (L st : List zV) (M : zM) : zEv ph d 257 28 L st M = zcont ph d 257 (zstep ph (zEm ph d) 0 29 0 [0] L st M) := zEv_step rfl
theorem e257_29 (ph : Bool) (d : Nat) (L st : List zV) (M : zM) : zEv ph d 257 29 L st M = zcont ph d 257 (zstep ph (zEm ph d) 70 32 221 [2, 1, 30] L st M) := zEv_step rfl
theorem e257_32 (ph : Bool) (d : Nat) (L st : List zV) (M : zM) : zEv ph d 257 32 L st M = zcont ph d 257 (zstep ph (zEm ph d) 70 35 170 [1, 1, -1] L st M) := zEv_step rfl
theorem e257_35 (ph : Bool) (d : Nat) (L st : List zV) (M : zM) : zEv ph d 257 35 L st M = zcont ph d 257 (zstep ph (zEm ph d) 65 38 0 [30, 33] L st M) := zEv_step rfl
theorem e257_38 (ph : Bool) (d : Nat) (L st : List zV) (M : zM) : zEv ph d 257 38 L st M = zcont ph d 257 (zstep ph (zEm ph d) 4 39 0 [0] L st M) := zEv_step rfl
theorem e257_39 (ph : Bool) (d : Nat) (L st : List zV) (M : zM) : zEv ph d 257 39 L st M = zcont ph d 257 (zstep ph (zEm ph d) 0 40 0 [0] L st M) := zEv_step rfl
theorem e257_40 (ph : Bool) (d : Nat) (L st : List zV) (M : zM) : zEv ph d 257 40 L st M = zcont ph d 257 (zstep ph (zEm ph d) 4 41 0 [0] L st M) := zEv_step rfl
theorem e257_41 (ph : Bool) (d : Nat) (L st : List zV) (M : zM) : zEv ph d 257 41 L st M = zcont ph d 257 (zstep ph (zEm ph d) 0 42 0 [0] L st M) := zEv_step rfl
theorem e257_42 (ph : Bool) (d : Nat) (L st : List zV) (M : zM) : zEv ph d 257 42 L st M = zcont ph d 257 (zstep ph (zEm ph d) 70 45 221 [2, 1, 30] L st M) := zEv_step rfl
theorem e257_45 (ph : Bool) (d : Nat) (L st : List zV) (M : zM) : zEv ph d 257 45 L st M = zcont ph d 257 (zstep ph (zEm ph d) 0 46 0 [0] L st M) := zEv_step rfl
theorem e257_46 (ph : Bool) (d : Nat) (L st : List zV) (M : zM) : zEv ph d 257 46 L st M = zcont ph d 257 (zstep ph (zEm ph d) 70 49 256 [4, 0, 30] L st M) := zEv_step rfl
theorem e257_49 (ph : Bool) (d : Nat) (L st : List zV) (M : zM) : zEv ph d 257 49 L st M = zcont ph d 257 (zstep ph (zEm ph d) 4 50 0 [0] L st M) := zEv_step rfl
theorem e257_50 (ph : Bool) (d : Nat) (L st : List zV) (M : zM) : zEv ph d 257 50 L st M = zcont ph d 257 (zstep ph (zEm ph d) 62 53 0 [30, 14, 2, 10, 368] L st M) := zEv_step rfl
theorem e257_53 (ph : Bool) (d : Nat) (L st : List zV) (M : zM) : zEv ph d 257 53 L st M = zcont ph d 257 (zstep ph (zEm ph d) 0 55 0 [76] L st M) := zEv_step rfl
theorem e257_55 (ph : Bool) (d : Nat) (L st : List zV) (M : zM) : zEv ph d 257 55 L st M = zcont ph d 257 (zstep ph (zEm ph d) 2 56 0 [1] L st M) := zEv_step rfl
theorem e257_56 (ph : Bool) (d : Nat) (L st : List zV) (M : zM) : zEv ph d 257 56 L st M = zcont ph d 257 (zstep ph (zEm ph d) 89 57 0 [] L st M) := zEv_step rfl
theorem e257_57 (ph : Bool) (d : Nat) (L st : List zV) (M : zM) : zEv ph d 257 57 L st M = zcont ph d 257 (zstep ph (zEm ph d) 4 58 0 [0] L st M) := zEv_step rfl
theorem e257_58 (ph : Bool) (d : Nat) (L st : List zV) (M : zM) : zEv ph d 257 58 L st M = zcont ph d 257 (zstep ph (zEm ph d) 60 61 0 [30, 34] L st M) := zEv_step rfl
theorem e257_61 (ph : Bool) (d : Nat) (L st : List zV) (M : zM) : zEv ph d 257 61 L st M = zcont ph d 257 (zstep ph (zEm ph d) 80 62 0 [] L st M) := zEv_step rfl
theorem updB_ge {b : Int × List Int} {v : Int} {p : List Int} : b.1 ≤ (updB b v p).1 ∧ v ≤ (updB b v p).1 := by
  unfold updB
  split
  · exact ⟨by show b.1 ≤ v; omega, Int.le_refl _⟩
  · omega
theorem bestL_mono {G S : zM} {c : Int} {P : List Int} : ∀ (ps : List (List Int)) (b : Int × List Int), b.1 ≤ (bestL G S c P b ps).1
  | [], b => Int.le_refl _
  | p :: ps, b => by
    rw [bestL_cons]
    exact Int.le_trans updB_ge.1 (bestL_mono ps _)
theorem bestL_pos {G S : zM} {P : List Int} {b : Int × List Int} : ∀ {ps : List (List Int)}, ps ≠ [] → 0 ≤ (bestL G S 0 P b ps).1
  | [], h => absurd rfl h
  | p :: ps, _ => by
    rw [bestL_cons]
    have h1 := (updB_ge (b := b) (v := 0 + sVal G S p) (p := P ++ p)).2
    have h2 := bestL_mono (G := G) (S := S) (c := 0) (P := P) ps (updB b (0 + sVal G S p) (P ++ p))
    have h3 := (sVal_bd (G := G) p S).1
    omega
theorem zpR_back {N B : zM} {y : Int} (h : 75 ≤ y) (h2 : y ≤ 125) (h3 : y ≠ 78) : zpR N (zrS B) 199 y = B 199 y := by
  have hd : rdom 199 y := by unfold rdom; omega
  obtain ⟨h4, h5⟩ := rdom_s hd
  unfold zpR
  rw [zif_t hd, zrS_r h4, h5]
theorem sThose_09 {S G : zM} {v how : Int} : sThose (zup S 0 9 v) G how = sThose S G how := by
  unfold sThose
  exact zit_congr _ _ _ (fun k b _ _ => by rw [zup_a (by omega)])
theorem r_agenda (d : Nat) (z0 : Int) (B : zM) (hS : okS (zrS B)) (hG : okG (zrG B)) (m : Int) (hm : m = sThose (zrS B) (zrG B) 0) (m0 : 0 ≤ m) (m1 : m < 32) (hb : ∀ r, 0 ≤ r → r < 5 → zbit m r ≠ 0 → r < B 199 2) : ∃ N', zEm true (d + 18) 257 [(30, 197, z0)] B = some ((0, (bestL (zrG B) (zup (zrS B) 0 9 0) 0 [] (-1, []) (permsM (pM m).toNat m)).1, 0), N') ∧ N' 197 33 = pM m ∧ (0 ≤ (bestL (zrG B) (zup (zrS B) 0 9 0) 0 [] (-1, []) (permsM (pM m).toNat m)).1 → ((bestL (zrG B) (zup (zrS B) 0 9 0) 0 [] (-1, []) (permsM (pM m).toNat m)).2.length : Int) = pM m ∧ zIs (N' 212) (bestL (zrG B) (zup (zrS B) 0 9 0) 0 [] (-1, []) (permsM (pM m).toNat m)).2) ∧ ∀ x y, ¬ (x = 211 ∨ x = 212 ∨ x = 213 ∨ (x = 197 ∧ (y = 0 ∨ y = 33 ∨ y = 34))) → N' x y = B x y := by
  have hk := chkM_t m0 m1
  unfold chkM at hk
  simp only [Bool.and_eq_true, Bool.or_eq_true, decide_eq_true_eq] at hk
  obtain ⟨⟨⟨⟨⟨⟨-, k4⟩, k5⟩, k6⟩, -⟩, -⟩, -⟩ := hk
  obtain ⟨T, hT⟩ : ∃ T, T = zup (zrS B) 0 9 0 := ⟨_, rfl⟩
  have hTS : okS T := by rw [hT]; exact okS_u09 hS (Int.le_refl _) (by omega)
  have hTz : zt T = T := by rw [hT]; exact zt_up (by unfold sdom; omega) zt_r
  obtain ⟨C, hC⟩ : ∃ C, C = zup (zup B 197 0 0) 197 34 (-1) := ⟨_, rfl⟩
  have e1 : zup (zup (zup B 197 0 0) 199 76 0) 197 34 (-1) = zpR C T := by
    have : zup (zup B 197 0 0) 199 76 0 = zpR (zup B 197 0 0) (zup (zrS (zup B 197 0 0)) 0 9 0) := zup_pR (by unfold sdom; omega) (by unfold rix; simp)
    rw [this, zpR_uo (by omega), rT_S, ← hT, hC]
  have eCG : zrG C = zrG B := by rw [hC, zrG_out (Or.inl (by omega)), zrG_out (Or.inl (by omega))]
  have hth := r_those (d + 16) z0 0 0 (zpR C T) (by rw [zrG_pR, eCG]; exact hG)
  rw [zrS_pR, hTz, zrG_pR, eCG, hT, sThose_09, ← hm, ← hT] at hth
  have hbt := r_bits (d + 16) m 0 (zpR C T) m0 (by omega)
  rw [k6] at hbt
  obtain ⟨N, hN⟩ : ∃ N, N = zup C 197 33 (pM m) := ⟨_, rfl⟩
  have e2 : zup (zpR C T) 197 33 (pM m) = zpR N T := by rw [zpR_uo (by omega), hN]
  have eNG : zrG N = zrG B := by rw [hN, zrG_out (Or.inl (by omega))]; exact eCG
  have hth2 := r_those (d + 16) z0 0 0 (zpR N T) (by rw [zrG_pR, eNG]; exact hG)
  rw [zrS_pR, hTz, zrG_pR, eNG, hT, sThose_09, ← hm, ← hT] at hth2
  have hN34 : N 197 34 = -1 := by rw [hN, hC, zup_j (by omega), zup_e (by omega)]
  obtain ⟨A, a1, a2, a3, a4, a5⟩ := r_agP (G := zrG B) (tot := pM m) (pM m).toNat (d + 17) z0 0 0 m 0 0 0 [] T N (-1, []) (by omega) eNG hG hTS hTz (Int.le_refl _) (by omega) k5 m0 m1 (by omega) (fun r r0 r1 hr => by
    have : N 199 2 = B 199 2 := by rw [hN, hC, zup_a (by omega), zup_a (by omega), zup_a (by omega)]
    rw [this]; exact hb r r0 r1 hr) (Int.le_refl _) (Int.le_refl _) rfl (fun i i0 i1 => by simp at i1; omega) ⟨hN34, Int.le_refl _, fun h => absurd h (by decide)⟩
  rw [hT] at a2
  obtain ⟨a21, a22, a23⟩ := a2
  have eB : zup T 0 9 (B 199 76) = zrS B := by
    rw [hT]
    funext i j
    by_cases c : i = 0 ∧ j = 9
    · rw [c.1, c.2, zup_e (by omega), zrS_09]
    · unfold zup
      rw [if_neg (fun z => c ⟨z.1, z.2.1⟩), if_neg (fun z => c ⟨z.1, z.2.1⟩)]
  have hA34 : A 197 34 = (bestL (zrG B) (zup (zrS B) 0 9 0) 0 [] (-1, []) (permsM (pM m).toNat m)).1 := a21
  generalize bestL (zrG B) (zup (zrS B) 0 9 0) 0 [] (-1, []) (permsM (pM m).toNat m) = b at a21 a22 a23 hA34 ⊢
  have hB76 : zup B 197 0 0 199 76 = B 199 76 := zup_a (by omega)
  refine ⟨zpR A (zrS B), ?_, ?_, fun h => ?_, fun x y h => ?_⟩
  · generalize b.1 = bb at *
    generalize pM m = pm at *
    simp (disch := first | assumption | exact zrm0 | exact zrm1 _ | exact zrm2 _ _ | exact zrm3 _ _ _ | exact zrm4 _ _ _ _ | omega) only [m257, ↓k_dp, ↓k_dn, k_dp, k_dn, k_dT, k_dF, k_ip, k_in, if_true, if_false, ne_eq, not_true_eq_false, not_false_eq_true, Int.reduceAdd, zup_a, zup_e, zup_j, z32_id, k_al0, k_ic, k_pI, k_gR, k_ild, k_ildS, k_ildW, k_is1, k_ist, k_v2r, k_s1r, k_v4, k_il1, k_gI, k_ri, zb0_some, zb1_some, e257_0, e257_1, e257_2, e257_5, e257_6, e257_9, e257_11, e257_12, e257_13, e257_14, e257_17, e257_19, e257_20, e257_21, e257_22, e257_23, e257_26, e257_27, e257_28, e257_29, e257_32, e257_35, e257_38, e257_39, e257_40, e257_41, e257_42, e257_45, e257_46, e257_49, e257_50, e257_53, e257_55, e257_56, e257_57, e257_58, e257_61, hB76, e1, hth, hbt, e2, hth2, a1, zpR_u09, eB, zpR_o, hA34]
  · rw [zpR_o (by omega), a5 _ _ (by unfold zFG; omega), hN, zup_e (by omega)]
  · obtain ⟨h1, h2⟩ := a23 h
    exact ⟨h1, fun i i0 i1 => by rw [zpR_o (by omega)]; exact h2 i i0 i1⟩
  · by_cases hd : x = 199 ∧ 75 ≤ y ∧ y ≤ 125 ∧ y ≠ 78
    · rw [hd.1]; exact zpR_back hd.2.1 hd.2.2.1 hd.2.2.2
    · rw [zpR_o (by omega), a5 x y (by unfold zFG; omega), hN, hC]
      unfold zup
      rw [if_neg (by omega), if_neg (by omega), if_neg (by omega)]
def thoseB (g : Int) (n : Int) : Bool := ([0, 1, 2, 3, 4] : List Int).all fun r => decide (zbit g r = 0) || decide (r < n)
theorem those_bit {S : zM} {how : Int} : ∀ (j : Nat) (q v : Int), 0 ≤ q → q + j ≤ 5 → 0 ≤ v → v < 2 ^ q.toNat → ∀ m, m = zit (fun q v => if S 5 q = how then zor v (zshl 1 q) else v) j q v → 0 ≤ m ∧ m < 2 ^ (q + j).toNat
  | 0, q, v, q0, q1, v0, v1, m, hm => by
    have : m = v := hm
    rw [this]
    simpa using ⟨v0, v1⟩
  | j + 1, q, v, q0, q1, v0, v1, m, hm => by
    have e1 : (q + 1).toNat = q.toNat + 1 := by omega
    have e2 : q + ((j + 1 : Nat) : Int) = q + 1 + (j : Int) := by omega
    have ha := (addM_t (q := q) v0 v1 q0 (by omega)).1
    rw [e2]
    rw [zit] at hm
    by_cases c : S 5 q = how
    · rw [if_pos c] at hm
      exact those_bit j (q + 1) _ (by omega) (by omega) ha.1 (by rw [e1]; exact ha.2) m hm
    · rw [if_neg c] at hm
      exact those_bit j (q + 1) v (by omega) (by omega) v0 (by rw [e1, Int.pow_succ]; omega) m hm
def bitN (m : Int) : Bool := ([0, 1, 2, 3, 4] : List Int).all fun n => decide ((2 : Int) ^ n.toNat ≤ m) || ([0, 1, 2, 3, 4] : List Int).all fun r => decide (zbit m r = 0) || decide (r < n)
theorem bitN_all : ((List.range 32).all fun m => bitN m) = true := by decide +kernel
theorem bitN_t {m n r : Int} (m0 : 0 ≤ m) (n0 : 0 ≤ n) (n1 : n ≤ 5) (m1 : m < 2 ^ n.toNat) (r0 : 0 ≤ r) (r1 : r < 5) (h : zbit m r ≠ 0) : r < n := by
  by_cases c : n = 5
  · omega
  · have hm : m < 32 := by
      rcases (show n = 0 ∨ n = 1 ∨ n = 2 ∨ n = 3 ∨ n = 4 by omega) with rfl | rfl | rfl | rfl | rfl <;> simp at m1 <;> omega
    have := bitN_all
    rw [List.all_eq_true] at this
    have := this m.toNat (List.mem_range.mpr (by omega))
    rw [Int.toNat_of_nonneg m0] at this
    unfold bitN at this
    simp only [Bool.or_eq_true, decide_eq_true_eq, List.all_eq_true] at this
    have hmem : ∀ t : Int, 0 ≤ t → t < 5 → t ∈ ([0, 1, 2, 3, 4] : List Int) := fun t t0 t1 => by
      rcases (show t = 0 ∨ t = 1 ∨ t = 2 ∨ t = 3 ∨ t = 4 by omega) with rfl | rfl | rfl | rfl | rfl <;> simp
    rcases this n (hmem n n0 (by omega)) with h1 | h1
    · omega
    · exact (h1 r (hmem r r0 r1)).resolve_left h
theorem pair_agenda (d : Nat) (x0 z0 : Int) (M : zM) (hC : relC M) (hE : relE M) (hH : relH M) : zPairH M (zEm true (d + 18) 29 [(29, 0, x0)] M) (fun M1 => zEm true (d + 18) 257 [(30, 197, z0)] M1) := by
  obtain ⟨n0, n1, n2, n3, n4, n5⟩ := relC_n hC
  obtain ⟨⟨g6, g6'⟩, ⟨g1, g2⟩, ⟨g3, g4⟩, -⟩ := okG_M hC.2
  obtain ⟨A, m, b, a1, a2, a3, a4, a5, a6, a7⟩ := c_agenda (d + 9) x0 M hC.2
  have e199 : ∀ y, A 199 y = M 199 y := fun y => a7 _ _ (by omega)
  have eS : zrS A = zvS M 37 := by rw [zrS_eq (fun y _ _ _ => e199 y)]; exact hE.1
  have eG : zrG A = zvG M 30 := by rw [zrG_eq (fun y _ _ => e199 y)]; exact hC.1
  have hm5 : 0 ≤ m ∧ m < 2 ^ (M 30 8).toNat := by
    unfold sThose at a1
    rw [zvG_0 (by omega) (by omega)] at a1
    have := those_bit (M 30 8).toNat 0 0 (Int.le_refl _) (by omega) (Int.le_refl _) (by decide) m a1
    rwa [show (0 + ((M 30 8).toNat : Int)).toNat = (M 30 8).toNat by omega] at this
  obtain ⟨N, b1, b2, b3, b4⟩ := r_agenda d z0 A (by rw [eS]; exact hE.2.1.1) (by rw [eG]; exact hC.2) m (by rw [eS, eG]; exact a1) a2.1 a2.2 (fun r r0 r1 hr => by
    rw [e199, n2]
    exact bitN_t hm5.1 g3 g4 hm5.2 r0 r1 hr)
  rw [eS, eG, ← a3] at b1 b3
  have hk := chkM_t a2.1 a2.2
  unfold chkM at hk
  simp only [Bool.and_eq_true, Bool.or_eq_true, decide_eq_true_eq] at hk
  obtain ⟨⟨⟨⟨⟨⟨⟨⟨-, -⟩, k3⟩, k4⟩, k5⟩, -⟩, -⟩, -⟩, -⟩ := hk
  have hpos : 0 ≤ b.1 := by
    rw [a3]
    refine bestL_pos (fun h => ?_)
    rw [h] at k3
    cases k3
  obtain ⟨b31, b32⟩ := b3 hpos
  obtain ⟨a51, a52⟩ := a5.2 hpos
  have fr : ∀ x y, ¬ (x = 80 ∨ x = 53 ∨ (68 ≤ x ∧ x ≤ 76) ∨ (x = 51 ∧ y = 6)) → ¬ (x = 211 ∨ x = 212 ∨ x = 213 ∨ (x = 197 ∧ (y = 0 ∨ y = 33 ∨ y = 34))) → N x y = M x y := fun x y h1 h2 => by rw [b4 x y h2, a7 x y h1]
  refine ⟨b.1, A, N, a4, b1, ?_, fun x y h => fr x y (by unfold zFH at h; omega) (by unfold zFH at h; omega)⟩
  obtain ⟨h1, h2, h3, ⟨h4, h5, h6⟩, -, h8, h9, h10, h11, h12⟩ := hH
  have e51 : ∀ y, y ≠ 6 → N 51 y = M 51 y := fun y h => fr _ _ (by omega) (by omega)
  have e197 : ∀ y, y ≠ 0 → y ≠ 33 → y ≠ 34 → N 197 y = M 197 y := fun y h1 h2 h3 => fr _ _ (by omega) (by omega)
  have e516 : N 51 6 = pM m := by rw [b4 _ _ (by omega)]; exact a6
  unfold relH
  rw [e516, b2]
  simp (disch := omega) only [e51, e197]
  refine ⟨h1, h2, h3, ⟨h4, h5, fun h p0 p1 => ?_⟩, ⟨⟨k4, k5⟩, trivial, fun k p0 p1 => ?_⟩, h8, h9, h10, h11, fun hx => ?_⟩
  · rw [fr _ _ (by omega) (by omega), fr _ _ (by omega) (by omega)]; exact h6 h p0 p1
  · rw [b32 k p0 (by omega), b4 _ _ (by omega), a52 k p0 (by omega)]
  · rw [fr _ _ (by omega) (by omega), fr _ _ (by omega) (by omega), fr _ _ (by omega) (by omega), fr _ _ (by omega) (by omega)]; exact h12 hx
