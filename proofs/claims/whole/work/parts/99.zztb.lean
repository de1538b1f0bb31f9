/-! what the answers are made of doesn't see the rows; queries on the empty valley -/
theorem relEs_r {M : zM} (hE : relEs M) {i y : Int} (h : sdom i y) (h6 : i ≠ 6) (h7 : i ≠ 7) : M 199 (rix i y) = M (37 + i) y := by
  have e : zrS M i y = sgS (zvS M 37) i y := by rw [hE.1]
  rw [sg_o h6 h7, zrS_r h] at e
  rw [e]
  unfold zvS
  rw [zif_t h]
theorem relEs_d {M : zM} (hE : relEs M) : M 199 75 = M 37 10 := relEs_r hE (i := 0) (y := 10) (by unfold sdom; omega) (by decide) (by decide)
theorem sHn_sg {S G : zM} {h w m : Int} : sHn (sgS S) G h w m = sHn S G h w m := by
  unfold sHn
  rw [sg_o (by decide) (by decide), sg_o (by decide) (by decide), sg_o (by decide) (by decide), sg_o (by decide) (by decide)]
theorem sSum_sg {S G : zM} {g w : Int} : sSum (sgS S) G g w = sSum S G g w := by
  unfold sSum
  simp only [sHn_sg]
theorem sWay_sg {S G : zM} {g w : Int} : sWay (sgS S) G g w = sWay S G g w := by
  unfold sWay
  simp only [sSum_sg]
theorem sThose_sg {S G : zM} {k : Int} : sThose (sgS S) G k = sThose S G k := by
  unfold sThose
  have e : ∀ q, sgS S 5 q = S 5 q := fun q => sg_o (by decide) (by decide)
  simp only [e]
theorem sThose_0 {S G : zM} {k : Int} (h : G 0 8 = 0) : sThose S G k = 0 := by
  unfold sThose
  rw [h]
  rfl
theorem hR_sg {S G : zM} {a b : Int} : hR (sgS S) G a b = hR S G a b := by
  funext s p
  unfold hR
  simp only [sWay_sg]
theorem bestL_00 {S G : zM} : bestL G S 0 [] (-1, []) (permsM (pM 0).toNat 0) = (0, []) := by
  rw [show permsM (pM 0).toNat 0 = [[]] from by decide +kernel]
  rfl
theorem leafV_sg {S G : zM} {a b c h : Int} : leafV (sgS S) G a b c h = leafV S G a b c h := by
  unfold leafV
  have e0 : ∀ q, sgS S 0 q = S 0 q := fun q => sg_o (by decide) (by decide)
  have e1 : ∀ q, sgS S 1 q = S 1 q := fun q => sg_o (by decide) (by decide)
  have e2 : ∀ q, sgS S 2 q = S 2 q := fun q => sg_o (by decide) (by decide)
  have e3 : ∀ q, sgS S 3 q = S 3 q := fun q => sg_o (by decide) (by decide)
  have e4 : ∀ q, sgS S 4 q = S 4 q := fun q => sg_o (by decide) (by decide)
  simp only [e0, e1, e2, e3, e4]
theorem holdV_sg {S G : zM} {R : Int → Int} {h : Int} : ∀ {n : Nat} {k : Int}, holdV (sgS S) G R h n k = holdV S G R h n k
  | 0, _ => rfl
  | n + 1, k => by
    unfold holdV
    simp only [leafV_sg, holdV_sg (n := n)]
theorem zt_sg {S : zM} (h : zt S = S) : zt (sgS S) = sgS S := by
  funext i y
  have hS : zt S i y = S i y := by rw [h]
  unfold zt at hS ⊢
  by_cases hd : sdom i y
  · rw [zif_t hd]
  · rw [zif_f hd] at hS ⊢
    unfold sgS
    rw [zif_f (fun z => hd (by unfold sdom; omega))]
    exact hS
theorem okD_sg {S G : zM} (h : okD S G) (hr : ∀ k, 0 ≤ k → k < 5 → S 5 k = 0) : okD (sgS S) G := by
  obtain ⟨h1, h2, h3, h4⟩ := h
  refine ⟨zt_sg h1, okS_sg h2, fun k k0 k1 => ?_, fun k k0 k1 hk => ?_⟩
  · rw [sg_o (by decide) (by decide), sg_o (by decide) (by decide)]
    exact h3 k k0 k1
  · rw [sg_o (by decide) (by decide)] at hk
    exact absurd (hr k k0 k1) hk
theorem tPay_sg {S G : zM} (h : G 0 7 = 0) : tPay S G = S := by
  unfold tPay
  rw [h]
  rfl
theorem tDay2_sg {S G : zM} (h : G 0 7 = 0) : tDay2 (sgS S) G = sgS (tDay2 S G) := by
  unfold tDay2
  rw [tPay_sg h, tPay_sg h, sg_up (by decide) (by decide), sg_up (by decide) (by decide), sg_o (by decide) (by decide)]
theorem tDays_sg {G : zM} (h : G 0 7 = 0) : ∀ {m : Nat} {S : zM}, tDays G m (sgS S) = sgS (tDays G m S)
  | 0, _ => rfl
  | m + 1, S => by
    rw [tDays_succ, tDays_succ, tDay2_sg h, tDays_sg h]
theorem tDays_row {G : zM} (h : G 0 7 = 0) : ∀ {m : Nat} {S : zM}, (∀ k, 0 ≤ k → k < 5 → S 5 k = 0) → ∀ k, 0 ≤ k → k < 5 → tDays G m S 5 k = 0
  | 0, _, hS => hS
  | m + 1, S, hS => by
    rw [tDays_succ]
    refine tDays_row h (fun k k0 k1 => ?_)
    unfold tDay2
    rw [tPay_sg h, zup_a (by omega), zup_a (by omega)]
    exact hS k k0 k1
