/-! what holds between the class and the reference: states, snaps -/
def zfl (b : Bool) : Int := if b = true then 1 else 0
def okP (M : zM) : Prop := (∀ i, 0 ≤ i → i < 8 → 81 ≤ M 77 i ∧ M 77 i ≤ 144 ∧ (M 77 i - 81) % 9 = 0) ∧ (∀ i j, 0 ≤ i → i < j → j < 8 → M 77 i ≠ M 77 j)
noncomputable def zsS (M : zM) (o : Int) : zM := fun i y => zif (sdom i y) (M 202 (o + (rix i y - 75))) 0
theorem rix_bd {i y : Int} (h : sdom i y) : 75 ≤ rix i y ∧ rix i y ≤ 125 ∧ rix i y ≠ 78 := by
  have := (rix_dom h).1
  unfold rdom at this
  omega
theorem zsS_eq {M M' : zM} {o : Int} (h : ∀ y, o ≤ y → y < o + 51 → M' 202 y = M 202 y) : zsS M' o = zsS M o := by
  funext i y
  unfold zsS
  by_cases hd : sdom i y
  · have := rix_bd hd
    rw [zif_t hd, zif_t hd, h _ (by omega) (by omega)]
  · rw [zif_f hd, zif_f hd]
theorem zrS_eq {M M' : zM} (h : ∀ y, 75 ≤ y → y ≤ 125 → y ≠ 78 → M' 199 y = M 199 y) : zrS M' = zrS M := by
  funext i y
  unfold zrS
  by_cases hd : sdom i y
  · have := rix_bd hd
    rw [zif_t hd, zif_t hd, h _ (by omega) (by omega) (by omega)]
  · rw [zif_f hd, zif_f hd]
theorem gix_bd {n i y : Int} (h : gdom n i y) : 0 ≤ gix i y ∧ gix i y < 75 := by
  unfold gdom at h
  unfold gix
  split <;> (try split) <;> (try split) <;> (try split) <;> omega
theorem zrG_eq {M M' : zM} (h : ∀ y, 0 ≤ y → y < 75 → M' 199 y = M 199 y) : zrG M' = zrG M := by
  have e : M' 199 1 = M 199 1 := h 1 (by omega) (by omega)
  funext i y
  unfold zrG
  rw [e]
  by_cases hd : gdom (M 199 1) i y
  · have := gix_bd hd
    rw [zif_t hd, zif_t hd, h _ (by omega) (by omega)]
  · rw [zif_f hd, zif_f hd]
/-- hands that are not there have nothing -/
def okH (S G : zM) : Prop := (∀ k, G 0 7 ≤ k → k < 10 → S 1 k = 0 ∧ S 2 k = 0) ∧ ∀ k, 0 ≤ k → k < 5 → S 5 k ≠ 0 → 0 ≤ S 7 k
def okT (S G : zM) : Prop := okS S ∧ okH S G
def relC (M : zM) : Prop := zrG M = zvG M 30 ∧ okG (zvG M 30)
def relE (M : zM) : Prop := zrS M = zvS M 37 ∧ okT (zvS M 37) (zvG M 30) ∧ M 199 78 = zfl (sPut (zvS M 37) (zvG M 30))
def relF (M : zM) : Prop := (0 ≤ M 0 13 ∧ M 0 13 ≤ 8) ∧ M 197 24 = M 0 13 ∧ okP M ∧ ∀ i, 0 ≤ i → i < M 0 13 → zsS M (51 * i) = zvS M (M 77 i) ∧ okT (zvS M (M 77 i)) (zvG M 30) ∧ M 202 (51 * i + 3) = zfl (sPut (zvS M (M 77 i)) (zvG M 30))
/-- a snap is kept by the class -/
def zKept (M M' : zM) : Prop := (∀ x y, ¬ ((81 ≤ x ∧ x ≤ 152) ∨ x = 77 ∨ (x = 0 ∧ y = 13)) → M' x y = M x y) ∧ okP M' ∧ M' 0 13 = (if M 0 13 = 8 then 8 else M 0 13 + 1) ∧ zvS M' (M' 77 (M' 0 13 - 1)) = zvS M 59 ∧ ∀ i, 0 ≤ i → i < M' 0 13 - 1 → zvS M' (M' 77 i) = zvS M (M 77 (if M 0 13 = 8 then i + 1 else i))
/-- a snap is kept by the reference -/
def zSnapped (M M' : zM) : Prop := (∀ x y, ¬ (x = 202 ∨ (x = 197 ∧ y = 24)) → M' x y = M x y) ∧ M' 197 24 = (if M 197 24 = 8 then 8 else M 197 24 + 1) ∧ zsS M' (51 * (M' 197 24 - 1)) = zrS M ∧ M' 202 (51 * (M' 197 24 - 1) + 3) = M 199 78 ∧ ∀ i, 0 ≤ i → i < M' 197 24 - 1 → zsS M' (51 * i) = zsS M (51 * (if M 197 24 = 8 then i + 1 else i)) ∧ M' 202 (51 * i + 3) = M 202 (51 * (if M 197 24 = 8 then i + 1 else i) + 3)
theorem zcpy_z {M : zM} {a sp b dp n x y : Int} (h : x ≠ b ∨ y < dp ∨ dp + n ≤ y) : zcpy M a sp b dp n x y = M x y := by
  unfold zcpy
  rw [if_neg]
  omega
theorem mSnap_ok {M : zM} (n0 : 0 ≤ M 197 24) (n1 : M 197 24 ≤ 8) : zSnapped M (mSnap M) := by
  unfold mSnap
  by_cases c : M 197 24 = 8
  · rw [if_pos c]
    have e24 : zup (zcpy (zup (zcpy M 202 51 202 0 357) 197 24 7) 199 75 202 357 51) 197 24 8 197 24 = 8 := zup_e (by omega)
    refine ⟨fun x y h => ?_, by rw [e24, if_pos c], ?_, ?_, fun i i0 i1 => ?_⟩
    · have h1 : x ≠ 202 := fun z => h (Or.inl z)
      have h2 : ¬ (x = 197 ∧ y = 24) := fun z => h (Or.inr z)
      have hz : ∀ (N : zM) v, zup N 197 24 v x y = N x y := fun N v => by unfold zup; rw [if_neg (fun z => h2 ⟨z.1, z.2.1⟩)]
      rw [hz, zcpy_o h1, hz, zcpy_o h1]
    · rw [e24]
      funext i y
      unfold zsS zrS
      by_cases hd : sdom i y
      · have := rix_bd hd
        rw [zif_t hd, zif_t hd, zup_a (by omega), zcpy_i (by omega) (by omega) (by omega), zup_a (by omega), zcpy_o (by omega)]
        congr 1
        omega
      · rw [zif_f hd, zif_f hd]
    · rw [e24, zup_a (by omega), zcpy_i (by omega) (by omega) (by omega), zup_a (by omega), zcpy_o (by omega)]
      congr 1
    · rw [e24] at i1
      rw [if_pos c]
      constructor
      · funext r y
        unfold zsS
        by_cases hd : sdom r y
        · have := rix_bd hd
          rw [zif_t hd, zif_t hd, zup_a (by omega), zcpy_z (by omega), zup_a (by omega), zcpy_i (by omega) (by omega) (by omega)]
          congr 1
          omega
        · rw [zif_f hd, zif_f hd]
      · rw [zup_a (by omega), zcpy_z (by omega), zup_a (by omega), zcpy_i (by omega) (by omega) (by omega)]
        congr 1
        omega
  · rw [if_neg c]
    have e24 : zup (zcpy M 199 75 202 (51 * M 197 24) 51) 197 24 (M 197 24 + 1) 197 24 = M 197 24 + 1 := zup_e (by omega)
    refine ⟨fun x y h => ?_, by rw [e24, if_neg c], ?_, ?_, fun i i0 i1 => ?_⟩
    · have h1 : x ≠ 202 := fun z => h (Or.inl z)
      have h2 : ¬ (x = 197 ∧ y = 24) := fun z => h (Or.inr z)
      have hz : ∀ (N : zM) v, zup N 197 24 v x y = N x y := fun N v => by unfold zup; rw [if_neg (fun z => h2 ⟨z.1, z.2.1⟩)]
      rw [hz, zcpy_o h1]
    · rw [e24]
      funext i y
      unfold zsS zrS
      by_cases hd : sdom i y
      · have := rix_bd hd
        rw [zif_t hd, zif_t hd, zup_a (by omega), zcpy_i (by omega) (by omega) (by omega)]
        congr 1
        omega
      · rw [zif_f hd, zif_f hd]
    · rw [e24, zup_a (by omega), zcpy_i (by omega) (by omega) (by omega)]
      congr 1
      omega
    · rw [e24] at i1
      rw [if_neg c]
      constructor
      · funext r y
        unfold zsS
        by_cases hd : sdom r y
        · have := rix_bd hd
          rw [zif_t hd, zif_t hd, zup_a (by omega), zcpy_z (by omega)]
        · rw [zif_f hd, zif_f hd]
      · rw [zup_a (by omega), zcpy_z (by omega)]
