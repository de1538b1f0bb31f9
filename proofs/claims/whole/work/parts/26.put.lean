/-! fields: the writing instruction; what a text and a constant hold -/
theorem znar_z {i : Int32} (h : i.toInt = 0 ∨ i.toInt = 1) : narrow .boolean (.int i) = .int i ∧ fits .boolean (.int i) = true := by
  have : i = 0 ∨ i = 1 := by
    rcases h with h | h
    · exact Or.inl (Int32.toInt_inj.mp h)
    · exact Or.inr (Int32.toInt_inj.mp h)
  rcases this with rfl | rfl <;> exact ⟨by decide +kernel, by decide +kernel⟩
theorem zb8_id {x : Int} (h1 : -128 ≤ x) (h2 : x < 128) : Int.bmod x 256 = x := by
  rw [Int.bmod_def]; omega
theorem znar_b {i : Int32} (h1 : -128 ≤ i.toInt) (h2 : i.toInt < 128) : narrow .byte (.int i) = .int i ∧ fits .byte (.int i) = true := by
  refine ⟨?_, ?_⟩
  · show Value.int i.toInt8.toInt32 = .int i
    congr 1
    apply Int32.toInt_inj.mp
    rw [Int8.toInt_toInt32, Int32.toInt_toInt8]
    exact zb8_id h1 h2
  · show (decide (-128 ≤ i) && decide (i ≤ 127)) = true
    rw [Bool.and_eq_true, decide_eq_true_iff, decide_eq_true_iff, Int32.le_iff_toInt_le, Int32.le_iff_toInt_le]
    exact ⟨h1, show i.toInt ≤ 127 by omega⟩
theorem znar_r {ty : FieldType} (h : (∃ n, ty = .object n) ∨ ∃ t, ty = .array t) (r : Option Nat) : narrow ty (va_rf r) = va_rf r ∧ fits ty (va_rf r) = true := by
  rcases h with ⟨n, rfl⟩ | ⟨t, rfl⟩ <;> cases r <;> exact ⟨rfl, rfl⟩
theorem zs_putfield {p : Program} {l : Launch} {e : Env} {R : Room} {s : State} {m : MethodId} {args : Array Value} {below : List Frame} {meth : Method} {c : Code} {Q : State → Prop} {K : zK} {ph : Bool} {c0 s0 : Int} {gs : zG} {own nm : String} {cc : ByteArray} {pc : Nat} {L st : List zV} {M : zM} {i ci j op : Nat} {r : vw_C} {rr : List Int} {st' : List zV} {M' : zM} (hC : zCtx K own nm cc p s m args meth c) (hdg : decode cc pc = .ok (.putfield i, 3)) (hc : zcls[ci]? = some r) (hj : j < r.2.2) (hw : Cond.fieldLink own i (r.2.1 j).1 (r.2.1 j).2.1 (r.2.1 j).2.2.1 ∈ zwl)
    (hfin : (r.2.1 j).2.2.2 = false ∨ ((r.2.1 j).2.2.2 = true ∧ nm = "<init>" ∧ (r.2.1 j).1 = own)) (hbig : r.2.2 ≤ 1000)
    (hop : op = (zfs ci j).1 + 5 ∧ 65 ≤ op ∧ op ≤ 69) (h0 : zr0 rr = 20 + (ci : Int)) (h1 : zr1 rr = j) (h67 : op = 67 → zr2 rr = (zfs ci j).2.1 ∧ zr3 rr = (zfs ci j).2.2.1 ∧ zr4 rr = (zfs ci j).2.2.2 ∧ 4 ≤ zr3 rr) (h69 : op = 69 → zr2 rr = (zfs ci j).2.2.1 ∧ 4 ≤ zr2 rr)
    (h65 : op = 65 → zty r j = .int ∨ (zty r j = .boolean ∧ rr = [20 + (ci : Int), (j : Int), 0, 1]) ∨ (zty r j = .byte ∧ rr = [20 + (ci : Int), (j : Int), -128, 127])) (h66 : op = 66 → zty r j = .long)
    (href : 67 ≤ op → (∃ n, zty r j = .object n) ∨ ∃ t, zty r j = .array t)
    (hs : zF3_p ph op rr st M = some (st', M')) (hk : zGo p l e R s m args below meth c Q K ph c0 s0 gs (pc + 3) L st' M') : zGo p l e R s m args below meth c Q K ph c0 s0 gs pc L st M := by
  unfold zF3_p at hs
  split at hs
  · rename_i u v k t a x st
    split at hs
    · rename_i ht
      rw [h0] at ht
      subst ht
      rw [h1] at hs
      intro ls rst H locs b0 b1 b2 b3 b4
      obtain ⟨rx, rst, rfl, hx, b2a⟩ := zVRs_cons b2
      obtain ⟨rv, rst, rfl, hv, b2b⟩ := zVRs_cons b2a
      obtain ⟨ka, qa, ea, -, -⟩ := zVR_cell hv (by omega) (by omega) (by omega)
      have ha : a ≠ -1 := by omega
      have go : ∀ (M1 : zM), st' = st → M' = M1 → (∀ x : Int, x ≠ a → ∀ y, M1 x y = M x y) → (∀ y : Int, y ≠ j → y ≠ 1000 + j → M1 a y = M a y) → zFld K ph gs M1 a j (zfs ci j) rx → narrow (zty r j) rx = rx → fits (zty r j) rx = true →
          W p l e R s m args below meth c H locs (M (-1) 1 - c0).toNat (M (-1) 2 - s0).toNat Q (F0 m pc ls (rx :: rv :: rst)) := by
        intro M1 e1 e2 hrow hself hnew hn hf
        subst e1; subst e2
        refine zput_W hC hdg hc hj hw hfin hn hf hv b3 b4 hrow hself hbig hnew (fun H1 locs1 g3 g4 => ?_)
        have := hk ls rst H1 locs1 b0 b1 b2b g3 g4
        rw [hrow (-1) (by omega), hrow (-1) (by omega)] at this
        exact this
      have one : ∀ w : Int, (∀ x : Int, x ≠ a → ∀ y, zup M a j w x y = M x y) ∧ (∀ y : Int, y ≠ j → y ≠ 1000 + j → zup M a j w a y = M a y) := fun w => ⟨fun x hx y => zup_row M hx y, fun y h1 _ => by rw [zup_at M _ _ ha, if_neg h1]⟩
      by_cases e0 : op = 65
      · rw [if_pos e0] at hs
        split at hs
        · rename_i hz
          obtain ⟨rfl, hz⟩ := hz
          cases hs
          obtain ⟨q, rfl, hq⟩ := zVR_i hx
          have ek : (zfs ci j).1 = 60 := by omega
          have hnf : narrow (zty r j) (.int q) = .int q ∧ fits (zty r j) (.int q) = true := by
            rcases h65 e0 with h | ⟨h, hr⟩ | ⟨h, hr⟩
            · rw [h]; exact ⟨rfl, rfl⟩
            · rw [h]; subst hr
              simp only [zin2, Bool.and_eq_true, decide_eq_true_iff] at hz
              exact znar_z (by omega)
            · rw [h]; subst hr
              simp only [zin2, Bool.and_eq_true, decide_eq_true_iff] at hz
              exact znar_b (by omega) (by omega)
          refine go _ rfl rfl (one _).1 (one _).2 ?_ hnf.1 hnf.2
          unfold zFld
          rw [if_pos ek, zup_at M _ _ ha, if_pos rfl]
          exact zVR_mki q hq
        · cases hs
      rw [if_neg e0] at hs
      by_cases e1 : op = 66
      · rw [if_pos e1] at hs
        split at hs
        · rename_i hz
          subst hz
          cases hs
          obtain ⟨q, rfl, hq⟩ := zVR_l hx
          have ek : (zfs ci j).1 = 61 := by omega
          refine go _ rfl rfl (one _).1 (one _).2 ?_ (by rw [h66 e1]; rfl) (by rw [h66 e1]; rfl)
          unfold zFld
          rw [if_neg (by omega), if_pos ek, zup_at M _ _ ha, if_pos rfl]
          exact zVR_mkl q hq
        · cases hs
      rw [if_neg e1] at hs
      by_cases e2 : op = 67
      · rw [if_pos e2] at hs
        split at hs
        · rename_i hz
          obtain ⟨hph, rfl, rfl, rfl⟩ := hz
          cases hs
          obtain ⟨q1, q2, q3, q4⟩ := h67 e2
          obtain ⟨rr1, rfl⟩ := zVR_ref hx q4
          have ek : (zfs ci j).1 = 62 := by omega
          refine go _ rfl rfl (one _).1 (one _).2 ?_ (znar_r (href (by omega)) rr1).1 (znar_r (href (by omega)) rr1).2
          unfold zFld
          rw [if_neg (by omega), if_neg (by omega), if_pos ek, ← q1, ← q2, ← q3]
          exact fun _ => hx
        · cases hs
      rw [if_neg e2] at hs
      by_cases e3 : op = 68
      · rw [if_pos e3] at hs
        split at hs
        · rename_i hz
          subst hz
          cases hs
          obtain ⟨rr1, rfl⟩ := zVR_ref hx (by omega)
          have ek : (zfs ci j).1 = 63 := by omega
          refine go _ rfl rfl (one _).1 (one _).2 ?_ (znar_r (href (by omega)) rr1).1 (znar_r (href (by omega)) rr1).2
          unfold zFld
          rw [if_neg (by omega), if_neg (by omega), if_neg (by omega), if_pos ek, zup_at M _ _ ha, if_pos rfl]
          intro _
          obtain ⟨w1, w2, w3⟩ := zVR_stat hx (by omega)
          rw [w1]
          exact zVR_mkstat (by omega) w2 (fun z => absurd rfl z)
        · cases hs
      rw [if_neg e3] at hs
      split at hs
      · rename_i hz
        obtain ⟨rfl, hpos⟩ := hz
        cases hs
        obtain ⟨q1, q4⟩ := h69 (by omega)
        obtain ⟨rr1, rfl⟩ := zVR_ref hx q4
        have ek1 : ¬ (zfs ci j).1 = 60 := by omega
        have ek2 : ¬ (zfs ci j).1 = 61 := by omega
        have ek3 : ¬ (zfs ci j).1 = 62 := by omega
        have ek4 : ¬ (zfs ci j).1 = 63 := by omega
        refine go _ rfl rfl (fun x hx y => by rw [zup_row _ hx, zup_row _ hx]) (fun y z1 z2 => by rw [zup_at _ _ _ ha, if_neg z2, zup_at _ _ _ ha, if_neg z1]) ?_ (znar_r (href (by omega)) rr1).1 (znar_r (href (by omega)) rr1).2
        unfold zFld
        rw [if_neg ek1, if_neg ek2, if_neg ek3, if_neg ek4, zup_at _ _ _ ha, if_neg (by omega), zup_at _ _ _ ha, if_pos rfl, zup_at _ _ _ ha, if_pos rfl, ← q1]
        exact fun _ => hx
      · cases hs
    · cases hs
  · cases hs
theorem zs_strval {p : Program} {l : Launch} {e : Env} {R : Room} {s : State} {m : MethodId} {args : Array Value} {below : List Frame} {meth : Method} {c : Code} {Q : State → Prop} {K : zK} {ph : Bool} {c0 s0 : Int} {gs : zG} {own nm : String} {cc : ByteArray} {pc : Nat} {L st : List zV} {M : zM} {i : Nat} {st' : List zV} (hC : zCtx K own nm cc p s m args meth c) (hdg : decode cc pc = .ok (.getfield i, 3)) (hw : Cond.fieldLink own i "java/lang/String" "value" "[B" ∈ zwl)
    (hs : zF3_s 98 st = some st') (hk : zGo p l e R s m args below meth c Q K ph c0 s0 gs (pc + 3) L st' M) : zGo p l e R s m args below meth c Q K ph c0 s0 gs pc L st M := by
  unfold zF3_s at hs
  split at hs
  · rename_i t k n st
    rw [if_pos rfl] at hs
    split at hs
    · rename_i ht
      subst ht
      cases hs
      intro ls rst H locs b0 b1 b2 b3 b4
      obtain ⟨rv, rst, rfl, hv, b2a⟩ := zVRs_cons b2
      obtain ⟨rfl, w2, w3⟩ := zVR_stat hv (by omega)
      have w2 : 0 ≤ k ∧ k < 8 := by simpa [zrng] using w2
      obtain ⟨-, -, -, -, -, -, -, -, hS, -⟩ := hC.2.2.2.2.2.1
      obtain ⟨-, -, g3, -⟩ := hS.1 k.toNat (by omega)
      dsimp only at g3
      rw [show ((k.toNat : Nat) : Int) = k by omega] at g3
      refine vk_getf hC.1 hC.2.1 g3 b4 hC.2.2.1 (hC.2.2.2.1 _ hw) (fun _ z => z) hdg ?_
      refine hk ls (_ :: rst) H locs b0 b1 ⟨?_, b2a⟩ b3 b4
      exact zVR_mkstat (by omega) (by simpa [zrng] using w2) (fun _ => by rw [w3 (by omega)]; rfl)
    · cases hs
  · cases hs
theorem zs_strcod {p : Program} {l : Launch} {e : Env} {R : Room} {s : State} {m : MethodId} {args : Array Value} {below : List Frame} {meth : Method} {c : Code} {Q : State → Prop} {K : zK} {ph : Bool} {c0 s0 : Int} {gs : zG} {own nm : String} {cc : ByteArray} {pc : Nat} {L st : List zV} {M : zM} {i : Nat} {st' : List zV} (hC : zCtx K own nm cc p s m args meth c) (hdg : decode cc pc = .ok (.getfield i, 3)) (hw : Cond.fieldLink own i "java/lang/String" "coder" "B" ∈ zwl)
    (hs : zF3_s 99 st = some st') (hk : zGo p l e R s m args below meth c Q K ph c0 s0 gs (pc + 3) L st' M) : zGo p l e R s m args below meth c Q K ph c0 s0 gs pc L st M := by
  unfold zF3_s at hs
  split at hs
  · rename_i t k n st
    rw [if_neg (by omega), if_pos rfl] at hs
    split at hs
    · rename_i ht
      subst ht
      cases hs
      intro ls rst H locs b0 b1 b2 b3 b4
      obtain ⟨rv, rst, rfl, hv, b2a⟩ := zVRs_cons b2
      obtain ⟨rfl, w2, w3⟩ := zVR_stat hv (by omega)
      have w2 : 0 ≤ k ∧ k < 8 := by simpa [zrng] using w2
      obtain ⟨-, -, -, -, -, -, -, -, hS, -⟩ := hC.2.2.2.2.2.1
      obtain ⟨-, g2, -, -⟩ := hS.1 k.toNat (by omega)
      dsimp only at g2
      rw [show ((k.toNat : Nat) : Int) = k by omega] at g2
      refine vk_getf hC.1 hC.2.1 g2 b4 hC.2.2.1 (hC.2.2.2.1 _ hw) (fun _ z => z) hdg ?_
      exact hk ls (_ :: rst) H locs b0 b1 ⟨zVR_mki 0 rfl, b2a⟩ b3 b4
    · cases hs
  · cases hs
theorem zkey_range : ∀ e : Fin 34, (Int64.ofInt (zkey ((e.val : Int) + 1))).toInt = zkey ((e.val : Int) + 1) := by decide +kernel
theorem zs_wkey {p : Program} {l : Launch} {e : Env} {R : Room} {s : State} {m : MethodId} {args : Array Value} {below : List Frame} {meth : Method} {c : Code} {Q : State → Prop} {K : zK} {ph : Bool} {c0 s0 : Int} {gs : zG} {own nm : String} {cc : ByteArray} {pc : Nat} {L st : List zV} {M : zM} {i : Nat} {st' : List zV} (hC : zCtx K own nm cc p s m args meth c) (hdg : decode cc pc = .ok (.getfield i, 3)) (hw : Cond.fieldLink own i "ClogVotes$Word" "key" "J" ∈ zwl)
    (hs : zF3_s 100 st = some st') (hk : zGo p l e R s m args below meth c Q K ph c0 s0 gs (pc + 3) L st' M) : zGo p l e R s m args below meth c Q K ph c0 s0 gs pc L st M := by
  unfold zF3_s at hs
  split at hs
  · rename_i t k n st
    rw [if_neg (by omega), if_neg (by omega)] at hs
    split at hs
    · rename_i ht
      subst ht
      cases hs
      intro ls rst H locs b0 b1 b2 b3 b4
      obtain ⟨rv, rst, rfl, hv, b2a⟩ := zVRs_cons b2
      obtain ⟨rfl, w2, w3⟩ := zVR_stat hv (by omega)
      have w2 : 1 ≤ k ∧ k ≤ 34 := by simpa [zrng] using w2
      have hE := hC.2.2.2.2.2.1.2.1
      have ek : (((k - 1).toNat : Nat) : Int) + 1 = k := by omega
      have := va_getX (Q := Q) (below := below) (meth := meth) (l := l) (e := e) (R := R) (cells := (M (-1) 1 - c0).toNat) (slots := (M (-1) 2 - s0).toNat) (ls := ls) (rest := rst) (i := (k - 1).toNat) hC.1 hC.2.1 hE (by omega) b4 hC.2.2.1 (hC.2.2.2.1 _ hw) (fun _ z => z) hdg
      rw [ek] at this
      refine this ?_
      refine hk ls (_ :: rst) H locs b0 b1 ⟨zVR_mkl _ ?_, b2a⟩ b3 b4
      have h9 := zkey_range ⟨(k - 1).toNat, by omega⟩
      dsimp only at h9
      rw [ek] at h9
      exact h9
    · cases hs
  · cases hs
