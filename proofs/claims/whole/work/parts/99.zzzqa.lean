/-! what the premises give of the start: blocks of them, by their places -/
def wfl : List Cond := flatC (Jvm.Cond.and given_1 narrow_1)
abbrev wes (i : Nat) : Term := .static zEW (zEnm.getD i "") zEWd
def wtm (i : Nat) : Term := match zstn[i]? with
  | some q => .string q.1 q.2.1
  | none => .int 0
def zpre : List Cond → List Cond → Bool
  | [], _ => true
  | _ :: _, [] => false
  | w :: ws, x :: xs => decide (w = x) && zpre ws xs
theorem zpre_mem : ∀ {ws xs : List Cond}, zpre ws xs = true → ∀ w ∈ ws, w ∈ xs
  | [], _, _, _, hw => absurd hw List.not_mem_nil
  | _ :: _, [], h, _, _ => by simp [zpre] at h
  | a :: ws, x :: xs, h, w, hw => by
    rw [zpre, Bool.and_eq_true] at h
    have h1 := of_decide_eq_true h.1
    rcases List.mem_cons.mp hw with rfl | hw
    · rw [h1]
      exact List.mem_cons_self
    · exact List.mem_cons_of_mem _ (zpre_mem h.2 w hw)
def zsub : List Cond → List Cond → Bool
  | [], _ => true
  | _ :: _, [] => false
  | w :: ws, x :: xs => if w = x then zsub ws xs else zsub (w :: ws) xs
theorem zsub_mem : ∀ {ws xs : List Cond}, zsub ws xs = true → ∀ w ∈ ws, w ∈ xs
  | [], _, _, _, hw => absurd hw List.not_mem_nil
  | _ :: _, [], h, _, _ => by simp [zsub] at h
  | a :: ws, x :: xs, h, w, hw => by
    rw [zsub] at h
    split at h
    · rename_i h1
      rcases List.mem_cons.mp hw with rfl | hw
      · rw [h1]
        exact List.mem_cons_self
      · exact List.mem_cons_of_mem _ (zsub_mem h w hw)
    · exact List.mem_cons_of_mem _ (zsub_mem h w hw)
theorem wpre {k : Nat} {ws : List Cond} (h : zpre ws (wfl.drop k) = true) : ∀ w ∈ ws, w ∈ wfl := fun w hw => List.mem_of_mem_drop (zpre_mem h w hw)
def wE (i : Nat) : List Cond := [Cond.exactly (wes i) zEW, Cond.eq (.field (wes i) "java/lang/Enum" "ordinal" "I") (.int (zord.getD i 0)), Cond.eq (.field (wes i) zEW "key" "J") (.long (Int64.ofInt (zkey ((i : Int) + 1))))]
def wW (i : Nat) : Cond := Cond.eq (.elem (.static "ClogVotes" "WORDS" "[LClogVotes$Word;") (.int (Int32.ofNat i))) (wes i)
def wM (i : Nat) : Cond := Cond.eq (.elem (.static "ClogVotes$1" "$SwitchMap$ClogVotes$Word" "[I") (.int (Int32.ofNat i))) (.int (Int32.ofInt (zsta 5 0 i)))
def wD0 (i : Nat) : Cond := Cond.eq (.elem (.static "java/lang/Integer" "DigitOnes" "[B") (.int (Int32.ofNat i))) (.int (Int32.ofInt (zsta 7 0 i)))
def wD1 (i : Nat) : Cond := Cond.eq (.elem (.static "java/lang/Integer" "DigitTens" "[B") (.int (Int32.ofNat i))) (.int (Int32.ofInt (zsta 7 1 i)))
def wS (i : Nat) : List Cond := [Cond.exactly (wtm i) "java/lang/String", Cond.eq (.field (wtm i) "java/lang/String" "coder" "B") (.int 0), Cond.arrayOf (.field (wtm i) "java/lang/String" "value" "[B") .byte, Cond.eq (.length (.field (wtm i) "java/lang/String" "value" "[B")) (.int (Int32.ofNat (zstl.getD i 0)))] ++ (List.range (zstl.getD i 0)).map (fun j => Cond.eq (.elem (.field (wtm i) "java/lang/String" "value" "[B") (.int (Int32.ofNat j))) (.int ((zstb.getD i []).getD j 0)))
set_option maxRecDepth 100000 in
theorem wp_e0 : zpre (wE 0) (wfl.drop 4) = true := by decide +kernel
set_option maxRecDepth 100000 in
theorem wp_e1 : zpre (wE 1) (wfl.drop 47) = true := by decide +kernel
set_option maxRecDepth 100000 in
theorem wp_e2 : zpre ([4, 7, 8].flatMap wE) (wfl.drop 91) = true := by decide +kernel
set_option maxRecDepth 100000 in
theorem wp_e3 : zpre ([14, 15, 16, 17, 25, 24].flatMap wE) (wfl.drop 306) = true := by decide +kernel
def wo4 : List Nat := [2, 3, 5, 6, 9, 10, 11, 12, 13, 18, 19, 20, 21, 22, 23, 26, 27, 28, 29, 30, 31, 32, 33]
set_option maxRecDepth 100000 in
theorem wp_e4 : zpre (wo4.flatMap wE) (wfl.drop 326) = true := by decide +kernel
set_option maxRecDepth 100000 in
theorem wp_w : zpre ((List.range 34).map wW) (wfl.drop 13) = true := by decide +kernel
set_option maxRecDepth 100000 in
theorem wp_m : zpre ((List.range 34).map wM) (wfl.drop 57) = true := by decide +kernel
set_option maxRecDepth 100000 in
theorem wp_d0 : zpre ((List.range 100).map wD0) (wfl.drop 103) = true := by decide +kernel
set_option maxRecDepth 100000 in
theorem wp_d1 : zpre ((List.range 100).map wD1) (wfl.drop 206) = true := by decide +kernel
set_option maxRecDepth 100000 in
theorem wp_s0 : zpre ([7, 4, 5, 6].flatMap wS) (wfl.drop 438) = true := by decide +kernel
set_option maxRecDepth 100000 in
theorem wp_s1 : zpre ([0, 1, 2, 3].flatMap wS) (wfl.drop 490) = true := by decide +kernel
def woL : List Nat := [0, 1, 4, 7, 8, 14, 15, 16, 17, 25, 24, 2, 3, 5, 6, 9, 10, 11, 12, 13, 18, 19, 20, 21, 22, 23, 26, 27, 28, 29, 30, 31, 32, 33]
set_option maxRecDepth 100000 in
theorem wp_l : zsub (woL.map (fun i => Cond.laysStatic zEW (zEnm.getD i "") zEWd)) tables_1 = true := by decide +kernel
theorem wE_in {i : Nat} (hi : i < 34) : ∀ w ∈ wE i, w ∈ wfl := by
  intro w hw
  have key : ∀ i : Nat, i < 34 → i = 0 ∨ i = 1 ∨ i ∈ [4, 7, 8] ∨ i ∈ [14, 15, 16, 17, 25, 24] ∨ i ∈ wo4 := by decide
  rcases key i hi with rfl | rfl | h | h | h
  · exact wpre wp_e0 w hw
  · exact wpre wp_e1 w hw
  · exact wpre wp_e2 w (List.mem_flatMap.mpr ⟨i, h, hw⟩)
  · exact wpre wp_e3 w (List.mem_flatMap.mpr ⟨i, h, hw⟩)
  · exact wpre wp_e4 w (List.mem_flatMap.mpr ⟨i, h, hw⟩)
theorem wl_in {i : Nat} (hi : i < 34) : Cond.laysStatic zEW (zEnm.getD i "") zEWd ∈ lw_tbl := by
  have key : ∀ i : Nat, i < 34 → i ∈ woL := by decide
  exact List.mem_append_right _ (zsub_mem wp_l _ (List.mem_map.mpr ⟨i, key i hi, rfl⟩))
theorem wf_en' {i : Nat} (hi : i < 34) : Cond.exactly (wes i) zEW ∈ wfl ∧ Cond.eq (.field (wes i) "java/lang/Enum" "ordinal" "I") (.int (zord.getD i 0)) ∈ wfl ∧ Cond.eq (.field (wes i) zEW "key" "J") (.long (Int64.ofInt (zkey ((i : Int) + 1)))) ∈ wfl ∧ Cond.laysStatic zEW (zEnm.getD i "") zEWd ∈ lw_tbl ∧ Cond.eq (.elem (.static "ClogVotes" "WORDS" "[LClogVotes$Word;") (.int (Int32.ofNat i))) (wes i) ∈ wfl ∧ Cond.eq (.elem (.static "ClogVotes$1" "$SwitchMap$ClogVotes$Word" "[I") (.int (Int32.ofNat i))) (.int (Int32.ofInt (zsta 5 0 i))) ∈ wfl :=
  ⟨wE_in hi _ List.mem_cons_self, wE_in hi _ (List.mem_cons_of_mem _ List.mem_cons_self), wE_in hi _ (List.mem_cons_of_mem _ (List.mem_cons_of_mem _ List.mem_cons_self)), wl_in hi, wpre wp_w _ (List.mem_map.mpr ⟨i, List.mem_range.mpr hi, rfl⟩), wpre wp_m _ (List.mem_map.mpr ⟨i, List.mem_range.mpr hi, rfl⟩)⟩
theorem wf_dg' {i : Nat} (hi : i < 100) : Cond.eq (.elem (.static "java/lang/Integer" "DigitOnes" "[B") (.int (Int32.ofNat i))) (.int (Int32.ofInt (zsta 7 0 i))) ∈ wfl ∧ Cond.eq (.elem (.static "java/lang/Integer" "DigitTens" "[B") (.int (Int32.ofNat i))) (.int (Int32.ofInt (zsta 7 1 i))) ∈ wfl :=
  ⟨wpre wp_d0 _ (List.mem_map.mpr ⟨i, List.mem_range.mpr hi, rfl⟩), wpre wp_d1 _ (List.mem_map.mpr ⟨i, List.mem_range.mpr hi, rfl⟩)⟩
theorem wS_in {i : Nat} (hi : i < 8) : ∀ w ∈ wS i, w ∈ wfl := by
  intro w hw
  have key : ∀ i : Nat, i < 8 → i ∈ [7, 4, 5, 6] ∨ i ∈ [0, 1, 2, 3] := by decide
  rcases key i hi with h | h
  · exact wpre wp_s0 w (List.mem_flatMap.mpr ⟨i, h, hw⟩)
  · exact wpre wp_s1 w (List.mem_flatMap.mpr ⟨i, h, hw⟩)
theorem wf_tx' {i : Nat} (hi : i < 8) : ((((Cond.exactly (wtm i) "java/lang/String" ∈ wfl ∧ Cond.eq (.field (wtm i) "java/lang/String" "coder" "B") (.int 0) ∈ wfl) ∧ Cond.arrayOf (.field (wtm i) "java/lang/String" "value" "[B") .byte ∈ wfl) ∧ Cond.eq (.length (.field (wtm i) "java/lang/String" "value" "[B")) (.int (Int32.ofNat (zstl.getD i 0))) ∈ wfl) ∧ zstl.getD i 0 < 64) ∧ ∀ j, j < zstl.getD i 0 → Cond.eq (.elem (.field (wtm i) "java/lang/String" "value" "[B") (.int (Int32.ofNat j))) (.int ((zstb.getD i []).getD j 0)) ∈ wfl := by
  have key : ∀ i : Nat, i < 8 → zstl.getD i 0 < 64 := by decide
  refine ⟨⟨⟨⟨⟨wS_in hi _ (List.mem_append_left _ List.mem_cons_self), wS_in hi _ (List.mem_append_left _ (List.mem_cons_of_mem _ List.mem_cons_self))⟩, wS_in hi _ (List.mem_append_left _ (List.mem_cons_of_mem _ (List.mem_cons_of_mem _ List.mem_cons_self)))⟩, wS_in hi _ (List.mem_append_left _ (List.mem_cons_of_mem _ (List.mem_cons_of_mem _ (List.mem_cons_of_mem _ List.mem_cons_self))))⟩, key i hi⟩, fun j hj => wS_in hi _ (List.mem_append_right _ (List.mem_map.mpr ⟨j, List.mem_range.mpr hj, rfl⟩))⟩
