/-! what both read from a token -/
def agX (A A' : zM) : Prop := ∀ x y, ¬ (x = 2 ∧ 3 ≤ y ∧ y ≤ 11) → A' x y = A x y
def agY (B B' : zM) : Prop := ∀ x y, ¬ (x = 197 ∧ 5 ≤ y ∧ y ≤ 13) → B' x y = B x y
def flR (A B : zM) : Prop := A 2 10 = B 197 10 ∧ 1 ≤ A 2 10 ∧ A 2 10 ≤ 4 ∧ A 2 11 = B 197 11 ∧ 0 ≤ A 2 11 ∧ A 2 11 ≤ 900
theorem agX_r {A : zM} : agX A A := fun _ _ _ => rfl
theorem agY_r {A : zM} : agY A A := fun _ _ _ => rfl
theorem agX_t {A B C : zM} (h : agX A B) (k : agX B C) : agX A C := fun x y z => (k x y z).trans (h x y z)
theorem agY_t {A B C : zM} (h : agY A B) (k : agY B C) : agY A C := fun x y z => (k x y z).trans (h x y z)
theorem agX_a {A B : zM} (h : agA A B) : agX A B := fun x y z => h x y (by omega)
theorem agY_g {A B : zM} (h : agG A B) : agY A B := fun x y z => h x y (by omega)
theorem m138 (ph : Bool) (d : Nat) (a x0 : Int) (M : zM) : zEm ph (d + 1) 138 [(27, a, x0)] M = zEv ph d 138 0 [(27, a, x0)] [] M := rfl
theorem e138_0 (ph : Bool) (d : Nat) (L st : List zV) (M : zM) : zEv ph d 138 0 L st M = zcont ph d 138 (zstep ph (zEm ph d) 4 1 0 [0] L st M) := zEv_step rfl
theorem e138_1 (ph : Bool) (d : Nat) (L st : List zV) (M : zM) : zEv ph d 138 1 L st M = zcont ph d 138 (zstep ph (zEm ph d) 60 4 0 [27, 5] L st M) := zEv_step rfl
theorem e138_4 (ph : Bool) (d : Nat) (L st : List zV) (M : zM) : zEv ph d 138 4 L st M = zcont ph d 138 (zstep ph (zEm ph d) 41 7 11 [] L st M) := zEv_step rfl
theorem e138_7 (ph : Bool) (d : Nat) (L st : List zV) (M : zM) : zEv ph d 138 7 L st M = zcont ph d 138 (zstep ph (zEm ph d) 0 8 0 [1] L st M) := zEv_step rfl
theorem e138_8 (ph : Bool) (d : Nat) (L st : List zV) (M : zM) : zEv ph d 138 8 L st M = zcont ph d 138 (zstep ph (zEm ph d) 52 11 12 [] L st M) := zEv_step rfl
theorem e138_11 (ph : Bool) (d : Nat) (L st : List zV) (M : zM) : zEv ph d 138 11 L st M = zcont ph d 138 (zstep ph (zEm ph d) 0 12 0 [0] L st M) := zEv_step rfl
theorem e138_12 (ph : Bool) (d : Nat) (L st : List zV) (M : zM) : zEv ph d 138 12 L st M = zcont ph d 138 (zstep ph (zEm ph d) 80 13 0 [0, 1] L st M) := zEv_step rfl
theorem m139 (ph : Bool) (d : Nat) (a x0 : Int) (M : zM) : zEm ph (d + 1) 139 [(27, a, x0)] M = zEv ph d 139 0 [(27, a, x0)] [] M := rfl
theorem e139_0 (ph : Bool) (d : Nat) (L st : List zV) (M : zM) : zEv ph d 139 0 L st M = zcont ph d 139 (zstep ph (zEm ph d) 4 1 0 [0] L st M) := zEv_step rfl
theorem e139_1 (ph : Bool) (d : Nat) (L st : List zV) (M : zM) : zEv ph d 139 1 L st M = zcont ph d 139 (zstep ph (zEm ph d) 60 4 0 [27, 5] L st M) := zEv_step rfl
theorem e139_4 (ph : Bool) (d : Nat) (L st : List zV) (M : zM) : zEv ph d 139 4 L st M = zcont ph d 139 (zstep ph (zEm ph d) 41 7 20 [] L st M) := zEv_step rfl
theorem e139_7 (ph : Bool) (d : Nat) (L st : List zV) (M : zM) : zEv ph d 139 7 L st M = zcont ph d 139 (zstep ph (zEm ph d) 4 8 0 [0] L st M) := zEv_step rfl
theorem e139_8 (ph : Bool) (d : Nat) (L st : List zV) (M : zM) : zEv ph d 139 8 L st M = zcont ph d 139 (zstep ph (zEm ph d) 60 11 0 [27, 1] L st M) := zEv_step rfl
theorem e139_11 (ph : Bool) (d : Nat) (L st : List zV) (M : zM) : zEv ph d 139 11 L st M = zcont ph d 139 (zstep ph (zEm ph d) 4 12 0 [0] L st M) := zEv_step rfl
theorem e139_12 (ph : Bool) (d : Nat) (L st : List zV) (M : zM) : zEv ph d 139 12 L st M = zcont ph d 139 (zstep ph (zEm ph d) 60 15 0 [27, 2] L st M) := zEv_step rfl
theorem e139_15 (ph : Bool) (d : Nat) (L st : List zV) (M : zM) : zEv ph d 139 15 L st M = zcont ph d 139 (zstep ph (zEm ph d) 50 18 20 [] L st M) := zEv_step rfl
theorem e139_18 (ph : Bool) (d : Nat) (L st : List zV) (M : zM) : zEv ph d 139 18 L st M = zcont ph d 139 (zstep ph (zEm ph d) 0 19 0 [1] L st M) := zEv_step rfl
theorem e139_19 (ph : Bool) (d : Nat) (L st : List zV) (M : zM) : zEv ph d 139 19 L st M = zcont ph d 139 (zstep ph (zEm ph d) 80 20 0 [0, 1] L st M) := zEv_step rfl
theorem e139_20 (ph : Bool) (d : Nat) (L st : List zV) (M : zM) : zEv ph d 139 20 L st M = zcont ph d 139 (zstep ph (zEm ph d) 4 21 0 [0] L st M) := zEv_step rfl
theorem e139_21 (ph : Bool) (d : Nat) (L st : List zV) (M : zM) : zEv ph d 139 21 L st M = zcont ph d 139 (zstep ph (zEm ph d) 0 22 0 [1] L st M) := zEv_step rfl
theorem e139_22 (ph : Bool) (d : Nat) (L st : List zV) (M : zM) : zEv ph d 139 22 L st M = zcont ph d 139 (zstep ph (zEm ph d) 70 25 140 [2, 1, 27] L st M) := zEv_step rfl
theorem e139_25 (ph : Bool) (d : Nat) (L st : List zV) (M : zM) : zEv ph d 139 25 L st M = zcont ph d 139 (zstep ph (zEm ph d) 80 26 0 [0, 1] L st M) := zEv_step rfl
theorem m140 (ph : Bool) (d : Nat) (a x0 p0 y0 : Int) (M : zM) : zEm ph (d + 1) 140 [(27, a, x0), (0, p0, y0)] M = zEv ph d 140 0 [(27, a, x0), (0, p0, y0)] [] M := rfl
theorem e140_0 (ph : Bool) (d : Nat) (L st : List zV) (M : zM) : zEv ph d 140 0 L st M = zcont ph d 140 (zstep ph (zEm ph d) 4 1 0 [0] L st M) := zEv_step rfl
theorem e140_1 (ph : Bool) (d : Nat) (L st : List zV) (M : zM) : zEv ph d 140 1 L st M = zcont ph d 140 (zstep ph (zEm ph d) 60 4 0 [27, 10] L st M) := zEv_step rfl
theorem e140_4 (ph : Bool) (d : Nat) (L st : List zV) (M : zM) : zEv ph d 140 4 L st M = zcont ph d 140 (zstep ph (zEm ph d) 41 7 20 [] L st M) := zEv_step rfl
theorem e140_7 (ph : Bool) (d : Nat) (L st : List zV) (M : zM) : zEv ph d 140 7 L st M = zcont ph d 140 (zstep ph (zEm ph d) 4 8 0 [0] L st M) := zEv_step rfl
theorem e140_8 (ph : Bool) (d : Nat) (L st : List zV) (M : zM) : zEv ph d 140 8 L st M = zcont ph d 140 (zstep ph (zEm ph d) 2 9 0 [1] L st M) := zEv_step rfl
theorem e140_9 (ph : Bool) (d : Nat) (L st : List zV) (M : zM) : zEv ph d 140 9 L st M = zcont ph d 140 (zstep ph (zEm ph d) 65 12 0 [27, 10] L st M) := zEv_step rfl
theorem e140_12 (ph : Bool) (d : Nat) (L st : List zV) (M : zM) : zEv ph d 140 12 L st M = zcont ph d 140 (zstep ph (zEm ph d) 4 13 0 [0] L st M) := zEv_step rfl
theorem e140_13 (ph : Bool) (d : Nat) (L st : List zV) (M : zM) : zEv ph d 140 13 L st M = zcont ph d 140 (zstep ph (zEm ph d) 4 14 0 [0] L st M) := zEv_step rfl
theorem e140_14 (ph : Bool) (d : Nat) (L st : List zV) (M : zM) : zEv ph d 140 14 L st M = zcont ph d 140 (zstep ph (zEm ph d) 60 17 0 [27, 4] L st M) := zEv_step rfl
theorem e140_17 (ph : Bool) (d : Nat) (L st : List zV) (M : zM) : zEv ph d 140 17 L st M = zcont ph d 140 (zstep ph (zEm ph d) 65 20 0 [27, 11] L st M) := zEv_step rfl
theorem e140_20 (ph : Bool) (d : Nat) (L st : List zV) (M : zM) : zEv ph d 140 20 L st M = zcont ph d 140 (zstep ph (zEm ph d) 0 21 0 [0] L st M) := zEv_step rfl
theorem e140_21 (ph : Bool) (d : Nat) (L st : List zV) (M : zM) : zEv ph d 140 21 L st M = zcont ph d 140 (zstep ph (zEm ph d) 80 22 0 [0, 1] L st M) := zEv_step rfl
theorem m145 (ph : Bool) (d : Nat) (a x0 p0 y0 : Int) (M : zM) : zEm ph (d + 1) 145 [(27, a, x0), (0, p0, y0)] M = zEv ph d 145 0 [(27, a, x0), (0, p0, y0)] [] M := rfl
theorem e145_0 (ph : Bool) (d : Nat) (L st : List zV) (M : zM) : zEv ph d 145 0 L st M = zcont ph d 145 (zstep ph (zEm ph d) 4 1 0 [0] L st M) := zEv_step rfl
theorem e145_1 (ph : Bool) (d : Nat) (L st : List zV) (M : zM) : zEv ph d 145 1 L st M = zcont ph d 145 (zstep ph (zEm ph d) 60 4 0 [27, 5] L st M) := zEv_step rfl
theorem e145_4 (ph : Bool) (d : Nat) (L st : List zV) (M : zM) : zEv ph d 145 4 L st M = zcont ph d 145 (zstep ph (zEm ph d) 0 5 0 [4] L st M) := zEv_step rfl
theorem e145_5 (ph : Bool) (d : Nat) (L st : List zV) (M : zM) : zEv ph d 145 5 L st M = zcont ph d 145 (zstep ph (zEm ph d) 47 8 16 [] L st M) := zEv_step rfl
theorem e145_8 (ph : Bool) (d : Nat) (L st : List zV) (M : zM) : zEv ph d 145 8 L st M = zcont ph d 145 (zstep ph (zEm ph d) 4 9 0 [0] L st M) := zEv_step rfl
theorem e145_9 (ph : Bool) (d : Nat) (L st : List zV) (M : zM) : zEv ph d 145 9 L st M = zcont ph d 145 (zstep ph (zEm ph d) 60 12 0 [27, 9] L st M) := zEv_step rfl
theorem e145_12 (ph : Bool) (d : Nat) (L st : List zV) (M : zM) : zEv ph d 145 12 L st M = zcont ph d 145 (zstep ph (zEm ph d) 2 13 0 [1] L st M) := zEv_step rfl
theorem e145_13 (ph : Bool) (d : Nat) (L st : List zV) (M : zM) : zEv ph d 145 13 L st M = zcont ph d 145 (zstep ph (zEm ph d) 46 16 22 [] L st M) := zEv_step rfl
theorem e145_16 (ph : Bool) (d : Nat) (L st : List zV) (M : zM) : zEv ph d 145 16 L st M = zcont ph d 145 (zstep ph (zEm ph d) 4 17 0 [0] L st M) := zEv_step rfl
theorem e145_17 (ph : Bool) (d : Nat) (L st : List zV) (M : zM) : zEv ph d 145 17 L st M = zcont ph d 145 (zstep ph (zEm ph d) 0 18 0 [1] L st M) := zEv_step rfl
theorem e145_18 (ph : Bool) (d : Nat) (L st : List zV) (M : zM) : zEv ph d 145 18 L st M = zcont ph d 145 (zstep ph (zEm ph d) 70 21 140 [2, 1, 27] L st M) := zEv_step rfl
theorem e145_21 (ph : Bool) (d : Nat) (L st : List zV) (M : zM) : zEv ph d 145 21 L st M = zcont ph d 145 (zstep ph (zEm ph d) 80 22 0 [0, 1] L st M) := zEv_step rfl
theorem e145_22 (ph : Bool) (d : Nat) (L st : List zV) (M : zM) : zEv ph d 145 22 L st M = zcont ph d 145 (zstep ph (zEm ph d) 4 23 0 [0] L st M) := zEv_step rfl
theorem e145_23 (ph : Bool) (d : Nat) (L st : List zV) (M : zM) : zEv ph d 145 23 L st M = zcont ph d 145 (zstep ph (zEm ph d) 70 26 141 [1, 0, 27] L st M) := zEv_step rfl
theorem e145_26 (ph : Bool) (d : Nat) (L st : List zV) (M : zM) : zEv ph d 145 26 L st M = zcont ph d 145 (zstep ph (zEm ph d) 0 27 0 [1] L st M) := zEv_step rfl
theorem e145_27 (ph : Bool) (d : Nat) (L st : List zV) (M : zM) : zEv ph d 145 27 L st M = zcont ph d 145 (zstep ph (zEm ph d) 80 28 0 [0, 1] L st M) := zEv_step rfl
theorem m146 (ph : Bool) (d : Nat) (a x0 p0 y0 p1 y1 : Int) (M : zM) : zEm ph (d + 1) 146 [(27, a, x0), (0, p0, y0), (0, p1, y1)] M = zEv ph d 146 0 [(27, a, x0), (0, p0, y0), (0, p1, y1), (3, 0, 0)] [] M := rfl
theorem e146_0 (ph : Bool) (d : Nat) (L st : List zV) (M : zM) : zEv ph d 146 0 L st M = zcont ph d 146 (zstep ph (zEm ph d) 4 1 0 [0] L st M) := zEv_step rfl
theorem e146_1 (ph : Bool) (d : Nat) (L st : List zV) (M : zM) : zEv ph d 146 1 L st M = zcont ph d 146 (zstep ph (zEm ph d) 60 4 0 [27, 5] L st M) := zEv_step rfl
theorem e146_4 (ph : Bool) (d : Nat) (L st : List zV) (M : zM) : zEv ph d 146 4 L st M = zcont ph d 146 (zstep ph (zEm ph d) 0 5 0 [3] L st M) := zEv_step rfl
theorem e146_5 (ph : Bool) (d : Nat) (L st : List zV) (M : zM) : zEv ph d 146 5 L st M = zcont ph d 146 (zstep ph (zEm ph d) 46 8 16 [] L st M) := zEv_step rfl
theorem e146_8 (ph : Bool) (d : Nat) (L st : List zV) (M : zM) : zEv ph d 146 8 L st M = zcont ph d 146 (zstep ph (zEm ph d) 4 9 0 [0] L st M) := zEv_step rfl
theorem e146_9 (ph : Bool) (d : Nat) (L st : List zV) (M : zM) : zEv ph d 146 9 L st M = zcont ph d 146 (zstep ph (zEm ph d) 0 10 0 [1] L st M) := zEv_step rfl
theorem e146_10 (ph : Bool) (d : Nat) (L st : List zV) (M : zM) : zEv ph d 146 10 L st M = zcont ph d 146 (zstep ph (zEm ph d) 70 13 140 [2, 1, 27] L st M) := zEv_step rfl
theorem e146_13 (ph : Bool) (d : Nat) (L st : List zV) (M : zM) : zEv ph d 146 13 L st M = zcont ph d 146 (zstep ph (zEm ph d) 38 14 0 [] L st M) := zEv_step rfl
theorem e146_14 (ph : Bool) (d : Nat) (L st : List zV) (M : zM) : zEv ph d 146 14 L st M = zcont ph d 146 (zstep ph (zEm ph d) 0 15 0 [-1] L st M) := zEv_step rfl
theorem e146_15 (ph : Bool) (d : Nat) (L st : List zV) (M : zM) : zEv ph d 146 15 L st M = zcont ph d 146 (zstep ph (zEm ph d) 80 16 0 [] L st M) := zEv_step rfl
theorem e146_16 (ph : Bool) (d : Nat) (L st : List zV) (M : zM) : zEv ph d 146 16 L st M = zcont ph d 146 (zstep ph (zEm ph d) 4 17 0 [0] L st M) := zEv_step rfl
theorem e146_17 (ph : Bool) (d : Nat) (L st : List zV) (M : zM) : zEv ph d 146 17 L st M = zcont ph d 146 (zstep ph (zEm ph d) 60 20 0 [27, 6] L st M) := zEv_step rfl
theorem e146_20 (ph : Bool) (d : Nat) (L st : List zV) (M : zM) : zEv ph d 146 20 L st M = zcont ph d 146 (zstep ph (zEm ph d) 2 21 0 [1] L st M) := zEv_step rfl
theorem e146_21 (ph : Bool) (d : Nat) (L st : List zV) (M : zM) : zEv ph d 146 21 L st M = zcont ph d 146 (zstep ph (zEm ph d) 48 24 32 [] L st M) := zEv_step rfl
theorem e146_24 (ph : Bool) (d : Nat) (L st : List zV) (M : zM) : zEv ph d 146 24 L st M = zcont ph d 146 (zstep ph (zEm ph d) 4 25 0 [0] L st M) := zEv_step rfl
theorem e146_25 (ph : Bool) (d : Nat) (L st : List zV) (M : zM) : zEv ph d 146 25 L st M = zcont ph d 146 (zstep ph (zEm ph d) 60 28 0 [27, 6] L st M) := zEv_step rfl
theorem e146_28 (ph : Bool) (d : Nat) (L st : List zV) (M : zM) : zEv ph d 146 28 L st M = zcont ph d 146 (zstep ph (zEm ph d) 2 29 0 [2] L st M) := zEv_step rfl
theorem e146_29 (ph : Bool) (d : Nat) (L st : List zV) (M : zM) : zEv ph d 146 29 L st M = zcont ph d 146 (zstep ph (zEm ph d) 51 32 40 [] L st M) := zEv_step rfl
theorem e146_32 (ph : Bool) (d : Nat) (L st : List zV) (M : zM) : zEv ph d 146 32 L st M = zcont ph d 146 (zstep ph (zEm ph d) 4 33 0 [0] L st M) := zEv_step rfl
theorem e146_33 (ph : Bool) (d : Nat) (L st : List zV) (M : zM) : zEv ph d 146 33 L st M = zcont ph d 146 (zstep ph (zEm ph d) 0 34 0 [2] L st M) := zEv_step rfl
theorem e146_34 (ph : Bool) (d : Nat) (L st : List zV) (M : zM) : zEv ph d 146 34 L st M = zcont ph d 146 (zstep ph (zEm ph d) 70 37 140 [2, 1, 27] L st M) := zEv_step rfl
theorem e146_37 (ph : Bool) (d : Nat) (L st : List zV) (M : zM) : zEv ph d 146 37 L st M = zcont ph d 146 (zstep ph (zEm ph d) 38 38 0 [] L st M) := zEv_step rfl
theorem e146_38 (ph : Bool) (d : Nat) (L st : List zV) (M : zM) : zEv ph d 146 38 L st M = zcont ph d 146 (zstep ph (zEm ph d) 0 39 0 [-1] L st M) := zEv_step rfl
theorem e146_39 (ph : Bool) (d : Nat) (L st : List zV) (M : zM) : zEv ph d 146 39 L st M = zcont ph d 146 (zstep ph (zEm ph d) 80 40 0 [] L st M) := zEv_step rfl
theorem e146_40 (ph : Bool) (d : Nat) (L st : List zV) (M : zM) : zEv ph d 146 40 L st M = zcont ph d 146 (zstep ph (zEm ph d) 4 41 0 [0] L st M) := zEv_step rfl
theorem e146_41 (ph : Bool) (d : Nat) (L st : List zV) (M : zM) : zEv ph d 146 41 L st M = zcont ph d 146 (zstep ph (zEm ph d) 60 44 0 [27, 6] L st M) := zEv_step rfl
theorem e146_44 (ph : Bool) (d : Nat) (L st : List zV) (M : zM) : zEv ph d 146 44 L st M = zcont ph d 146 (zstep ph (zEm ph d) 5 45 0 [3] L st M) := zEv_step rfl
theorem e146_45 (ph : Bool) (d : Nat) (L st : List zV) (M : zM) : zEv ph d 146 45 L st M = zcont ph d 146 (zstep ph (zEm ph d) 4 46 0 [0] L st M) := zEv_step rfl
theorem e146_46 (ph : Bool) (d : Nat) (L st : List zV) (M : zM) : zEv ph d 146 46 L st M = zcont ph d 146 (zstep ph (zEm ph d) 70 49 141 [1, 0, 27] L st M) := zEv_step rfl
theorem e146_49 (ph : Bool) (d : Nat) (L st : List zV) (M : zM) : zEv ph d 146 49 L st M = zcont ph d 146 (zstep ph (zEm ph d) 2 50 0 [3] L st M) := zEv_step rfl
theorem e146_50 (ph : Bool) (d : Nat) (L st : List zV) (M : zM) : zEv ph d 146 50 L st M = zcont ph d 146 (zstep ph (zEm ph d) 80 51 0 [] L st M) := zEv_step rfl
theorem m147 (ph : Bool) (d : Nat) (a x0 : Int) (M : zM) : zEm ph (d + 1) 147 [(27, a, x0)] M = zEv ph d 147 0 [(27, a, x0)] [] M := rfl
theorem e147_0 (ph : Bool) (d : Nat) (L st : List zV) (M : zM) : zEv ph d 147 0 L st M = zcont ph d 147 (zstep ph (zEm ph d) 4 1 0 [0] L st M) := zEv_step rfl
theorem e147_1 (ph : Bool) (d : Nat) (L st : List zV) (M : zM) : zEv ph d 147 1 L st M = zcont ph d 147 (zstep ph (zEm ph d) 63 4 0 [27, 7] L st M) := zEv_step rfl
theorem e147_4 (ph : Bool) (d : Nat) (L st : List zV) (M : zM) : zEv ph d 147 4 L st M = zcont ph d 147 (zstep ph (zEm ph d) 77 7 0 [8] L st M) := zEv_step rfl
theorem e147_7 (ph : Bool) (d : Nat) (L st : List zV) (M : zM) : zEv ph d 147 7 L st M = zcont ph d 147 (zstep ph (zEm ph d) 54 10 12 [] L st M) := zEv_step rfl
theorem e147_10 (ph : Bool) (d : Nat) (L st : List zV) (M : zM) : zEv ph d 147 10 L st M = zcont ph d 147 (zstep ph (zEm ph d) 0 11 0 [0] L st M) := zEv_step rfl
theorem e147_11 (ph : Bool) (d : Nat) (L st : List zV) (M : zM) : zEv ph d 147 11 L st M = zcont ph d 147 (zstep ph (zEm ph d) 80 12 0 [] L st M) := zEv_step rfl
theorem e147_12 (ph : Bool) (d : Nat) (L st : List zV) (M : zM) : zEv ph d 147 12 L st M = zcont ph d 147 (zstep ph (zEm ph d) 4 13 0 [0] L st M) := zEv_step rfl
theorem e147_13 (ph : Bool) (d : Nat) (L st : List zV) (M : zM) : zEv ph d 147 13 L st M = zcont ph d 147 (zstep ph (zEm ph d) 63 16 0 [27, 7] L st M) := zEv_step rfl
theorem e147_16 (ph : Bool) (d : Nat) (L st : List zV) (M : zM) : zEv ph d 147 16 L st M = zcont ph d 147 (zstep ph (zEm ph d) 77 19 0 [9] L st M) := zEv_step rfl
theorem e147_19 (ph : Bool) (d : Nat) (L st : List zV) (M : zM) : zEv ph d 147 19 L st M = zcont ph d 147 (zstep ph (zEm ph d) 54 22 24 [] L st M) := zEv_step rfl
theorem e147_22 (ph : Bool) (d : Nat) (L st : List zV) (M : zM) : zEv ph d 147 22 L st M = zcont ph d 147 (zstep ph (zEm ph d) 0 23 0 [1] L st M) := zEv_step rfl
theorem e147_23 (ph : Bool) (d : Nat) (L st : List zV) (M : zM) : zEv ph d 147 23 L st M = zcont ph d 147 (zstep ph (zEm ph d) 80 24 0 [] L st M) := zEv_step rfl
theorem e147_24 (ph : Bool) (d : Nat) (L st : List zV) (M : zM) : zEv ph d 147 24 L st M = zcont ph d 147 (zstep ph (zEm ph d) 4 25 0 [0] L st M) := zEv_step rfl
theorem e147_25 (ph : Bool) (d : Nat) (L st : List zV) (M : zM) : zEv ph d 147 25 L st M = zcont ph d 147 (zstep ph (zEm ph d) 0 26 0 [1] L st M) := zEv_step rfl
theorem e147_26 (ph : Bool) (d : Nat) (L st : List zV) (M : zM) : zEv ph d 147 26 L st M = zcont ph d 147 (zstep ph (zEm ph d) 70 29 140 [2, 1, 27] L st M) := zEv_step rfl
theorem e147_29 (ph : Bool) (d : Nat) (L st : List zV) (M : zM) : zEv ph d 147 29 L st M = zcont ph d 147 (zstep ph (zEm ph d) 38 30 0 [] L st M) := zEv_step rfl
theorem e147_30 (ph : Bool) (d : Nat) (L st : List zV) (M : zM) : zEv ph d 147 30 L st M = zcont ph d 147 (zstep ph (zEm ph d) 0 31 0 [-1] L st M) := zEv_step rfl
theorem e147_31 (ph : Bool) (d : Nat) (L st : List zV) (M : zM) : zEv ph d 147 31 L st M = zcont ph d 147 (zstep ph (zEm ph d) 80 32 0 [] L st M) := zEv_step rfl
theorem m148 (ph : Bool) (d : Nat) (a x0 : Int) (M : zM) : zEm ph (d + 1) 148 [(27, a, x0)] M = zEv ph d 148 0 [(27, a, x0), (3, 0, 0)] [] M := rfl
theorem e148_0 (ph : Bool) (d : Nat) (L st : List zV) (M : zM) : zEv ph d 148 0 L st M = zcont ph d 148 (zstep ph (zEm ph d) 4 1 0 [0] L st M) := zEv_step rfl
theorem e148_1 (ph : Bool) (d : Nat) (L st : List zV) (M : zM) : zEv ph d 148 1 L st M = zcont ph d 148 (zstep ph (zEm ph d) 70 4 147 [1, 1, 27] L st M) := zEv_step rfl
theorem e148_4 (ph : Bool) (d : Nat) (L st : List zV) (M : zM) : zEv ph d 148 4 L st M = zcont ph d 148 (zstep ph (zEm ph d) 5 5 0 [1] L st M) := zEv_step rfl
theorem e148_5 (ph : Bool) (d : Nat) (L st : List zV) (M : zM) : zEv ph d 148 5 L st M = zcont ph d 148 (zstep ph (zEm ph d) 2 6 0 [1] L st M) := zEv_step rfl
theorem e148_6 (ph : Bool) (d : Nat) (L st : List zV) (M : zM) : zEv ph d 148 6 L st M = zcont ph d 148 (zstep ph (zEm ph d) 0 7 0 [-1] L st M) := zEv_step rfl
theorem e148_7 (ph : Bool) (d : Nat) (L st : List zV) (M : zM) : zEv ph d 148 7 L st M = zcont ph d 148 (zstep ph (zEm ph d) 46 10 14 [] L st M) := zEv_step rfl
theorem e148_10 (ph : Bool) (d : Nat) (L st : List zV) (M : zM) : zEv ph d 148 10 L st M = zcont ph d 148 (zstep ph (zEm ph d) 4 11 0 [0] L st M) := zEv_step rfl
theorem e148_11 (ph : Bool) (d : Nat) (L st : List zV) (M : zM) : zEv ph d 148 11 L st M = zcont ph d 148 (zstep ph (zEm ph d) 70 14 141 [1, 0, 27] L st M) := zEv_step rfl
theorem e148_14 (ph : Bool) (d : Nat) (L st : List zV) (M : zM) : zEv ph d 148 14 L st M = zcont ph d 148 (zstep ph (zEm ph d) 2 15 0 [1] L st M) := zEv_step rfl
theorem e148_15 (ph : Bool) (d : Nat) (L st : List zV) (M : zM) : zEv ph d 148 15 L st M = zcont ph d 148 (zstep ph (zEm ph d) 80 16 0 [] L st M) := zEv_step rfl
theorem m149 (ph : Bool) (d : Nat) (a x0 p0 y0 p1 y1 : Int) (M : zM) : zEm ph (d + 1) 149 [(27, a, x0), (11, p0, y0), (0, p1, y1)] M = zEv ph d 149 0 [(27, a, x0), (11, p0, y0), (0, p1, y1), (3, 0, 0)] [] M := rfl
theorem e149_0 (ph : Bool) (d : Nat) (L st : List zV) (M : zM) : zEv ph d 149 0 L st M = zcont ph d 149 (zstep ph (zEm ph d) 4 1 0 [0] L st M) := zEv_step rfl
theorem e149_1 (ph : Bool) (d : Nat) (L st : List zV) (M : zM) : zEv ph d 149 1 L st M = zcont ph d 149 (zstep ph (zEm ph d) 63 4 0 [27, 7] L st M) := zEv_step rfl
theorem e149_4 (ph : Bool) (d : Nat) (L st : List zV) (M : zM) : zEv ph d 149 4 L st M = zcont ph d 149 (zstep ph (zEm ph d) 77 7 0 [2] L st M) := zEv_step rfl
theorem e149_7 (ph : Bool) (d : Nat) (L st : List zV) (M : zM) : zEv ph d 149 7 L st M = zcont ph d 149 (zstep ph (zEm ph d) 53 10 18 [] L st M) := zEv_step rfl
theorem e149_10 (ph : Bool) (d : Nat) (L st : List zV) (M : zM) : zEv ph d 149 10 L st M = zcont ph d 149 (zstep ph (zEm ph d) 4 11 0 [0] L st M) := zEv_step rfl
theorem e149_11 (ph : Bool) (d : Nat) (L st : List zV) (M : zM) : zEv ph d 149 11 L st M = zcont ph d 149 (zstep ph (zEm ph d) 0 12 0 [1] L st M) := zEv_step rfl
theorem e149_12 (ph : Bool) (d : Nat) (L st : List zV) (M : zM) : zEv ph d 149 12 L st M = zcont ph d 149 (zstep ph (zEm ph d) 70 15 140 [2, 1, 27] L st M) := zEv_step rfl
theorem e149_15 (ph : Bool) (d : Nat) (L st : List zV) (M : zM) : zEv ph d 149 15 L st M = zcont ph d 149 (zstep ph (zEm ph d) 38 16 0 [] L st M) := zEv_step rfl
theorem e149_16 (ph : Bool) (d : Nat) (L st : List zV) (M : zM) : zEv ph d 149 16 L st M = zcont ph d 149 (zstep ph (zEm ph d) 0 17 0 [-1] L st M) := zEv_step rfl
theorem e149_17 (ph : Bool) (d : Nat) (L st : List zV) (M : zM) : zEv ph d 149 17 L st M = zcont ph d 149 (zstep ph (zEm ph d) 80 18 0 [] L st M) := zEv_step rfl
theorem e149_18 (ph : Bool) (d : Nat) (L st : List zV) (M : zM) : zEv ph d 149 18 L st M = zcont ph d 149 (zstep ph (zEm ph d) 4 19 0 [0] L st M) := zEv_step rfl
theorem e149_19 (ph : Bool) (d : Nat) (L st : List zV) (M : zM) : zEv ph d 149 19 L st M = zcont ph d 149 (zstep ph (zEm ph d) 61 22 0 [27, 8] L st M) := zEv_step rfl
theorem e149_22 (ph : Bool) (d : Nat) (L st : List zV) (M : zM) : zEv ph d 149 22 L st M = zcont ph d 149 (zstep ph (zEm ph d) 4 23 0 [1] L st M) := zEv_step rfl
theorem e149_23 (ph : Bool) (d : Nat) (L st : List zV) (M : zM) : zEv ph d 149 23 L st M = zcont ph d 149 (zstep ph (zEm ph d) 2 24 0 [2] L st M) := zEv_step rfl
theorem e149_24 (ph : Bool) (d : Nat) (L st : List zV) (M : zM) : zEv ph d 149 24 L st M = zcont ph d 149 (zstep ph (zEm ph d) 70 27 154 [3, 1, -1] L st M) := zEv_step rfl
theorem e149_27 (ph : Bool) (d : Nat) (L st : List zV) (M : zM) : zEv ph d 149 27 L st M = zcont ph d 149 (zstep ph (zEm ph d) 5 28 0 [3] L st M) := zEv_step rfl
theorem e149_28 (ph : Bool) (d : Nat) (L st : List zV) (M : zM) : zEv ph d 149 28 L st M = zcont ph d 149 (zstep ph (zEm ph d) 2 29 0 [3] L st M) := zEv_step rfl
theorem e149_29 (ph : Bool) (d : Nat) (L st : List zV) (M : zM) : zEv ph d 149 29 L st M = zcont ph d 149 (zstep ph (zEm ph d) 0 30 0 [-1] L st M) := zEv_step rfl
theorem e149_30 (ph : Bool) (d : Nat) (L st : List zV) (M : zM) : zEv ph d 149 30 L st M = zcont ph d 149 (zstep ph (zEm ph d) 47 33 39 [] L st M) := zEv_step rfl
theorem e149_33 (ph : Bool) (d : Nat) (L st : List zV) (M : zM) : zEv ph d 149 33 L st M = zcont ph d 149 (zstep ph (zEm ph d) 4 34 0 [0] L st M) := zEv_step rfl
theorem e149_34 (ph : Bool) (d : Nat) (L st : List zV) (M : zM) : zEv ph d 149 34 L st M = zcont ph d 149 (zstep ph (zEm ph d) 0 35 0 [3] L st M) := zEv_step rfl
theorem e149_35 (ph : Bool) (d : Nat) (L st : List zV) (M : zM) : zEv ph d 149 35 L st M = zcont ph d 149 (zstep ph (zEm ph d) 70 38 140 [2, 1, 27] L st M) := zEv_step rfl
theorem e149_38 (ph : Bool) (d : Nat) (L st : List zV) (M : zM) : zEv ph d 149 38 L st M = zcont ph d 149 (zstep ph (zEm ph d) 38 39 0 [] L st M) := zEv_step rfl
theorem e149_39 (ph : Bool) (d : Nat) (L st : List zV) (M : zM) : zEv ph d 149 39 L st M = zcont ph d 149 (zstep ph (zEm ph d) 2 40 0 [3] L st M) := zEv_step rfl
theorem e149_40 (ph : Bool) (d : Nat) (L st : List zV) (M : zM) : zEv ph d 149 40 L st M = zcont ph d 149 (zstep ph (zEm ph d) 80 41 0 [] L st M) := zEv_step rfl
theorem m150 (ph : Bool) (d : Nat) (a x0 p0 y0 p1 y1 : Int) (M : zM) : zEm ph (d + 1) 150 [(27, a, x0), (11, p0, y0), (0, p1, y1)] M = zEv ph d 150 0 [(27, a, x0), (11, p0, y0), (0, p1, y1), (3, 0, 0)] [] M := rfl
theorem e150_0 (ph : Bool) (d : Nat) (L st : List zV) (M : zM) : zEv ph d 150 0 L st M = zcont ph d 150 (zstep ph (zEm ph d) 4 1 0 [0] L st M) := zEv_step rfl
theorem e150_1 (ph : Bool) (d : Nat) (L st : List zV) (M : zM) : zEv ph d 150 1 L st M = zcont ph d 150 (zstep ph (zEm ph d) 4 2 0 [1] L st M) := zEv_step rfl
theorem e150_2 (ph : Bool) (d : Nat) (L st : List zV) (M : zM) : zEv ph d 150 2 L st M = zcont ph d 150 (zstep ph (zEm ph d) 2 3 0 [2] L st M) := zEv_step rfl
theorem e150_3 (ph : Bool) (d : Nat) (L st : List zV) (M : zM) : zEv ph d 150 3 L st M = zcont ph d 150 (zstep ph (zEm ph d) 70 6 149 [3, 1, 27] L st M) := zEv_step rfl
theorem e150_6 (ph : Bool) (d : Nat) (L st : List zV) (M : zM) : zEv ph d 150 6 L st M = zcont ph d 150 (zstep ph (zEm ph d) 5 7 0 [3] L st M) := zEv_step rfl
theorem e150_7 (ph : Bool) (d : Nat) (L st : List zV) (M : zM) : zEv ph d 150 7 L st M = zcont ph d 150 (zstep ph (zEm ph d) 2 8 0 [3] L st M) := zEv_step rfl
theorem e150_8 (ph : Bool) (d : Nat) (L st : List zV) (M : zM) : zEv ph d 150 8 L st M = zcont ph d 150 (zstep ph (zEm ph d) 0 9 0 [-1] L st M) := zEv_step rfl
theorem e150_9 (ph : Bool) (d : Nat) (L st : List zV) (M : zM) : zEv ph d 150 9 L st M = zcont ph d 150 (zstep ph (zEm ph d) 46 12 16 [] L st M) := zEv_step rfl
theorem e150_12 (ph : Bool) (d : Nat) (L st : List zV) (M : zM) : zEv ph d 150 12 L st M = zcont ph d 150 (zstep ph (zEm ph d) 4 13 0 [0] L st M) := zEv_step rfl
theorem e150_13 (ph : Bool) (d : Nat) (L st : List zV) (M : zM) : zEv ph d 150 13 L st M = zcont ph d 150 (zstep ph (zEm ph d) 70 16 141 [1, 0, 27] L st M) := zEv_step rfl
theorem e150_16 (ph : Bool) (d : Nat) (L st : List zV) (M : zM) : zEv ph d 150 16 L st M = zcont ph d 150 (zstep ph (zEm ph d) 2 17 0 [3] L st M) := zEv_step rfl
theorem e150_17 (ph : Bool) (d : Nat) (L st : List zV) (M : zM) : zEv ph d 150 17 L st M = zcont ph d 150 (zstep ph (zEm ph d) 80 18 0 [] L st M) := zEv_step rfl
theorem m154 (ph : Bool) (d : Nat) (p0 y0 p1 y1 p2 y2 : Int) (M : zM) : zEm ph (d + 1) 154 [(1, p0, y0), (11, p1, y1), (0, p2, y2)] M = zEv ph d 154 0 [(1, p0, y0), (3, 0, 0), (11, p1, y1), (0, p2, y2), (3, 0, 0)] [] M := rfl
theorem e154_0 (ph : Bool) (d : Nat) (L st : List zV) (M : zM) : zEv ph d 154 0 L st M = zcont ph d 154 (zstep ph (zEm ph d) 0 1 0 [0] L st M) := zEv_step rfl
theorem e154_1 (ph : Bool) (d : Nat) (L st : List zV) (M : zM) : zEv ph d 154 1 L st M = zcont ph d 154 (zstep ph (zEm ph d) 5 3 0 [4] L st M) := zEv_step rfl
theorem e154_3 (ph : Bool) (d : Nat) (L st : List zV) (M : zM) : zEv ph d 154 3 L st M = zcont ph d 154 (zstep ph (zEm ph d) 2 5 0 [4] L st M) := zEv_step rfl
theorem e154_5 (ph : Bool) (d : Nat) (L st : List zV) (M : zM) : zEv ph d 154 5 L st M = zcont ph d 154 (zstep ph (zEm ph d) 2 6 0 [3] L st M) := zEv_step rfl
theorem e154_6 (ph : Bool) (d : Nat) (L st : List zV) (M : zM) : zEv ph d 154 6 L st M = zcont ph d 154 (zstep ph (zEm ph d) 49 9 34 [] L st M) := zEv_step rfl
theorem e154_9 (ph : Bool) (d : Nat) (L st : List zV) (M : zM) : zEv ph d 154 9 L st M = zcont ph d 154 (zstep ph (zEm ph d) 2 11 0 [4] L st M) := zEv_step rfl
theorem e154_11 (ph : Bool) (d : Nat) (L st : List zV) (M : zM) : zEv ph d 154 11 L st M = zcont ph d 154 (zstep ph (zEm ph d) 4 12 0 [2] L st M) := zEv_step rfl
theorem e154_12 (ph : Bool) (d : Nat) (L st : List zV) (M : zM) : zEv ph d 154 12 L st M = zcont ph d 154 (zstep ph (zEm ph d) 84 13 0 [] L st M) := zEv_step rfl
theorem e154_13 (ph : Bool) (d : Nat) (L st : List zV) (M : zM) : zEv ph d 154 13 L st M = zcont ph d 154 (zstep ph (zEm ph d) 49 16 34 [] L st M) := zEv_step rfl
theorem e154_16 (ph : Bool) (d : Nat) (L st : List zV) (M : zM) : zEv ph d 154 16 L st M = zcont ph d 154 (zstep ph (zEm ph d) 4 17 0 [2] L st M) := zEv_step rfl
theorem e154_17 (ph : Bool) (d : Nat) (L st : List zV) (M : zM) : zEv ph d 154 17 L st M = zcont ph d 154 (zstep ph (zEm ph d) 2 19 0 [4] L st M) := zEv_step rfl
theorem e154_19 (ph : Bool) (d : Nat) (L st : List zV) (M : zM) : zEv ph d 154 19 L st M = zcont ph d 154 (zstep ph (zEm ph d) 86 20 0 [] L st M) := zEv_step rfl
theorem e154_20 (ph : Bool) (d : Nat) (L st : List zV) (M : zM) : zEv ph d 154 20 L st M = zcont ph d 154 (zstep ph (zEm ph d) 3 21 0 [0] L st M) := zEv_step rfl
theorem e154_21 (ph : Bool) (d : Nat) (L st : List zV) (M : zM) : zEv ph d 154 21 L st M = zcont ph d 154 (zstep ph (zEm ph d) 27 22 0 [] L st M) := zEv_step rfl
theorem e154_22 (ph : Bool) (d : Nat) (L st : List zV) (M : zM) : zEv ph d 154 22 L st M = zcont ph d 154 (zstep ph (zEm ph d) 41 25 28 [] L st M) := zEv_step rfl
theorem e154_25 (ph : Bool) (d : Nat) (L st : List zV) (M : zM) : zEv ph d 154 25 L st M = zcont ph d 154 (zstep ph (zEm ph d) 2 27 0 [4] L st M) := zEv_step rfl
theorem e154_27 (ph : Bool) (d : Nat) (L st : List zV) (M : zM) : zEv ph d 154 27 L st M = zcont ph d 154 (zstep ph (zEm ph d) 80 28 0 [] L st M) := zEv_step rfl
theorem e154_28 (ph : Bool) (d : Nat) (L st : List zV) (M : zM) : zEv ph d 154 28 L st M = zcont ph d 154 (zstep ph (zEm ph d) 8 31 0 [4, 1] L st M) := zEv_step rfl
theorem e154_31 (ph : Bool) (d : Nat) (L st : List zV) (M : zM) : zEv ph d 154 31 L st M = zcont ph d 154 (zstep ph (zEm ph d) 52 34 3 [] L st M) := zEv_step rfl
theorem e154_34 (ph : Bool) (d : Nat) (L st : List zV) (M : zM) : zEv ph d 154 34 L st M = zcont ph d 154 (zstep ph (zEm ph d) 0 35 0 [-1] L st M) := zEv_step rfl
theorem e154_35 (ph : Bool) (d : Nat) (L st : List zV) (M : zM) : zEv ph d 154 35 L st M = zcont ph d 154 (zstep ph (zEm ph d) 80 36 0 [] L st M) := zEv_step rfl
theorem m155 (ph : Bool) (d : Nat) (a x0 p0 y0 : Int) (M : zM) : zEm ph (d + 1) 155 [(28, a, x0), (1, p0, y0)] M = zEv ph d 155 0 [(28, a, x0), (1, p0, y0), (3, 0, 0)] [] M := rfl
theorem e155_0 (ph : Bool) (d : Nat) (L st : List zV) (M : zM) : zEv ph d 155 0 L st M = zcont ph d 155 (zstep ph (zEm ph d) 3 1 0 [1] L st M) := zEv_step rfl
theorem e155_1 (ph : Bool) (d : Nat) (L st : List zV) (M : zM) : zEv ph d 155 1 L st M = zcont ph d 155 (zstep ph (zEm ph d) 4 2 0 [0] L st M) := zEv_step rfl
theorem e155_2 (ph : Bool) (d : Nat) (L st : List zV) (M : zM) : zEv ph d 155 2 L st M = zcont ph d 155 (zstep ph (zEm ph d) 62 5 0 [28, 0, 1, 11, 5] L st M) := zEv_step rfl
theorem e155_5 (ph : Bool) (d : Nat) (L st : List zV) (M : zM) : zEv ph d 155 5 L st M = zcont ph d 155 (zstep ph (zEm ph d) 4 6 0 [0] L st M) := zEv_step rfl
theorem e155_6 (ph : Bool) (d : Nat) (L st : List zV) (M : zM) : zEv ph d 155 6 L st M = zcont ph d 155 (zstep ph (zEm ph d) 60 9 0 [28, 6] L st M) := zEv_step rfl
theorem e155_9 (ph : Bool) (d : Nat) (L st : List zV) (M : zM) : zEv ph d 155 9 L st M = zcont ph d 155 (zstep ph (zEm ph d) 70 12 154 [3, 1, -1] L st M) := zEv_step rfl
theorem e155_12 (ph : Bool) (d : Nat) (L st : List zV) (M : zM) : zEv ph d 155 12 L st M = zcont ph d 155 (zstep ph (zEm ph d) 0 13 0 [-1] L st M) := zEv_step rfl
theorem e155_13 (ph : Bool) (d : Nat) (L st : List zV) (M : zM) : zEv ph d 155 13 L st M = zcont ph d 155 (zstep ph (zEm ph d) 47 16 48 [] L st M) := zEv_step rfl
theorem e155_16 (ph : Bool) (d : Nat) (L st : List zV) (M : zM) : zEv ph d 155 16 L st M = zcont ph d 155 (zstep ph (zEm ph d) 3 17 0 [1] L st M) := zEv_step rfl
theorem e155_17 (ph : Bool) (d : Nat) (L st : List zV) (M : zM) : zEv ph d 155 17 L st M = zcont ph d 155 (zstep ph (zEm ph d) 4 18 0 [0] L st M) := zEv_step rfl
theorem e155_18 (ph : Bool) (d : Nat) (L st : List zV) (M : zM) : zEv ph d 155 18 L st M = zcont ph d 155 (zstep ph (zEm ph d) 62 21 0 [28, 1, 2, 11, 10] L st M) := zEv_step rfl
theorem e155_21 (ph : Bool) (d : Nat) (L st : List zV) (M : zM) : zEv ph d 155 21 L st M = zcont ph d 155 (zstep ph (zEm ph d) 4 22 0 [0] L st M) := zEv_step rfl
theorem e155_22 (ph : Bool) (d : Nat) (L st : List zV) (M : zM) : zEv ph d 155 22 L st M = zcont ph d 155 (zstep ph (zEm ph d) 60 25 0 [28, 7] L st M) := zEv_step rfl
theorem e155_25 (ph : Bool) (d : Nat) (L st : List zV) (M : zM) : zEv ph d 155 25 L st M = zcont ph d 155 (zstep ph (zEm ph d) 70 28 154 [3, 1, -1] L st M) := zEv_step rfl
theorem e155_28 (ph : Bool) (d : Nat) (L st : List zV) (M : zM) : zEv ph d 155 28 L st M = zcont ph d 155 (zstep ph (zEm ph d) 0 29 0 [-1] L st M) := zEv_step rfl
theorem e155_29 (ph : Bool) (d : Nat) (L st : List zV) (M : zM) : zEv ph d 155 29 L st M = zcont ph d 155 (zstep ph (zEm ph d) 47 32 48 [] L st M) := zEv_step rfl
theorem e155_32 (ph : Bool) (d : Nat) (L st : List zV) (M : zM) : zEv ph d 155 32 L st M = zcont ph d 155 (zstep ph (zEm ph d) 3 33 0 [1] L st M) := zEv_step rfl
theorem e155_33 (ph : Bool) (d : Nat) (L st : List zV) (M : zM) : zEv ph d 155 33 L st M = zcont ph d 155 (zstep ph (zEm ph d) 4 34 0 [0] L st M) := zEv_step rfl
theorem e155_34 (ph : Bool) (d : Nat) (L st : List zV) (M : zM) : zEv ph d 155 34 L st M = zcont ph d 155 (zstep ph (zEm ph d) 62 37 0 [28, 2, 3, 11, 5] L st M) := zEv_step rfl
theorem e155_37 (ph : Bool) (d : Nat) (L st : List zV) (M : zM) : zEv ph d 155 37 L st M = zcont ph d 155 (zstep ph (zEm ph d) 4 38 0 [0] L st M) := zEv_step rfl
theorem e155_38 (ph : Bool) (d : Nat) (L st : List zV) (M : zM) : zEv ph d 155 38 L st M = zcont ph d 155 (zstep ph (zEm ph d) 60 41 0 [28, 8] L st M) := zEv_step rfl
theorem e155_41 (ph : Bool) (d : Nat) (L st : List zV) (M : zM) : zEv ph d 155 41 L st M = zcont ph d 155 (zstep ph (zEm ph d) 70 44 154 [3, 1, -1] L st M) := zEv_step rfl
theorem e155_44 (ph : Bool) (d : Nat) (L st : List zV) (M : zM) : zEv ph d 155 44 L st M = zcont ph d 155 (zstep ph (zEm ph d) 0 45 0 [-1] L st M) := zEv_step rfl
theorem e155_45 (ph : Bool) (d : Nat) (L st : List zV) (M : zM) : zEv ph d 155 45 L st M = zcont ph d 155 (zstep ph (zEm ph d) 46 48 52 [] L st M) := zEv_step rfl
theorem e155_48 (ph : Bool) (d : Nat) (L st : List zV) (M : zM) : zEv ph d 155 48 L st M = zcont ph d 155 (zstep ph (zEm ph d) 0 49 0 [1] L st M) := zEv_step rfl
theorem e155_49 (ph : Bool) (d : Nat) (L st : List zV) (M : zM) : zEv ph d 155 49 L st M = zcont ph d 155 (zstep ph (zEm ph d) 52 52 53 [] L st M) := zEv_step rfl
theorem e155_52 (ph : Bool) (d : Nat) (L st : List zV) (M : zM) : zEv ph d 155 52 L st M = zcont ph d 155 (zstep ph (zEm ph d) 0 53 0 [0] L st M) := zEv_step rfl
theorem e155_53 (ph : Bool) (d : Nat) (L st : List zV) (M : zM) : zEv ph d 155 53 L st M = zcont ph d 155 (zstep ph (zEm ph d) 80 54 0 [0, 1] L st M) := zEv_step rfl
theorem m180 (ph : Bool) (d : Nat) (a x0 p0 y0 : Int) (M : zM) : zEm ph (d + 1) 180 [(30, a, x0), (0, p0, y0)] M = zEv ph d 180 0 [(30, a, x0), (0, p0, y0)] [] M := rfl
theorem e180_0 (ph : Bool) (d : Nat) (L st : List zV) (M : zM) : zEv ph d 180 0 L st M = zcont ph d 180 (zstep ph (zEm ph d) 4 1 0 [0] L st M) := zEv_step rfl
theorem e180_1 (ph : Bool) (d : Nat) (L st : List zV) (M : zM) : zEv ph d 180 1 L st M = zcont ph d 180 (zstep ph (zEm ph d) 60 4 0 [30, 7] L st M) := zEv_step rfl
theorem e180_4 (ph : Bool) (d : Nat) (L st : List zV) (M : zM) : zEv ph d 180 4 L st M = zcont ph d 180 (zstep ph (zEm ph d) 0 5 0 [4] L st M) := zEv_step rfl
theorem e180_5 (ph : Bool) (d : Nat) (L st : List zV) (M : zM) : zEv ph d 180 5 L st M = zcont ph d 180 (zstep ph (zEm ph d) 47 8 20 [] L st M) := zEv_step rfl
theorem e180_8 (ph : Bool) (d : Nat) (L st : List zV) (M : zM) : zEv ph d 180 8 L st M = zcont ph d 180 (zstep ph (zEm ph d) 4 9 0 [0] L st M) := zEv_step rfl
theorem e180_9 (ph : Bool) (d : Nat) (L st : List zV) (M : zM) : zEv ph d 180 9 L st M = zcont ph d 180 (zstep ph (zEm ph d) 60 12 0 [30, 9] L st M) := zEv_step rfl
theorem e180_12 (ph : Bool) (d : Nat) (L st : List zV) (M : zM) : zEv ph d 180 12 L st M = zcont ph d 180 (zstep ph (zEm ph d) 2 13 0 [1] L st M) := zEv_step rfl
theorem e180_13 (ph : Bool) (d : Nat) (L st : List zV) (M : zM) : zEv ph d 180 13 L st M = zcont ph d 180 (zstep ph (zEm ph d) 47 16 20 [] L st M) := zEv_step rfl
theorem e180_16 (ph : Bool) (d : Nat) (L st : List zV) (M : zM) : zEv ph d 180 16 L st M = zcont ph d 180 (zstep ph (zEm ph d) 0 17 0 [1] L st M) := zEv_step rfl
theorem e180_17 (ph : Bool) (d : Nat) (L st : List zV) (M : zM) : zEv ph d 180 17 L st M = zcont ph d 180 (zstep ph (zEm ph d) 52 20 21 [] L st M) := zEv_step rfl
theorem e180_20 (ph : Bool) (d : Nat) (L st : List zV) (M : zM) : zEv ph d 180 20 L st M = zcont ph d 180 (zstep ph (zEm ph d) 0 21 0 [0] L st M) := zEv_step rfl
theorem e180_21 (ph : Bool) (d : Nat) (L st : List zV) (M : zM) : zEv ph d 180 21 L st M = zcont ph d 180 (zstep ph (zEm ph d) 80 22 0 [0, 1] L st M) := zEv_step rfl
theorem m182 (ph : Bool) (d : Nat) (a x0 p0 y0 : Int) (M : zM) : zEm ph (d + 1) 182 [(30, a, x0), (0, p0, y0)] M = zEv ph d 182 0 [(30, a, x0), (0, p0, y0)] [] M := rfl
theorem e182_0 (ph : Bool) (d : Nat) (L st : List zV) (M : zM) : zEv ph d 182 0 L st M = zcont ph d 182 (zstep ph (zEm ph d) 4 1 0 [0] L st M) := zEv_step rfl
theorem e182_1 (ph : Bool) (d : Nat) (L st : List zV) (M : zM) : zEv ph d 182 1 L st M = zcont ph d 182 (zstep ph (zEm ph d) 4 2 0 [0] L st M) := zEv_step rfl
theorem e182_2 (ph : Bool) (d : Nat) (L st : List zV) (M : zM) : zEv ph d 182 2 L st M = zcont ph d 182 (zstep ph (zEm ph d) 60 5 0 [30, 7] L st M) := zEv_step rfl
theorem e182_5 (ph : Bool) (d : Nat) (L st : List zV) (M : zM) : zEv ph d 182 5 L st M = zcont ph d 182 (zstep ph (zEm ph d) 0 6 0 [1] L st M) := zEv_step rfl
theorem e182_6 (ph : Bool) (d : Nat) (L st : List zV) (M : zM) : zEv ph d 182 6 L st M = zcont ph d 182 (zstep ph (zEm ph d) 47 9 13 [] L st M) := zEv_step rfl
theorem e182_9 (ph : Bool) (d : Nat) (L st : List zV) (M : zM) : zEv ph d 182 9 L st M = zcont ph d 182 (zstep ph (zEm ph d) 0 10 0 [1] L st M) := zEv_step rfl
theorem e182_10 (ph : Bool) (d : Nat) (L st : List zV) (M : zM) : zEv ph d 182 10 L st M = zcont ph d 182 (zstep ph (zEm ph d) 52 13 14 [] L st M) := zEv_step rfl
theorem e182_13 (ph : Bool) (d : Nat) (L st : List zV) (M : zM) : zEv ph d 182 13 L st M = zcont ph d 182 (zstep ph (zEm ph d) 2 14 0 [1] L st M) := zEv_step rfl
theorem e182_14 (ph : Bool) (d : Nat) (L st : List zV) (M : zM) : zEv ph d 182 14 L st M = zcont ph d 182 (zstep ph (zEm ph d) 65 17 0 [30, 10] L st M) := zEv_step rfl
theorem e182_17 (ph : Bool) (d : Nat) (L st : List zV) (M : zM) : zEv ph d 182 17 L st M = zcont ph d 182 (zstep ph (zEm ph d) 4 18 0 [0] L st M) := zEv_step rfl
theorem e182_18 (ph : Bool) (d : Nat) (L st : List zV) (M : zM) : zEv ph d 182 18 L st M = zcont ph d 182 (zstep ph (zEm ph d) 4 19 0 [0] L st M) := zEv_step rfl
theorem e182_19 (ph : Bool) (d : Nat) (L st : List zV) (M : zM) : zEv ph d 182 19 L st M = zcont ph d 182 (zstep ph (zEm ph d) 60 22 0 [30, 6] L st M) := zEv_step rfl
theorem e182_22 (ph : Bool) (d : Nat) (L st : List zV) (M : zM) : zEv ph d 182 22 L st M = zcont ph d 182 (zstep ph (zEm ph d) 65 25 0 [30, 11] L st M) := zEv_step rfl
theorem e182_25 (ph : Bool) (d : Nat) (L st : List zV) (M : zM) : zEv ph d 182 25 L st M = zcont ph d 182 (zstep ph (zEm ph d) 0 26 0 [0] L st M) := zEv_step rfl
theorem e182_26 (ph : Bool) (d : Nat) (L st : List zV) (M : zM) : zEv ph d 182 26 L st M = zcont ph d 182 (zstep ph (zEm ph d) 80 27 0 [0, 1] L st M) := zEv_step rfl
theorem m183 (ph : Bool) (d : Nat) (a x0 p0 y0 p1 y1 : Int) (M : zM) : zEm ph (d + 1) 183 [(30, a, x0), (0, p0, y0), (0, p1, y1)] M = zEv ph d 183 0 [(30, a, x0), (0, p0, y0), (0, p1, y1)] [] M := rfl
theorem e183_0 (ph : Bool) (d : Nat) (L st : List zV) (M : zM) : zEv ph d 183 0 L st M = zcont ph d 183 (zstep ph (zEm ph d) 4 1 0 [0] L st M) := zEv_step rfl
theorem e183_1 (ph : Bool) (d : Nat) (L st : List zV) (M : zM) : zEv ph d 183 1 L st M = zcont ph d 183 (zstep ph (zEm ph d) 60 4 0 [30, 7] L st M) := zEv_step rfl
theorem e183_4 (ph : Bool) (d : Nat) (L st : List zV) (M : zM) : zEv ph d 183 4 L st M = zcont ph d 183 (zstep ph (zEm ph d) 0 5 0 [3] L st M) := zEv_step rfl
theorem e183_5 (ph : Bool) (d : Nat) (L st : List zV) (M : zM) : zEv ph d 183 5 L st M = zcont ph d 183 (zstep ph (zEm ph d) 46 8 14 [] L st M) := zEv_step rfl
theorem e183_8 (ph : Bool) (d : Nat) (L st : List zV) (M : zM) : zEv ph d 183 8 L st M = zcont ph d 183 (zstep ph (zEm ph d) 4 9 0 [0] L st M) := zEv_step rfl
theorem e183_9 (ph : Bool) (d : Nat) (L st : List zV) (M : zM) : zEv ph d 183 9 L st M = zcont ph d 183 (zstep ph (zEm ph d) 0 10 0 [1] L st M) := zEv_step rfl
theorem e183_10 (ph : Bool) (d : Nat) (L st : List zV) (M : zM) : zEv ph d 183 10 L st M = zcont ph d 183 (zstep ph (zEm ph d) 70 13 182 [2, 1, 30] L st M) := zEv_step rfl
theorem e183_13 (ph : Bool) (d : Nat) (L st : List zV) (M : zM) : zEv ph d 183 13 L st M = zcont ph d 183 (zstep ph (zEm ph d) 80 14 0 [0, 1] L st M) := zEv_step rfl
theorem e183_14 (ph : Bool) (d : Nat) (L st : List zV) (M : zM) : zEv ph d 183 14 L st M = zcont ph d 183 (zstep ph (zEm ph d) 4 15 0 [0] L st M) := zEv_step rfl
theorem e183_15 (ph : Bool) (d : Nat) (L st : List zV) (M : zM) : zEv ph d 183 15 L st M = zcont ph d 183 (zstep ph (zEm ph d) 60 18 0 [30, 8] L st M) := zEv_step rfl
theorem e183_18 (ph : Bool) (d : Nat) (L st : List zV) (M : zM) : zEv ph d 183 18 L st M = zcont ph d 183 (zstep ph (zEm ph d) 2 19 0 [1] L st M) := zEv_step rfl
theorem e183_19 (ph : Bool) (d : Nat) (L st : List zV) (M : zM) : zEv ph d 183 19 L st M = zcont ph d 183 (zstep ph (zEm ph d) 2 20 0 [2] L st M) := zEv_step rfl
theorem e183_20 (ph : Bool) (d : Nat) (L st : List zV) (M : zM) : zEv ph d 183 20 L st M = zcont ph d 183 (zstep ph (zEm ph d) 70 23 168 [3, 1, -1] L st M) := zEv_step rfl
theorem e183_23 (ph : Bool) (d : Nat) (L st : List zV) (M : zM) : zEv ph d 183 23 L st M = zcont ph d 183 (zstep ph (zEm ph d) 41 26 32 [] L st M) := zEv_step rfl
theorem e183_26 (ph : Bool) (d : Nat) (L st : List zV) (M : zM) : zEv ph d 183 26 L st M = zcont ph d 183 (zstep ph (zEm ph d) 4 27 0 [0] L st M) := zEv_step rfl
theorem e183_27 (ph : Bool) (d : Nat) (L st : List zV) (M : zM) : zEv ph d 183 27 L st M = zcont ph d 183 (zstep ph (zEm ph d) 0 28 0 [2] L st M) := zEv_step rfl
theorem e183_28 (ph : Bool) (d : Nat) (L st : List zV) (M : zM) : zEv ph d 183 28 L st M = zcont ph d 183 (zstep ph (zEm ph d) 70 31 182 [2, 1, 30] L st M) := zEv_step rfl
theorem e183_31 (ph : Bool) (d : Nat) (L st : List zV) (M : zM) : zEv ph d 183 31 L st M = zcont ph d 183 (zstep ph (zEm ph d) 80 32 0 [0, 1] L st M) := zEv_step rfl
theorem e183_32 (ph : Bool) (d : Nat) (L st : List zV) (M : zM) : zEv ph d 183 32 L st M = zcont ph d 183 (zstep ph (zEm ph d) 4 33 0 [0] L st M) := zEv_step rfl
theorem e183_33 (ph : Bool) (d : Nat) (L st : List zV) (M : zM) : zEv ph d 183 33 L st M = zcont ph d 183 (zstep ph (zEm ph d) 4 34 0 [0] L st M) := zEv_step rfl
theorem e183_34 (ph : Bool) (d : Nat) (L st : List zV) (M : zM) : zEv ph d 183 34 L st M = zcont ph d 183 (zstep ph (zEm ph d) 60 37 0 [30, 8] L st M) := zEv_step rfl
theorem e183_37 (ph : Bool) (d : Nat) (L st : List zV) (M : zM) : zEv ph d 183 37 L st M = zcont ph d 183 (zstep ph (zEm ph d) 65 40 0 [30, 13] L st M) := zEv_step rfl
theorem e183_40 (ph : Bool) (d : Nat) (L st : List zV) (M : zM) : zEv ph d 183 40 L st M = zcont ph d 183 (zstep ph (zEm ph d) 4 41 0 [0] L st M) := zEv_step rfl
theorem e183_41 (ph : Bool) (d : Nat) (L st : List zV) (M : zM) : zEv ph d 183 41 L st M = zcont ph d 183 (zstep ph (zEm ph d) 70 44 176 [1, 0, 30] L st M) := zEv_step rfl
theorem e183_44 (ph : Bool) (d : Nat) (L st : List zV) (M : zM) : zEv ph d 183 44 L st M = zcont ph d 183 (zstep ph (zEm ph d) 0 45 0 [1] L st M) := zEv_step rfl
theorem e183_45 (ph : Bool) (d : Nat) (L st : List zV) (M : zM) : zEv ph d 183 45 L st M = zcont ph d 183 (zstep ph (zEm ph d) 80 46 0 [0, 1] L st M) := zEv_step rfl
theorem m184 (ph : Bool) (d : Nat) (a x0 : Int) (M : zM) : zEm ph (d + 1) 184 [(30, a, x0)] M = zEv ph d 184 0 [(30, a, x0)] [] M := rfl
theorem e184_0 (ph : Bool) (d : Nat) (L st : List zV) (M : zM) : zEv ph d 184 0 L st M = zcont ph d 184 (zstep ph (zEm ph d) 4 1 0 [0] L st M) := zEv_step rfl
theorem e184_1 (ph : Bool) (d : Nat) (L st : List zV) (M : zM) : zEv ph d 184 1 L st M = zcont ph d 184 (zstep ph (zEm ph d) 0 3 0 [59] L st M) := zEv_step rfl
theorem e184_3 (ph : Bool) (d : Nat) (L st : List zV) (M : zM) : zEv ph d 184 3 L st M = zcont ph d 184 (zstep ph (zEm ph d) 70 6 180 [2, 1, 30] L st M) := zEv_step rfl
theorem e184_6 (ph : Bool) (d : Nat) (L st : List zV) (M : zM) : zEv ph d 184 6 L st M = zcont ph d 184 (zstep ph (zEm ph d) 41 9 15 [] L st M) := zEv_step rfl
theorem e184_9 (ph : Bool) (d : Nat) (L st : List zV) (M : zM) : zEv ph d 184 9 L st M = zcont ph d 184 (zstep ph (zEm ph d) 4 10 0 [0] L st M) := zEv_step rfl
theorem e184_10 (ph : Bool) (d : Nat) (L st : List zV) (M : zM) : zEv ph d 184 10 L st M = zcont ph d 184 (zstep ph (zEm ph d) 0 11 0 [1] L st M) := zEv_step rfl
theorem e184_11 (ph : Bool) (d : Nat) (L st : List zV) (M : zM) : zEv ph d 184 11 L st M = zcont ph d 184 (zstep ph (zEm ph d) 70 14 182 [2, 1, 30] L st M) := zEv_step rfl
theorem e184_14 (ph : Bool) (d : Nat) (L st : List zV) (M : zM) : zEv ph d 184 14 L st M = zcont ph d 184 (zstep ph (zEm ph d) 80 15 0 [0, 1] L st M) := zEv_step rfl
theorem e184_15 (ph : Bool) (d : Nat) (L st : List zV) (M : zM) : zEv ph d 184 15 L st M = zcont ph d 184 (zstep ph (zEm ph d) 4 16 0 [0] L st M) := zEv_step rfl
theorem e184_16 (ph : Bool) (d : Nat) (L st : List zV) (M : zM) : zEv ph d 184 16 L st M = zcont ph d 184 (zstep ph (zEm ph d) 70 19 176 [1, 0, 30] L st M) := zEv_step rfl
theorem e184_19 (ph : Bool) (d : Nat) (L st : List zV) (M : zM) : zEv ph d 184 19 L st M = zcont ph d 184 (zstep ph (zEm ph d) 0 20 0 [1] L st M) := zEv_step rfl
theorem e184_20 (ph : Bool) (d : Nat) (L st : List zV) (M : zM) : zEv ph d 184 20 L st M = zcont ph d 184 (zstep ph (zEm ph d) 80 21 0 [0, 1] L st M) := zEv_step rfl
theorem m188 (ph : Bool) (d : Nat) (p0 y0 p1 y1 p2 y2 p3 y3 : Int) (M : zM) : zEm ph (d + 1) 188 [(11, p0, y0), (0, p1, y1), (0, p2, y2), (1, p3, y3)] M = zEv ph d 188 0 [(11, p0, y0), (0, p1, y1), (0, p2, y2), (1, p3, y3), (3, 0, 0), (3, 0, 0)] [] M := rfl
theorem e188_0 (ph : Bool) (d : Nat) (L st : List zV) (M : zM) : zEv ph d 188 0 L st M = zcont ph d 188 (zstep ph (zEm ph d) 0 1 0 [0] L st M) := zEv_step rfl
theorem e188_1 (ph : Bool) (d : Nat) (L st : List zV) (M : zM) : zEv ph d 188 1 L st M = zcont ph d 188 (zstep ph (zEm ph d) 5 3 0 [5] L st M) := zEv_step rfl
theorem e188_3 (ph : Bool) (d : Nat) (L st : List zV) (M : zM) : zEv ph d 188 3 L st M = zcont ph d 188 (zstep ph (zEm ph d) 2 5 0 [5] L st M) := zEv_step rfl
theorem e188_5 (ph : Bool) (d : Nat) (L st : List zV) (M : zM) : zEv ph d 188 5 L st M = zcont ph d 188 (zstep ph (zEm ph d) 2 6 0 [2] L st M) := zEv_step rfl
theorem e188_6 (ph : Bool) (d : Nat) (L st : List zV) (M : zM) : zEv ph d 188 6 L st M = zcont ph d 188 (zstep ph (zEm ph d) 49 9 29 [] L st M) := zEv_step rfl
theorem e188_9 (ph : Bool) (d : Nat) (L st : List zV) (M : zM) : zEv ph d 188 9 L st M = zcont ph d 188 (zstep ph (zEm ph d) 4 10 0 [0] L st M) := zEv_step rfl
theorem e188_10 (ph : Bool) (d : Nat) (L st : List zV) (M : zM) : zEv ph d 188 10 L st M = zcont ph d 188 (zstep ph (zEm ph d) 2 11 0 [1] L st M) := zEv_step rfl
theorem e188_11 (ph : Bool) (d : Nat) (L st : List zV) (M : zM) : zEv ph d 188 11 L st M = zcont ph d 188 (zstep ph (zEm ph d) 2 13 0 [5] L st M) := zEv_step rfl
theorem e188_13 (ph : Bool) (d : Nat) (L st : List zV) (M : zM) : zEv ph d 188 13 L st M = zcont ph d 188 (zstep ph (zEm ph d) 10 14 0 [] L st M) := zEv_step rfl
theorem e188_14 (ph : Bool) (d : Nat) (L st : List zV) (M : zM) : zEv ph d 188 14 L st M = zcont ph d 188 (zstep ph (zEm ph d) 86 15 0 [] L st M) := zEv_step rfl
theorem e188_15 (ph : Bool) (d : Nat) (L st : List zV) (M : zM) : zEv ph d 188 15 L st M = zcont ph d 188 (zstep ph (zEm ph d) 3 16 0 [3] L st M) := zEv_step rfl
theorem e188_16 (ph : Bool) (d : Nat) (L st : List zV) (M : zM) : zEv ph d 188 16 L st M = zcont ph d 188 (zstep ph (zEm ph d) 27 17 0 [] L st M) := zEv_step rfl
theorem e188_17 (ph : Bool) (d : Nat) (L st : List zV) (M : zM) : zEv ph d 188 17 L st M = zcont ph d 188 (zstep ph (zEm ph d) 41 20 23 [] L st M) := zEv_step rfl
theorem e188_20 (ph : Bool) (d : Nat) (L st : List zV) (M : zM) : zEv ph d 188 20 L st M = zcont ph d 188 (zstep ph (zEm ph d) 2 22 0 [5] L st M) := zEv_step rfl
theorem e188_22 (ph : Bool) (d : Nat) (L st : List zV) (M : zM) : zEv ph d 188 22 L st M = zcont ph d 188 (zstep ph (zEm ph d) 80 23 0 [] L st M) := zEv_step rfl
theorem e188_23 (ph : Bool) (d : Nat) (L st : List zV) (M : zM) : zEv ph d 188 23 L st M = zcont ph d 188 (zstep ph (zEm ph d) 8 26 0 [5, 1] L st M) := zEv_step rfl
theorem e188_26 (ph : Bool) (d : Nat) (L st : List zV) (M : zM) : zEv ph d 188 26 L st M = zcont ph d 188 (zstep ph (zEm ph d) 52 29 3 [] L st M) := zEv_step rfl
theorem e188_29 (ph : Bool) (d : Nat) (L st : List zV) (M : zM) : zEv ph d 188 29 L st M = zcont ph d 188 (zstep ph (zEm ph d) 0 30 0 [-1] L st M) := zEv_step rfl
theorem e188_30 (ph : Bool) (d : Nat) (L st : List zV) (M : zM) : zEv ph d 188 30 L st M = zcont ph d 188 (zstep ph (zEm ph d) 80 31 0 [] L st M) := zEv_step rfl
theorem m195 (ph : Bool) (d : Nat) (a x0 : Int) (M : zM) : zEm ph (d + 1) 195 [(30, a, x0)] M = zEv ph d 195 0 [(30, a, x0)] [] M := rfl
theorem e195_0 (ph : Bool) (d : Nat) (L st : List zV) (M : zM) : zEv ph d 195 0 L st M = zcont ph d 195 (zstep ph (zEm ph d) 4 1 0 [0] L st M) := zEv_step rfl
theorem e195_1 (ph : Bool) (d : Nat) (L st : List zV) (M : zM) : zEv ph d 195 1 L st M = zcont ph d 195 (zstep ph (zEm ph d) 0 2 0 [4] L st M) := zEv_step rfl
theorem e195_2 (ph : Bool) (d : Nat) (L st : List zV) (M : zM) : zEv ph d 195 2 L st M = zcont ph d 195 (zstep ph (zEm ph d) 70 5 179 [2, 1, 30] L st M) := zEv_step rfl
theorem e195_5 (ph : Bool) (d : Nat) (L st : List zV) (M : zM) : zEv ph d 195 5 L st M = zcont ph d 195 (zstep ph (zEm ph d) 41 8 22 [] L st M) := zEv_step rfl
theorem e195_8 (ph : Bool) (d : Nat) (L st : List zV) (M : zM) : zEv ph d 195 8 L st M = zcont ph d 195 (zstep ph (zEm ph d) 4 9 0 [0] L st M) := zEv_step rfl
theorem e195_9 (ph : Bool) (d : Nat) (L st : List zV) (M : zM) : zEv ph d 195 9 L st M = zcont ph d 195 (zstep ph (zEm ph d) 0 10 0 [5] L st M) := zEv_step rfl
theorem e195_10 (ph : Bool) (d : Nat) (L st : List zV) (M : zM) : zEv ph d 195 10 L st M = zcont ph d 195 (zstep ph (zEm ph d) 70 13 179 [2, 1, 30] L st M) := zEv_step rfl
theorem e195_13 (ph : Bool) (d : Nat) (L st : List zV) (M : zM) : zEv ph d 195 13 L st M = zcont ph d 195 (zstep ph (zEm ph d) 41 16 22 [] L st M) := zEv_step rfl
theorem e195_16 (ph : Bool) (d : Nat) (L st : List zV) (M : zM) : zEv ph d 195 16 L st M = zcont ph d 195 (zstep ph (zEm ph d) 4 17 0 [0] L st M) := zEv_step rfl
theorem e195_17 (ph : Bool) (d : Nat) (L st : List zV) (M : zM) : zEv ph d 195 17 L st M = zcont ph d 195 (zstep ph (zEm ph d) 0 18 0 [1] L st M) := zEv_step rfl
theorem e195_18 (ph : Bool) (d : Nat) (L st : List zV) (M : zM) : zEv ph d 195 18 L st M = zcont ph d 195 (zstep ph (zEm ph d) 70 21 182 [2, 1, 30] L st M) := zEv_step rfl
theorem e195_21 (ph : Bool) (d : Nat) (L st : List zV) (M : zM) : zEv ph d 195 21 L st M = zcont ph d 195 (zstep ph (zEm ph d) 80 22 0 [0, 1] L st M) := zEv_step rfl
theorem e195_22 (ph : Bool) (d : Nat) (L st : List zV) (M : zM) : zEv ph d 195 22 L st M = zcont ph d 195 (zstep ph (zEm ph d) 4 23 0 [0] L st M) := zEv_step rfl
theorem e195_23 (ph : Bool) (d : Nat) (L st : List zV) (M : zM) : zEv ph d 195 23 L st M = zcont ph d 195 (zstep ph (zEm ph d) 4 24 0 [0] L st M) := zEv_step rfl
theorem e195_24 (ph : Bool) (d : Nat) (L st : List zV) (M : zM) : zEv ph d 195 24 L st M = zcont ph d 195 (zstep ph (zEm ph d) 0 25 0 [4] L st M) := zEv_step rfl
theorem e195_25 (ph : Bool) (d : Nat) (L st : List zV) (M : zM) : zEv ph d 195 25 L st M = zcont ph d 195 (zstep ph (zEm ph d) 70 28 179 [2, 1, 30] L st M) := zEv_step rfl
theorem e195_28 (ph : Bool) (d : Nat) (L st : List zV) (M : zM) : zEv ph d 195 28 L st M = zcont ph d 195 (zstep ph (zEm ph d) 40 31 35 [] L st M) := zEv_step rfl
theorem e195_31 (ph : Bool) (d : Nat) (L st : List zV) (M : zM) : zEv ph d 195 31 L st M = zcont ph d 195 (zstep ph (zEm ph d) 0 32 0 [0] L st M) := zEv_step rfl
theorem e195_32 (ph : Bool) (d : Nat) (L st : List zV) (M : zM) : zEv ph d 195 32 L st M = zcont ph d 195 (zstep ph (zEm ph d) 52 35 36 [] L st M) := zEv_step rfl
theorem e195_35 (ph : Bool) (d : Nat) (L st : List zV) (M : zM) : zEv ph d 195 35 L st M = zcont ph d 195 (zstep ph (zEm ph d) 0 36 0 [1] L st M) := zEv_step rfl
theorem e195_36 (ph : Bool) (d : Nat) (L st : List zV) (M : zM) : zEv ph d 195 36 L st M = zcont ph d 195 (zstep ph (zEm ph d) 65 39 0 [30, 13] L st M) := zEv_step rfl
theorem e195_39 (ph : Bool) (d : Nat) (L st : List zV) (M : zM) : zEv ph d 195 39 L st M = zcont ph d 195 (zstep ph (zEm ph d) 0 40 0 [1] L st M) := zEv_step rfl
theorem e195_40 (ph : Bool) (d : Nat) (L st : List zV) (M : zM) : zEv ph d 195 40 L st M = zcont ph d 195 (zstep ph (zEm ph d) 80 41 0 [0, 1] L st M) := zEv_step rfl
theorem m190 (ph : Bool) (d : Nat) (a x0 p0 y0 p1 y1 : Int) (M : zM) : zEm ph (d + 1) 190 [(30, a, x0), (0, p0, y0), (0, p1, y1)] M = zEv ph d 190 0 [(30, a, x0), (0, p0, y0), (0, p1, y1)] [] M := rfl
theorem e190_0 (ph : Bool) (d : Nat) (L st : List zV) (M : zM) : zEv ph d 190 0 L st M = zcont ph d 190 (zstep ph (zEm ph d) 4 1 0 [0] L st M) := zEv_step rfl
theorem e190_1 (ph : Bool) (d : Nat) (L st : List zV) (M : zM) : zEv ph d 190 1 L st M = zcont ph d 190 (zstep ph (zEm ph d) 70 4 181 [1, 1, 30] L st M) := zEv_step rfl
theorem e190_4 (ph : Bool) (d : Nat) (L st : List zV) (M : zM) : zEv ph d 190 4 L st M = zcont ph d 190 (zstep ph (zEm ph d) 41 7 13 [] L st M) := zEv_step rfl
theorem e190_7 (ph : Bool) (d : Nat) (L st : List zV) (M : zM) : zEv ph d 190 7 L st M = zcont ph d 190 (zstep ph (zEm ph d) 4 8 0 [0] L st M) := zEv_step rfl
theorem e190_8 (ph : Bool) (d : Nat) (L st : List zV) (M : zM) : zEv ph d 190 8 L st M = zcont ph d 190 (zstep ph (zEm ph d) 0 9 0 [1] L st M) := zEv_step rfl
theorem e190_9 (ph : Bool) (d : Nat) (L st : List zV) (M : zM) : zEv ph d 190 9 L st M = zcont ph d 190 (zstep ph (zEm ph d) 70 12 182 [2, 1, 30] L st M) := zEv_step rfl
theorem e190_12 (ph : Bool) (d : Nat) (L st : List zV) (M : zM) : zEv ph d 190 12 L st M = zcont ph d 190 (zstep ph (zEm ph d) 80 13 0 [0, 1] L st M) := zEv_step rfl
theorem e190_13 (ph : Bool) (d : Nat) (L st : List zV) (M : zM) : zEv ph d 190 13 L st M = zcont ph d 190 (zstep ph (zEm ph d) 4 14 0 [0] L st M) := zEv_step rfl
theorem e190_14 (ph : Bool) (d : Nat) (L st : List zV) (M : zM) : zEv ph d 190 14 L st M = zcont ph d 190 (zstep ph (zEm ph d) 4 15 0 [0] L st M) := zEv_step rfl
theorem e190_15 (ph : Bool) (d : Nat) (L st : List zV) (M : zM) : zEv ph d 190 15 L st M = zcont ph d 190 (zstep ph (zEm ph d) 62 18 0 [30, 20, 8, 11, 20] L st M) := zEv_step rfl
theorem e190_18 (ph : Bool) (d : Nat) (L st : List zV) (M : zM) : zEv ph d 190 18 L st M = zcont ph d 190 (zstep ph (zEm ph d) 2 19 0 [1] L st M) := zEv_step rfl
theorem e190_19 (ph : Bool) (d : Nat) (L st : List zV) (M : zM) : zEv ph d 190 19 L st M = zcont ph d 190 (zstep ph (zEm ph d) 2 20 0 [2] L st M) := zEv_step rfl
theorem e190_20 (ph : Bool) (d : Nat) (L st : List zV) (M : zM) : zEv ph d 190 20 L st M = zcont ph d 190 (zstep ph (zEm ph d) 4 21 0 [0] L st M) := zEv_step rfl
theorem e190_21 (ph : Bool) (d : Nat) (L st : List zV) (M : zM) : zEv ph d 190 21 L st M = zcont ph d 190 (zstep ph (zEm ph d) 61 24 0 [30, 12] L st M) := zEv_step rfl
theorem e190_24 (ph : Bool) (d : Nat) (L st : List zV) (M : zM) : zEv ph d 190 24 L st M = zcont ph d 190 (zstep ph (zEm ph d) 70 27 188 [4, 1, -1] L st M) := zEv_step rfl
theorem e190_27 (ph : Bool) (d : Nat) (L st : List zV) (M : zM) : zEv ph d 190 27 L st M = zcont ph d 190 (zstep ph (zEm ph d) 65 30 0 [30, 13] L st M) := zEv_step rfl
theorem e190_30 (ph : Bool) (d : Nat) (L st : List zV) (M : zM) : zEv ph d 190 30 L st M = zcont ph d 190 (zstep ph (zEm ph d) 4 31 0 [0] L st M) := zEv_step rfl
theorem e190_31 (ph : Bool) (d : Nat) (L st : List zV) (M : zM) : zEv ph d 190 31 L st M = zcont ph d 190 (zstep ph (zEm ph d) 60 34 0 [30, 13] L st M) := zEv_step rfl
theorem e190_34 (ph : Bool) (d : Nat) (L st : List zV) (M : zM) : zEv ph d 190 34 L st M = zcont ph d 190 (zstep ph (zEm ph d) 0 35 0 [-1] L st M) := zEv_step rfl
theorem e190_35 (ph : Bool) (d : Nat) (L st : List zV) (M : zM) : zEv ph d 190 35 L st M = zcont ph d 190 (zstep ph (zEm ph d) 47 38 46 [] L st M) := zEv_step rfl
theorem e190_38 (ph : Bool) (d : Nat) (L st : List zV) (M : zM) : zEv ph d 190 38 L st M = zcont ph d 190 (zstep ph (zEm ph d) 4 39 0 [0] L st M) := zEv_step rfl
theorem e190_39 (ph : Bool) (d : Nat) (L st : List zV) (M : zM) : zEv ph d 190 39 L st M = zcont ph d 190 (zstep ph (zEm ph d) 0 40 0 [3] L st M) := zEv_step rfl
theorem e190_40 (ph : Bool) (d : Nat) (L st : List zV) (M : zM) : zEv ph d 190 40 L st M = zcont ph d 190 (zstep ph (zEm ph d) 70 43 182 [2, 1, 30] L st M) := zEv_step rfl
theorem e190_43 (ph : Bool) (d : Nat) (L st : List zV) (M : zM) : zEv ph d 190 43 L st M = zcont ph d 190 (zstep ph (zEm ph d) 40 46 50 [] L st M) := zEv_step rfl
theorem e190_46 (ph : Bool) (d : Nat) (L st : List zV) (M : zM) : zEv ph d 190 46 L st M = zcont ph d 190 (zstep ph (zEm ph d) 0 47 0 [1] L st M) := zEv_step rfl
theorem e190_47 (ph : Bool) (d : Nat) (L st : List zV) (M : zM) : zEv ph d 190 47 L st M = zcont ph d 190 (zstep ph (zEm ph d) 52 50 51 [] L st M) := zEv_step rfl
theorem e190_50 (ph : Bool) (d : Nat) (L st : List zV) (M : zM) : zEv ph d 190 50 L st M = zcont ph d 190 (zstep ph (zEm ph d) 0 51 0 [0] L st M) := zEv_step rfl
theorem e190_51 (ph : Bool) (d : Nat) (L st : List zV) (M : zM) : zEv ph d 190 51 L st M = zcont ph d 190 (zstep ph (zEm ph d) 80 52 0 [0, 1] L st M) := zEv_step rfl
theorem m191 (ph : Bool) (d : Nat) (a x0 p0 y0 p1 y1 : Int) (M : zM) : zEm ph (d + 1) 191 [(30, a, x0), (0, p0, y0), (0, p1, y1)] M = zEv ph d 191 0 [(30, a, x0), (0, p0, y0), (0, p1, y1)] [] M := rfl
theorem e191_0 (ph : Bool) (d : Nat) (L st : List zV) (M : zM) : zEv ph d 191 0 L st M = zcont ph d 191 (zstep ph (zEm ph d) 4 1 0 [0] L st M) := zEv_step rfl
theorem e191_1 (ph : Bool) (d : Nat) (L st : List zV) (M : zM) : zEv ph d 191 1 L st M = zcont ph d 191 (zstep ph (zEm ph d) 2 2 0 [1] L st M) := zEv_step rfl
theorem e191_2 (ph : Bool) (d : Nat) (L st : List zV) (M : zM) : zEv ph d 191 2 L st M = zcont ph d 191 (zstep ph (zEm ph d) 2 3 0 [2] L st M) := zEv_step rfl
theorem e191_3 (ph : Bool) (d : Nat) (L st : List zV) (M : zM) : zEv ph d 191 3 L st M = zcont ph d 191 (zstep ph (zEm ph d) 70 6 190 [3, 1, 30] L st M) := zEv_step rfl
theorem e191_6 (ph : Bool) (d : Nat) (L st : List zV) (M : zM) : zEv ph d 191 6 L st M = zcont ph d 191 (zstep ph (zEm ph d) 41 9 11 [] L st M) := zEv_step rfl
theorem e191_9 (ph : Bool) (d : Nat) (L st : List zV) (M : zM) : zEv ph d 191 9 L st M = zcont ph d 191 (zstep ph (zEm ph d) 0 10 0 [0] L st M) := zEv_step rfl
theorem e191_10 (ph : Bool) (d : Nat) (L st : List zV) (M : zM) : zEv ph d 191 10 L st M = zcont ph d 191 (zstep ph (zEm ph d) 80 11 0 [0, 1] L st M) := zEv_step rfl
theorem e191_11 (ph : Bool) (d : Nat) (L st : List zV) (M : zM) : zEv ph d 191 11 L st M = zcont ph d 191 (zstep ph (zEm ph d) 4 12 0 [0] L st M) := zEv_step rfl
theorem e191_12 (ph : Bool) (d : Nat) (L st : List zV) (M : zM) : zEv ph d 191 12 L st M = zcont ph d 191 (zstep ph (zEm ph d) 70 15 176 [1, 0, 30] L st M) := zEv_step rfl
theorem e191_15 (ph : Bool) (d : Nat) (L st : List zV) (M : zM) : zEv ph d 191 15 L st M = zcont ph d 191 (zstep ph (zEm ph d) 0 16 0 [1] L st M) := zEv_step rfl
theorem e191_16 (ph : Bool) (d : Nat) (L st : List zV) (M : zM) : zEv ph d 191 16 L st M = zcont ph d 191 (zstep ph (zEm ph d) 80 17 0 [0, 1] L st M) := zEv_step rfl
theorem m189 (ph : Bool) (d : Nat) (a x0 p0 y0 : Int) (M : zM) : zEm ph (d + 1) 189 [(30, a, x0), (0, p0, y0)] M = zEv ph d 189 0 [(30, a, x0), (0, p0, y0)] [] M := rfl
theorem e189_0 (ph : Bool) (d : Nat) (L st : List zV) (M : zM) : zEv ph d 189 0 L st M = zcont ph d 189 (zstep ph (zEm ph d) 4 1 0 [0] L st M) := zEv_step rfl
theorem e189_1 (ph : Bool) (d : Nat) (L st : List zV) (M : zM) : zEv ph d 189 1 L st M = zcont ph d 189 (zstep ph (zEm ph d) 70 4 181 [1, 1, 30] L st M) := zEv_step rfl
theorem e189_4 (ph : Bool) (d : Nat) (L st : List zV) (M : zM) : zEv ph d 189 4 L st M = zcont ph d 189 (zstep ph (zEm ph d) 41 7 13 [] L st M) := zEv_step rfl
theorem e189_7 (ph : Bool) (d : Nat) (L st : List zV) (M : zM) : zEv ph d 189 7 L st M = zcont ph d 189 (zstep ph (zEm ph d) 4 8 0 [0] L st M) := zEv_step rfl
theorem e189_8 (ph : Bool) (d : Nat) (L st : List zV) (M : zM) : zEv ph d 189 8 L st M = zcont ph d 189 (zstep ph (zEm ph d) 0 9 0 [1] L st M) := zEv_step rfl
theorem e189_9 (ph : Bool) (d : Nat) (L st : List zV) (M : zM) : zEv ph d 189 9 L st M = zcont ph d 189 (zstep ph (zEm ph d) 70 12 182 [2, 1, 30] L st M) := zEv_step rfl
theorem e189_12 (ph : Bool) (d : Nat) (L st : List zV) (M : zM) : zEv ph d 189 12 L st M = zcont ph d 189 (zstep ph (zEm ph d) 80 13 0 [0, 1] L st M) := zEv_step rfl
theorem e189_13 (ph : Bool) (d : Nat) (L st : List zV) (M : zM) : zEv ph d 189 13 L st M = zcont ph d 189 (zstep ph (zEm ph d) 4 14 0 [0] L st M) := zEv_step rfl
theorem e189_14 (ph : Bool) (d : Nat) (L st : List zV) (M : zM) : zEv ph d 189 14 L st M = zcont ph d 189 (zstep ph (zEm ph d) 62 17 0 [30, 20, 8, 11, 20] L st M) := zEv_step rfl
theorem e189_17 (ph : Bool) (d : Nat) (L st : List zV) (M : zM) : zEv ph d 189 17 L st M = zcont ph d 189 (zstep ph (zEm ph d) 0 18 0 [0] L st M) := zEv_step rfl
theorem e189_18 (ph : Bool) (d : Nat) (L st : List zV) (M : zM) : zEv ph d 189 18 L st M = zcont ph d 189 (zstep ph (zEm ph d) 4 19 0 [0] L st M) := zEv_step rfl
theorem e189_19 (ph : Bool) (d : Nat) (L st : List zV) (M : zM) : zEv ph d 189 19 L st M = zcont ph d 189 (zstep ph (zEm ph d) 62 22 0 [30, 15, 3, 10, 75] L st M) := zEv_step rfl
theorem e189_22 (ph : Bool) (d : Nat) (L st : List zV) (M : zM) : zEv ph d 189 22 L st M = zcont ph d 189 (zstep ph (zEm ph d) 0 23 0 [0] L st M) := zEv_step rfl
theorem e189_23 (ph : Bool) (d : Nat) (L st : List zV) (M : zM) : zEv ph d 189 23 L st M = zcont ph d 189 (zstep ph (zEm ph d) 85 24 0 [] L st M) := zEv_step rfl
theorem e189_24 (ph : Bool) (d : Nat) (L st : List zV) (M : zM) : zEv ph d 189 24 L st M = zcont ph d 189 (zstep ph (zEm ph d) 4 25 0 [0] L st M) := zEv_step rfl
theorem e189_25 (ph : Bool) (d : Nat) (L st : List zV) (M : zM) : zEv ph d 189 25 L st M = zcont ph d 189 (zstep ph (zEm ph d) 61 28 0 [30, 12] L st M) := zEv_step rfl
theorem e189_28 (ph : Bool) (d : Nat) (L st : List zV) (M : zM) : zEv ph d 189 28 L st M = zcont ph d 189 (zstep ph (zEm ph d) 70 31 188 [4, 1, -1] L st M) := zEv_step rfl
theorem e189_31 (ph : Bool) (d : Nat) (L st : List zV) (M : zM) : zEv ph d 189 31 L st M = zcont ph d 189 (zstep ph (zEm ph d) 0 32 0 [-1] L st M) := zEv_step rfl
theorem e189_32 (ph : Bool) (d : Nat) (L st : List zV) (M : zM) : zEv ph d 189 32 L st M = zcont ph d 189 (zstep ph (zEm ph d) 47 35 80 [] L st M) := zEv_step rfl
theorem e189_35 (ph : Bool) (d : Nat) (L st : List zV) (M : zM) : zEv ph d 189 35 L st M = zcont ph d 189 (zstep ph (zEm ph d) 4 36 0 [0] L st M) := zEv_step rfl
theorem e189_36 (ph : Bool) (d : Nat) (L st : List zV) (M : zM) : zEv ph d 189 36 L st M = zcont ph d 189 (zstep ph (zEm ph d) 62 39 0 [30, 20, 8, 11, 20] L st M) := zEv_step rfl
theorem e189_39 (ph : Bool) (d : Nat) (L st : List zV) (M : zM) : zEv ph d 189 39 L st M = zcont ph d 189 (zstep ph (zEm ph d) 0 40 0 [5] L st M) := zEv_step rfl
theorem e189_40 (ph : Bool) (d : Nat) (L st : List zV) (M : zM) : zEv ph d 189 40 L st M = zcont ph d 189 (zstep ph (zEm ph d) 4 41 0 [0] L st M) := zEv_step rfl
theorem e189_41 (ph : Bool) (d : Nat) (L st : List zV) (M : zM) : zEv ph d 189 41 L st M = zcont ph d 189 (zstep ph (zEm ph d) 62 44 0 [30, 15, 3, 10, 75] L st M) := zEv_step rfl
theorem e189_44 (ph : Bool) (d : Nat) (L st : List zV) (M : zM) : zEv ph d 189 44 L st M = zcont ph d 189 (zstep ph (zEm ph d) 0 45 0 [1] L st M) := zEv_step rfl
theorem e189_45 (ph : Bool) (d : Nat) (L st : List zV) (M : zM) : zEv ph d 189 45 L st M = zcont ph d 189 (zstep ph (zEm ph d) 85 46 0 [] L st M) := zEv_step rfl
theorem e189_46 (ph : Bool) (d : Nat) (L st : List zV) (M : zM) : zEv ph d 189 46 L st M = zcont ph d 189 (zstep ph (zEm ph d) 4 47 0 [0] L st M) := zEv_step rfl
theorem e189_47 (ph : Bool) (d : Nat) (L st : List zV) (M : zM) : zEv ph d 189 47 L st M = zcont ph d 189 (zstep ph (zEm ph d) 61 50 0 [30, 12] L st M) := zEv_step rfl
theorem e189_50 (ph : Bool) (d : Nat) (L st : List zV) (M : zM) : zEv ph d 189 50 L st M = zcont ph d 189 (zstep ph (zEm ph d) 70 53 188 [4, 1, -1] L st M) := zEv_step rfl
theorem e189_53 (ph : Bool) (d : Nat) (L st : List zV) (M : zM) : zEv ph d 189 53 L st M = zcont ph d 189 (zstep ph (zEm ph d) 0 54 0 [-1] L st M) := zEv_step rfl
theorem e189_54 (ph : Bool) (d : Nat) (L st : List zV) (M : zM) : zEv ph d 189 54 L st M = zcont ph d 189 (zstep ph (zEm ph d) 47 57 80 [] L st M) := zEv_step rfl
theorem e189_57 (ph : Bool) (d : Nat) (L st : List zV) (M : zM) : zEv ph d 189 57 L st M = zcont ph d 189 (zstep ph (zEm ph d) 4 58 0 [0] L st M) := zEv_step rfl
theorem e189_58 (ph : Bool) (d : Nat) (L st : List zV) (M : zM) : zEv ph d 189 58 L st M = zcont ph d 189 (zstep ph (zEm ph d) 62 61 0 [30, 20, 8, 11, 20] L st M) := zEv_step rfl
theorem e189_61 (ph : Bool) (d : Nat) (L st : List zV) (M : zM) : zEv ph d 189 61 L st M = zcont ph d 189 (zstep ph (zEm ph d) 0 63 0 [15] L st M) := zEv_step rfl
theorem e189_63 (ph : Bool) (d : Nat) (L st : List zV) (M : zM) : zEv ph d 189 63 L st M = zcont ph d 189 (zstep ph (zEm ph d) 4 64 0 [0] L st M) := zEv_step rfl
theorem e189_64 (ph : Bool) (d : Nat) (L st : List zV) (M : zM) : zEv ph d 189 64 L st M = zcont ph d 189 (zstep ph (zEm ph d) 62 67 0 [30, 15, 3, 10, 75] L st M) := zEv_step rfl
theorem e189_67 (ph : Bool) (d : Nat) (L st : List zV) (M : zM) : zEv ph d 189 67 L st M = zcont ph d 189 (zstep ph (zEm ph d) 0 68 0 [2] L st M) := zEv_step rfl
theorem e189_68 (ph : Bool) (d : Nat) (L st : List zV) (M : zM) : zEv ph d 189 68 L st M = zcont ph d 189 (zstep ph (zEm ph d) 85 69 0 [] L st M) := zEv_step rfl
theorem e189_69 (ph : Bool) (d : Nat) (L st : List zV) (M : zM) : zEv ph d 189 69 L st M = zcont ph d 189 (zstep ph (zEm ph d) 4 70 0 [0] L st M) := zEv_step rfl
theorem e189_70 (ph : Bool) (d : Nat) (L st : List zV) (M : zM) : zEv ph d 189 70 L st M = zcont ph d 189 (zstep ph (zEm ph d) 61 73 0 [30, 12] L st M) := zEv_step rfl
theorem e189_73 (ph : Bool) (d : Nat) (L st : List zV) (M : zM) : zEv ph d 189 73 L st M = zcont ph d 189 (zstep ph (zEm ph d) 70 76 188 [4, 1, -1] L st M) := zEv_step rfl
theorem e189_76 (ph : Bool) (d : Nat) (L st : List zV) (M : zM) : zEv ph d 189 76 L st M = zcont ph d 189 (zstep ph (zEm ph d) 0 77 0 [-1] L st M) := zEv_step rfl
theorem e189_77 (ph : Bool) (d : Nat) (L st : List zV) (M : zM) : zEv ph d 189 77 L st M = zcont ph d 189 (zstep ph (zEm ph d) 46 80 86 [] L st M) := zEv_step rfl
theorem e189_80 (ph : Bool) (d : Nat) (L st : List zV) (M : zM) : zEv ph d 189 80 L st M = zcont ph d 189 (zstep ph (zEm ph d) 4 81 0 [0] L st M) := zEv_step rfl
theorem e189_81 (ph : Bool) (d : Nat) (L st : List zV) (M : zM) : zEv ph d 189 81 L st M = zcont ph d 189 (zstep ph (zEm ph d) 0 82 0 [3] L st M) := zEv_step rfl
theorem e189_82 (ph : Bool) (d : Nat) (L st : List zV) (M : zM) : zEv ph d 189 82 L st M = zcont ph d 189 (zstep ph (zEm ph d) 70 85 182 [2, 1, 30] L st M) := zEv_step rfl
theorem e189_85 (ph : Bool) (d : Nat) (L st : List zV) (M : zM) : zEv ph d 189 85 L st M = zcont ph d 189 (zstep ph (zEm ph d) 80 86 0 [0, 1] L st M) := zEv_step rfl
theorem e189_86 (ph : Bool) (d : Nat) (L st : List zV) (M : zM) : zEv ph d 189 86 L st M = zcont ph d 189 (zstep ph (zEm ph d) 4 87 0 [0] L st M) := zEv_step rfl
theorem e189_87 (ph : Bool) (d : Nat) (L st : List zV) (M : zM) : zEv ph d 189 87 L st M = zcont ph d 189 (zstep ph (zEm ph d) 62 90 0 [30, 20, 8, 11, 20] L st M) := zEv_step rfl
theorem e189_90 (ph : Bool) (d : Nat) (L st : List zV) (M : zM) : zEv ph d 189 90 L st M = zcont ph d 189 (zstep ph (zEm ph d) 2 91 0 [1] L st M) := zEv_step rfl
theorem e189_91 (ph : Bool) (d : Nat) (L st : List zV) (M : zM) : zEv ph d 189 91 L st M = zcont ph d 189 (zstep ph (zEm ph d) 4 92 0 [0] L st M) := zEv_step rfl
theorem e189_92 (ph : Bool) (d : Nat) (L st : List zV) (M : zM) : zEv ph d 189 92 L st M = zcont ph d 189 (zstep ph (zEm ph d) 61 95 0 [30, 12] L st M) := zEv_step rfl
theorem e189_95 (ph : Bool) (d : Nat) (L st : List zV) (M : zM) : zEv ph d 189 95 L st M = zcont ph d 189 (zstep ph (zEm ph d) 90 96 0 [] L st M) := zEv_step rfl
theorem e189_96 (ph : Bool) (d : Nat) (L st : List zV) (M : zM) : zEv ph d 189 96 L st M = zcont ph d 189 (zstep ph (zEm ph d) 4 97 0 [0] L st M) := zEv_step rfl
theorem e189_97 (ph : Bool) (d : Nat) (L st : List zV) (M : zM) : zEv ph d 189 97 L st M = zcont ph d 189 (zstep ph (zEm ph d) 70 100 176 [1, 0, 30] L st M) := zEv_step rfl
theorem e189_100 (ph : Bool) (d : Nat) (L st : List zV) (M : zM) : zEv ph d 189 100 L st M = zcont ph d 189 (zstep ph (zEm ph d) 0 101 0 [1] L st M) := zEv_step rfl
theorem e189_101 (ph : Bool) (d : Nat) (L st : List zV) (M : zM) : zEv ph d 189 101 L st M = zcont ph d 189 (zstep ph (zEm ph d) 80 102 0 [0, 1] L st M) := zEv_step rfl
theorem m275 (ph : Bool) (d : Nat) (a x0 p0 y0 p1 y1 : Int) (M : zM) : zEm ph (d + 1) 275 [(30, a, x0), (0, p0, y0), (0, p1, y1)] M = zEv ph d 275 0 [(30, a, x0), (0, p0, y0), (0, p1, y1)] [] M := rfl
theorem e275_0 (ph : Bool) (d : Nat) (L st : List zV) (M : zM) : zEv ph d 275 0 L st M = zcont ph d 275 (zstep ph (zEm ph d) 4 1 0 [0] L st M) := zEv_step rfl
theorem e275_1 (ph : Bool) (d : Nat) (L st : List zV) (M : zM) : zEv ph d 275 1 L st M = zcont ph d 275 (zstep ph (zEm ph d) 70 4 181 [1, 1, 30] L st M) := zEv_step rfl
theorem e275_4 (ph : Bool) (d : Nat) (L st : List zV) (M : zM) : zEv ph d 275 4 L st M = zcont ph d 275 (zstep ph (zEm ph d) 41 7 13 [] L st M) := zEv_step rfl
theorem e275_7 (ph : Bool) (d : Nat) (L st : List zV) (M : zM) : zEv ph d 275 7 L st M = zcont ph d 275 (zstep ph (zEm ph d) 4 8 0 [0] L st M) := zEv_step rfl
theorem e275_8 (ph : Bool) (d : Nat) (L st : List zV) (M : zM) : zEv ph d 275 8 L st M = zcont ph d 275 (zstep ph (zEm ph d) 0 9 0 [1] L st M) := zEv_step rfl
theorem e275_9 (ph : Bool) (d : Nat) (L st : List zV) (M : zM) : zEv ph d 275 9 L st M = zcont ph d 275 (zstep ph (zEm ph d) 70 12 182 [2, 1, 30] L st M) := zEv_step rfl
theorem e275_12 (ph : Bool) (d : Nat) (L st : List zV) (M : zM) : zEv ph d 275 12 L st M = zcont ph d 275 (zstep ph (zEm ph d) 80 13 0 [0, 1] L st M) := zEv_step rfl
theorem e275_13 (ph : Bool) (d : Nat) (L st : List zV) (M : zM) : zEv ph d 275 13 L st M = zcont ph d 275 (zstep ph (zEm ph d) 4 14 0 [0] L st M) := zEv_step rfl
theorem e275_14 (ph : Bool) (d : Nat) (L st : List zV) (M : zM) : zEv ph d 275 14 L st M = zcont ph d 275 (zstep ph (zEm ph d) 4 15 0 [0] L st M) := zEv_step rfl
theorem e275_15 (ph : Bool) (d : Nat) (L st : List zV) (M : zM) : zEv ph d 275 15 L st M = zcont ph d 275 (zstep ph (zEm ph d) 62 18 0 [30, 19, 7, 11, 20] L st M) := zEv_step rfl
theorem e275_18 (ph : Bool) (d : Nat) (L st : List zV) (M : zM) : zEv ph d 275 18 L st M = zcont ph d 275 (zstep ph (zEm ph d) 2 19 0 [1] L st M) := zEv_step rfl
theorem e275_19 (ph : Bool) (d : Nat) (L st : List zV) (M : zM) : zEv ph d 275 19 L st M = zcont ph d 275 (zstep ph (zEm ph d) 2 20 0 [2] L st M) := zEv_step rfl
theorem e275_20 (ph : Bool) (d : Nat) (L st : List zV) (M : zM) : zEv ph d 275 20 L st M = zcont ph d 275 (zstep ph (zEm ph d) 4 21 0 [0] L st M) := zEv_step rfl
theorem e275_21 (ph : Bool) (d : Nat) (L st : List zV) (M : zM) : zEv ph d 275 21 L st M = zcont ph d 275 (zstep ph (zEm ph d) 61 24 0 [30, 12] L st M) := zEv_step rfl
theorem e275_24 (ph : Bool) (d : Nat) (L st : List zV) (M : zM) : zEv ph d 275 24 L st M = zcont ph d 275 (zstep ph (zEm ph d) 70 27 188 [4, 1, -1] L st M) := zEv_step rfl
theorem e275_27 (ph : Bool) (d : Nat) (L st : List zV) (M : zM) : zEv ph d 275 27 L st M = zcont ph d 275 (zstep ph (zEm ph d) 65 30 0 [30, 13] L st M) := zEv_step rfl
theorem e275_30 (ph : Bool) (d : Nat) (L st : List zV) (M : zM) : zEv ph d 275 30 L st M = zcont ph d 275 (zstep ph (zEm ph d) 4 31 0 [0] L st M) := zEv_step rfl
theorem e275_31 (ph : Bool) (d : Nat) (L st : List zV) (M : zM) : zEv ph d 275 31 L st M = zcont ph d 275 (zstep ph (zEm ph d) 60 34 0 [30, 13] L st M) := zEv_step rfl
theorem e275_34 (ph : Bool) (d : Nat) (L st : List zV) (M : zM) : zEv ph d 275 34 L st M = zcont ph d 275 (zstep ph (zEm ph d) 0 35 0 [-1] L st M) := zEv_step rfl
theorem e275_35 (ph : Bool) (d : Nat) (L st : List zV) (M : zM) : zEv ph d 275 35 L st M = zcont ph d 275 (zstep ph (zEm ph d) 47 38 44 [] L st M) := zEv_step rfl
theorem e275_38 (ph : Bool) (d : Nat) (L st : List zV) (M : zM) : zEv ph d 275 38 L st M = zcont ph d 275 (zstep ph (zEm ph d) 4 39 0 [0] L st M) := zEv_step rfl
theorem e275_39 (ph : Bool) (d : Nat) (L st : List zV) (M : zM) : zEv ph d 275 39 L st M = zcont ph d 275 (zstep ph (zEm ph d) 0 40 0 [3] L st M) := zEv_step rfl
theorem e275_40 (ph : Bool) (d : Nat) (L st : List zV) (M : zM) : zEv ph d 275 40 L st M = zcont ph d 275 (zstep ph (zEm ph d) 70 43 182 [2, 1, 30] L st M) := zEv_step rfl
theorem e275_43 (ph : Bool) (d : Nat) (L st : List zV) (M : zM) : zEv ph d 275 43 L st M = zcont ph d 275 (zstep ph (zEm ph d) 80 44 0 [0, 1] L st M) := zEv_step rfl
theorem e275_44 (ph : Bool) (d : Nat) (L st : List zV) (M : zM) : zEv ph d 275 44 L st M = zcont ph d 275 (zstep ph (zEm ph d) 4 45 0 [0] L st M) := zEv_step rfl
theorem e275_45 (ph : Bool) (d : Nat) (L st : List zV) (M : zM) : zEv ph d 275 45 L st M = zcont ph d 275 (zstep ph (zEm ph d) 70 48 176 [1, 0, 30] L st M) := zEv_step rfl
theorem e275_48 (ph : Bool) (d : Nat) (L st : List zV) (M : zM) : zEv ph d 275 48 L st M = zcont ph d 275 (zstep ph (zEm ph d) 0 49 0 [1] L st M) := zEv_step rfl
theorem e275_49 (ph : Bool) (d : Nat) (L st : List zV) (M : zM) : zEv ph d 275 49 L st M = zcont ph d 275 (zstep ph (zEm ph d) 80 50 0 [0, 1] L st M) := zEv_step rfl
theorem s_isAtEnd (d : Nat) (x0 : Int) (A : zM) : zEm true (d + 1) 138 [(27, 2, x0)] A = some ((0, if A 2 5 = 0 then 1 else 0, 0), A) := by
  by_cases c : A 2 5 = 0
  · rw [if_pos c]
    simp (disch := first | assumption | exact zrm0 | exact zrm1 _ | exact zrm2 _ _ | exact zrm3 _ _ _ | exact zrm4 _ _ _ _ | omega) only [m138, ↓k_dp, ↓k_dn, k_dp, k_dn, k_dT, k_dF, k_ip, k_in, if_true, if_false, ne_eq, not_true_eq_false, not_false_eq_true, Int.reduceAdd, zup_a, zup_e, zup_j, z32_id, k_al0, k_gI, k_ifne, k_ic, k_goto, k_rz, e138_0, e138_1, e138_4, e138_7, e138_8, e138_11, e138_12]
  · rw [if_neg c]
    simp (disch := first | assumption | exact zrm0 | exact zrm1 _ | exact zrm2 _ _ | exact zrm3 _ _ _ | exact zrm4 _ _ _ _ | omega) only [m138, ↓k_dp, ↓k_dn, k_dp, k_dn, k_dT, k_dF, k_ip, k_in, if_true, if_false, ne_eq, not_true_eq_false, not_false_eq_true, Int.reduceAdd, zup_a, zup_e, zup_j, z32_id, k_al0, k_gI, k_ifne, k_ic, k_goto, k_rz, e138_0, e138_1, e138_4, e138_7, e138_8, e138_11, e138_12]
theorem s_fail (d : Nat) (x0 k y : Int) (A : zM) (h : A 2 10 = 0) : zEm true (d + 1) 140 [(27, 2, x0), (0, k, y)] A = some ((0, 0, 0), zup (zup A 2 10 k) 2 11 (A 2 4)) := by
  simp (disch := first | assumption | exact zrm0 | exact zrm1 _ | exact zrm2 _ _ | exact zrm3 _ _ _ | exact zrm4 _ _ _ _ | omega) only [m140, ↓k_dp, ↓k_dn, k_dp, k_dn, k_dT, k_dF, k_ip, k_in, if_true, if_false, ne_eq, not_true_eq_false, not_false_eq_true, Int.reduceAdd, zup_a, zup_e, zup_j, z32_id, k_al0, k_gI, k_ifne, k_il1, k_pI, k_ic, k_rz, e140_0, e140_1, e140_4, e140_7, e140_8, e140_9, e140_12, e140_13, e140_14, e140_17, e140_20, e140_21, h]
theorem r_bad (d : Nat) (y0 k y : Int) (B : zM) : zEm true (d + 1) 182 [(30, 197, y0), (0, k, y)] B = some ((0, 0, 0), zup (zup B 197 10 (if B 197 7 = 1 then 1 else k)) 197 11 (B 197 6)) := by
  by_cases c : B 197 7 = 1
  · rw [if_pos c]
    simp (disch := first | assumption | exact zrm0 | exact zrm1 _ | exact zrm2 _ _ | exact zrm3 _ _ _ | exact zrm4 _ _ _ _ | omega) only [m182, ↓k_dp, ↓k_dn, k_dp, k_dn, k_dT, k_dF, k_ip, k_in, if_true, if_false, ne_eq, not_true_eq_false, not_false_eq_true, Int.reduceAdd, zup_a, zup_e, zup_j, z32_id, k_al0, k_gI, k_ic, k_icne, k_goto, k_il1, k_pI, k_rz, e182_0, e182_1, e182_2, e182_5, e182_6, e182_9, e182_10, e182_13, e182_14, e182_17, e182_18, e182_19, e182_22, e182_25, e182_26]
  · rw [if_neg c]
    simp (disch := first | assumption | exact zrm0 | exact zrm1 _ | exact zrm2 _ _ | exact zrm3 _ _ _ | exact zrm4 _ _ _ _ | omega) only [m182, ↓k_dp, ↓k_dn, k_dp, k_dn, k_dT, k_dF, k_ip, k_in, if_true, if_false, ne_eq, not_true_eq_false, not_false_eq_true, Int.reduceAdd, zup_a, zup_e, zup_j, z32_id, k_al0, k_gI, k_ic, k_icne, k_goto, k_il1, k_pI, k_rz, e182_0, e182_1, e182_2, e182_5, e182_6, e182_9, e182_10, e182_13, e182_14, e182_17, e182_18, e182_19, e182_22, e182_25, e182_26]
theorem p_fail {A B : zM} (h : tkR A B) {k : Int} (k0 : 1 ≤ k) (k1 : k ≤ 4) (hk : B 197 7 = 1 → k = 1) : ∃ A' B', (∀ (D : Nat) (x0 y : Int), 1 ≤ D → zEm true D 140 [(27, 2, x0), (0, k, y)] A = some ((0, 0, 0), A')) ∧ (∀ (E : Nat) (y0 y : Int), 1 ≤ E → zEm true E 182 [(30, 197, y0), (0, k, y)] B = some ((0, 0, 0), B')) ∧ agX A A' ∧ agY B B' ∧ flR A' B' := by
  obtain ⟨h1, h2⟩ := h
  refine ⟨zup (zup A 2 10 k) 2 11 (A 2 4), zup (zup B 197 10 (if B 197 7 = 1 then 1 else k)) 197 11 (B 197 6), fun D x0 y hD => ?_, fun E y0 y hE => ?_, ?_, ?_, ?_⟩
  · obtain ⟨d, rfl⟩ : ∃ d, D = d + 1 := ⟨D - 1, by omega⟩
    exact s_fail d x0 k y A h1.f0
  · obtain ⟨d, rfl⟩ : ∃ d, E = d + 1 := ⟨E - 1, by omega⟩
    exact r_bad d y0 k y B
  · intro x y h
    rw [zup_f (by omega), zup_f (by omega)]
  · intro x y h
    rw [zup_f (by omega), zup_f (by omega)]
  · have e6 := h2.e6
    have p0 := h2.p0
    have p1 := h2.p1
    unfold flR
    rw [zup_j (by omega), zup_e (by omega), zup_j (by omega), zup_e (by omega), zup_e (by omega), zup_e (by omega)]
    by_cases c : B 197 7 = 1
    · have := hk c
      rw [if_pos c]
      omega
    · rw [if_neg c]
      omega
theorem p_go {A B : zM} (h : bsR A B) (D E : Nat) (hD : 6 ≤ D) (hE : 3 ≤ E) (x0 y0 : Int) : ∃ A' B', zEm true D 141 [(27, 2, x0)] A = some ((98, 0, 0), A') ∧ zEm true E 176 [(30, 197, y0)] B = some ((98, 0, 0), B') ∧ tkR A' B' ∧ agA A A' ∧ agG B B' ∧ ∀ q, q < A 2 3 → q < A 2 2 → q < A' 2 4 := by
  obtain ⟨d, rfl⟩ : ∃ d, D = d + 6 := ⟨D - 6, by omega⟩
  obtain ⟨e, rfl⟩ : ∃ e, E = e + 3 := ⟨E - 3, by omega⟩
  exact p_adv h d e x0 y0
theorem p_isWord {A B : zM} (h : tkR A B) {k : Int} (k0 : 0 ≤ k) (k1 : k < 32) (E : Nat) (hE : 3 ≤ E) (y0 y : Int) : zEm true E 179 [(30, 197, y0), (0, k, y)] B = some ((0, if A 2 7 = wk k then 1 else 0, 0), B) := by
  obtain ⟨e, rfl⟩ : ∃ e, E = e + 3 := ⟨E - 3, by omega⟩
  have hw := h.2.wd k k0 k1
  have hr := r_wordOf e k 0 B k0 k1
  by_cases c : B 197 7 = 2
  · by_cases c2 : B 197 12 = z27 k
    · rw [if_pos (hw.2 ⟨c, c2⟩)]
      simp (disch := first | assumption | exact zrm0 | exact zrm1 _ | exact zrm2 _ _ | exact zrm3 _ _ _ | exact zrm4 _ _ _ _ | omega) only [m179, ↓k_dp, ↓k_dn, k_dp, k_dn, k_dT, k_dF, k_ip, k_in, if_true, if_false, ne_eq, not_true_eq_false, not_false_eq_true, Int.reduceAdd, zup_a, zup_e, zup_j, z32_id, k_al0, k_gI, k_ic, k_icne, k_gL, k_il1, k_s1r, k_lcmp, k_ifne, k_goto, k_rz, zb0_some, zb1_some, e179_0, e179_1, e179_4, e179_5, e179_8, e179_9, e179_12, e179_13, e179_16, e179_17, e179_20, e179_21, e179_24, e179_25, hr, zcmp_0]
    · rw [if_neg (fun z => c2 (hw.1 z).2)]
      simp (disch := first | assumption | exact zrm0 | exact zrm1 _ | exact zrm2 _ _ | exact zrm3 _ _ _ | exact zrm4 _ _ _ _ | omega) only [m179, ↓k_dp, ↓k_dn, k_dp, k_dn, k_dT, k_dF, k_ip, k_in, if_true, if_false, ne_eq, not_true_eq_false, not_false_eq_true, Int.reduceAdd, zup_a, zup_e, zup_j, z32_id, k_al0, k_gI, k_ic, k_icne, k_gL, k_il1, k_s1r, k_lcmp, k_ifne, k_goto, k_rz, zb0_some, zb1_some, e179_0, e179_1, e179_4, e179_5, e179_8, e179_9, e179_12, e179_13, e179_16, e179_17, e179_20, e179_21, e179_24, e179_25, hr, zcmp_0]
  · rw [if_neg (fun z => c (hw.1 z).1)]
    simp (disch := first | assumption | exact zrm0 | exact zrm1 _ | exact zrm2 _ _ | exact zrm3 _ _ _ | exact zrm4 _ _ _ _ | omega) only [m179, ↓k_dp, ↓k_dn, k_dp, k_dn, k_dT, k_dF, k_ip, k_in, if_true, if_false, ne_eq, not_true_eq_false, not_false_eq_true, Int.reduceAdd, zup_a, zup_e, zup_j, z32_id, k_al0, k_gI, k_ic, k_icne, k_gL, k_il1, k_s1r, k_lcmp, k_ifne, k_goto, k_rz, zb0_some, zb1_some, e179_0, e179_1, e179_4, e179_5, e179_8, e179_9, e179_12, e179_13, e179_16, e179_17, e179_20, e179_21, e179_24, e179_25, hr, zcmp_0]
theorem p_isSign {A B : zM} (h : tkR A B) {c : Int} (c0 : 0 ≤ c) (c1 : c ≠ 46) (E : Nat) (hE : 1 ≤ E) (y0 y : Int) : zEm true E 180 [(30, 197, y0), (0, c, y)] B = some ((0, if A 2 9 = c then 1 else 0, 0), B) := by
  obtain ⟨e, rfl⟩ : ∃ e, E = e + 1 := ⟨E - 1, by omega⟩
  have hw := h.2.sg c c1 c0
  by_cases d1 : B 197 7 = 4
  · by_cases d2 : B 197 9 = c
    · rw [if_pos (hw.2 ⟨d1, d2⟩)]
      simp (disch := first | assumption | exact zrm0 | exact zrm1 _ | exact zrm2 _ _ | exact zrm3 _ _ _ | exact zrm4 _ _ _ _ | omega) only [m180, ↓k_dp, ↓k_dn, k_dp, k_dn, k_dT, k_dF, k_ip, k_in, if_true, if_false, ne_eq, not_true_eq_false, not_false_eq_true, Int.reduceAdd, zup_a, zup_e, zup_j, z32_id, k_al0, k_gI, k_ic, k_icne, k_il1, k_goto, k_rz, e180_0, e180_1, e180_4, e180_5, e180_8, e180_9, e180_12, e180_13, e180_16, e180_17, e180_20, e180_21]
    · rw [if_neg (fun z => d2 (hw.1 z).2)]
      simp (disch := first | assumption | exact zrm0 | exact zrm1 _ | exact zrm2 _ _ | exact zrm3 _ _ _ | exact zrm4 _ _ _ _ | omega) only [m180, ↓k_dp, ↓k_dn, k_dp, k_dn, k_dT, k_dF, k_ip, k_in, if_true, if_false, ne_eq, not_true_eq_false, not_false_eq_true, Int.reduceAdd, zup_a, zup_e, zup_j, z32_id, k_al0, k_gI, k_ic, k_icne, k_il1, k_goto, k_rz, e180_0, e180_1, e180_4, e180_5, e180_8, e180_9, e180_12, e180_13, e180_16, e180_17, e180_20, e180_21]
  · rw [if_neg (fun z => d1 (hw.1 z).1)]
    simp (disch := first | assumption | exact zrm0 | exact zrm1 _ | exact zrm2 _ _ | exact zrm3 _ _ _ | exact zrm4 _ _ _ _ | omega) only [m180, ↓k_dp, ↓k_dn, k_dp, k_dn, k_dT, k_dF, k_ip, k_in, if_true, if_false, ne_eq, not_true_eq_false, not_false_eq_true, Int.reduceAdd, zup_a, zup_e, zup_j, z32_id, k_al0, k_gI, k_ic, k_icne, k_il1, k_goto, k_rz, e180_0, e180_1, e180_4, e180_5, e180_8, e180_9, e180_12, e180_13, e180_16, e180_17, e180_20, e180_21]
theorem r_isNameL (e : Nat) (y0 : Int) (B : zM) : ∀ (n : Nat) (i : Int), i + n = 32 → 0 ≤ i → ∃ v, zEv true (e + 2) 181 12 [(30, 197, y0), (0, i, 0)] [] B = some ((0, v, 0), B) ∧ (v = 0 ∨ v = 1) ∧ (v = 1 ↔ ∀ k, i ≤ k → k < 32 → B 197 12 ≠ z27 k)
  | 0, i, hi, i0 => by
    refine ⟨1, ?_, Or.inr rfl, fun _ k k1 k2 => by omega, fun _ => rfl⟩
    rw [e181_12]
    simp (disch := first | assumption | exact zrm0 | exact zrm1 _ | exact zrm2 _ _ | exact zrm3 _ _ _ | exact zrm4 _ _ _ _ | omega) only [m181, ↓k_dp, ↓k_dn, k_dp, k_dn, k_dT, k_dF, k_ip, k_in, if_true, if_false, ne_eq, not_true_eq_false, not_false_eq_true, Int.reduceAdd, zup_a, zup_e, zup_j, z32_id, k_al0, k_gI, k_ic, k_iceq, k_rz, k_is1, k_il1, k_icgt, k_gL, k_s1r, k_lcmp, k_ifne, k_inc1, k_goto, zb0_some, zb1_some, e181_0, e181_1, e181_4, e181_5, e181_8, e181_9, e181_10, e181_11, e181_13, e181_15, e181_18, e181_19, e181_22, e181_23, e181_26, e181_27, e181_30, e181_31, e181_32, e181_35, e181_38, e181_39]
  | n + 1, i, hi, i0 => by
    have hr := r_wordOf e i 0 B i0 (by omega)
    by_cases c : B 197 12 = z27 i
    · refine ⟨0, ?_, Or.inl rfl, fun h => by omega, fun h => absurd c (h i (Int.le_refl _) (by omega))⟩
      rw [e181_12]
      simp (disch := first | assumption | exact zrm0 | exact zrm1 _ | exact zrm2 _ _ | exact zrm3 _ _ _ | exact zrm4 _ _ _ _ | omega) only [m181, ↓k_dp, ↓k_dn, k_dp, k_dn, k_dT, k_dF, k_ip, k_in, if_true, if_false, ne_eq, not_true_eq_false, not_false_eq_true, Int.reduceAdd, zup_a, zup_e, zup_j, z32_id, k_al0, k_gI, k_ic, k_iceq, k_rz, k_is1, k_il1, k_icgt, k_gL, k_s1r, k_lcmp, k_ifne, k_inc1, k_goto, zb0_some, zb1_some, e181_0, e181_1, e181_4, e181_5, e181_8, e181_9, e181_10, e181_11, e181_13, e181_15, e181_18, e181_19, e181_22, e181_23, e181_26, e181_27, e181_30, e181_31, e181_32, e181_35, e181_38, e181_39, hr, zcmp_0]
    · obtain ⟨v, a1, a2, a3⟩ := r_isNameL e y0 B n (i + 1) (by omega) (by omega)
      refine ⟨v, ?_, a2, a3.trans ⟨fun h k k1 k2 => ?_, fun h k k1 k2 => h k (by omega) k2⟩⟩
      · rw [← a1, e181_12]
        simp (disch := first | assumption | exact zrm0 | exact zrm1 _ | exact zrm2 _ _ | exact zrm3 _ _ _ | exact zrm4 _ _ _ _ | omega) only [m181, ↓k_dp, ↓k_dn, k_dp, k_dn, k_dT, k_dF, k_ip, k_in, if_true, if_false, ne_eq, not_true_eq_false, not_false_eq_true, Int.reduceAdd, zup_a, zup_e, zup_j, z32_id, k_al0, k_gI, k_ic, k_iceq, k_rz, k_is1, k_il1, k_icgt, k_gL, k_s1r, k_lcmp, k_ifne, k_inc1, k_goto, zb0_some, zb1_some, e181_0, e181_1, e181_4, e181_5, e181_8, e181_9, e181_10, e181_11, e181_13, e181_15, e181_18, e181_19, e181_22, e181_23, e181_26, e181_27, e181_30, e181_31, e181_32, e181_35, e181_38, e181_39, hr, zcmp_0]
      · by_cases ck : k = i
        · rw [ck]; exact c
        · exact h k (by omega) k2
theorem p_isName {A B : zM} (h : tkR A B) (E : Nat) (hE : 3 ≤ E) (y0 : Int) : zEm true E 181 [(30, 197, y0)] B = some ((0, if A 2 7 = 2 then 1 else 0, 0), B) := by
  obtain ⟨e, rfl⟩ : ∃ e, E = e + 3 := ⟨E - 3, by omega⟩
  have hw := h.2.nm
  by_cases c : B 197 7 = 2
  · obtain ⟨v, a1, a2, a3⟩ := r_isNameL e y0 B 32 0 (by omega) (by omega)
    have e0 : zEm true (e + 3) 181 [(30, 197, y0)] B = some ((0, v, 0), B) := by
      rw [← a1]
      simp (disch := first | assumption | exact zrm0 | exact zrm1 _ | exact zrm2 _ _ | exact zrm3 _ _ _ | exact zrm4 _ _ _ _ | omega) only [m181, ↓k_dp, ↓k_dn, k_dp, k_dn, k_dT, k_dF, k_ip, k_in, if_true, if_false, ne_eq, not_true_eq_false, not_false_eq_true, Int.reduceAdd, zup_a, zup_e, zup_j, z32_id, k_al0, k_gI, k_ic, k_iceq, k_rz, k_is1, k_il1, k_icgt, k_gL, k_s1r, k_lcmp, k_ifne, k_inc1, k_goto, zb0_some, zb1_some, e181_0, e181_1, e181_4, e181_5, e181_8, e181_9, e181_10, e181_11, e181_13, e181_15, e181_18, e181_19, e181_22, e181_23, e181_26, e181_27, e181_30, e181_31, e181_32, e181_35, e181_38, e181_39]
    rw [e0]
    by_cases c2 : A 2 7 = 2
    · rw [if_pos c2, a3.2 (hw.1 c2).2]
    · rw [if_neg c2]
      have : v ≠ 1 := fun z => c2 (hw.2 ⟨c, a3.1 z⟩)
      rw [show v = 0 by omega]
  · rw [if_neg (fun z => c (hw.1 z).1)]
    simp (disch := first | assumption | exact zrm0 | exact zrm1 _ | exact zrm2 _ _ | exact zrm3 _ _ _ | exact zrm4 _ _ _ _ | omega) only [m181, ↓k_dp, ↓k_dn, k_dp, k_dn, k_dT, k_dF, k_ip, k_in, if_true, if_false, ne_eq, not_true_eq_false, not_false_eq_true, Int.reduceAdd, zup_a, zup_e, zup_j, z32_id, k_al0, k_gI, k_ic, k_iceq, k_rz, k_is1, k_il1, k_icgt, k_gL, k_s1r, k_lcmp, k_ifne, k_inc1, k_goto, zb0_some, zb1_some, e181_0, e181_1, e181_4, e181_5, e181_8, e181_9, e181_10, e181_11, e181_13, e181_15, e181_18, e181_19, e181_22, e181_23, e181_26, e181_27, e181_30, e181_31, e181_32, e181_35, e181_38, e181_39]
/-- ';' -/
theorem p_end {A B : zM} (h : tkR A B) (D E : Nat) (hD : 7 ≤ D) (hE : 4 ≤ E) (x0 y0 y : Int) : ∃ A' B' v, zEm true D 145 [(27, 2, x0), (0, 59, y)] A = some ((0, v, 0), A') ∧ zEm true E 184 [(30, 197, y0)] B = some ((0, v, 0), B') ∧ agX A A' ∧ agY B B' ∧ (v = 1 ∧ tkR A' B' ∧ A 2 4 < A' 2 4 ∨ v = 0 ∧ flR A' B') := by
  obtain ⟨d, rfl⟩ : ∃ d, D = d + 1 := ⟨D - 1, by omega⟩
  obtain ⟨e, rfl⟩ : ∃ e, E = e + 1 := ⟨E - 1, by omega⟩
  have hs := p_isSign h (c := 59) (by omega) (by omega) e (by omega) y0 0
  have sh := h.2.sh
  have pg := h.2.pg
  by_cases c : A 2 9 = 59
  · obtain ⟨A', B', a1, a2, a3, a4, a5, a6⟩ := p_go h.1 d e (by omega) (by omega) x0 y0
    have h4 : A 2 5 = 4 := sh.2 (by omega)
    refine ⟨A', B', 1, ?_, ?_, agX_a a4, agY_g a5, Or.inl ⟨rfl, a3, a6 _ (pg (by omega)).1 (pg (by omega)).2⟩⟩
    · simp (disch := first | assumption | exact zrm0 | exact zrm1 _ | exact zrm2 _ _ | exact zrm3 _ _ _ | exact zrm4 _ _ _ _ | omega) only [m145, ↓k_dp, ↓k_dn, k_dp, k_dn, k_dT, k_dF, k_ip, k_in, if_true, if_false, ne_eq, not_true_eq_false, not_false_eq_true, Int.reduceAdd, zup_a, zup_e, zup_j, z32_id, k_al0, k_gI, k_ic, k_icne, k_il1, k_iceq, k_v2r, k_rz, k_v1, zb0_some, zb1_some, e145_0, e145_1, e145_4, e145_5, e145_8, e145_9, e145_12, e145_13, e145_16, e145_17, e145_18, e145_21, e145_22, e145_23, e145_26, e145_27, a1]
    · rw [if_pos c] at hs
      simp (disch := first | assumption | exact zrm0 | exact zrm1 _ | exact zrm2 _ _ | exact zrm3 _ _ _ | exact zrm4 _ _ _ _ | omega) only [m184, ↓k_dp, ↓k_dn, k_dp, k_dn, k_dT, k_dF, k_ip, k_in, if_true, if_false, ne_eq, not_true_eq_false, not_false_eq_true, Int.reduceAdd, zup_a, zup_e, zup_j, z32_id, k_al0, k_ic, k_v2r, k_ifne, k_rz, k_v1, zb0_some, zb1_some, e184_0, e184_1, e184_3, e184_6, e184_9, e184_10, e184_11, e184_14, e184_15, e184_16, e184_19, e184_20, hs, a2]
  · obtain ⟨A', B', a1, a2, a3, a4, a5⟩ := p_fail h (k := 1) (by omega) (by omega) (fun _ => rfl)
    have a1' := a1 d x0 0 (by omega)
    have a2' := a2 e y0 0 (by omega)
    refine ⟨A', B', 0, ?_, ?_, a3, a4, Or.inr ⟨rfl, a5⟩⟩
    · by_cases h4 : A 2 5 = 4
      · simp (disch := first | assumption | exact zrm0 | exact zrm1 _ | exact zrm2 _ _ | exact zrm3 _ _ _ | exact zrm4 _ _ _ _ | omega) only [m145, ↓k_dp, ↓k_dn, k_dp, k_dn, k_dT, k_dF, k_ip, k_in, if_true, if_false, ne_eq, not_true_eq_false, not_false_eq_true, Int.reduceAdd, zup_a, zup_e, zup_j, z32_id, k_al0, k_gI, k_ic, k_icne, k_il1, k_iceq, k_v2r, k_rz, k_v1, zb0_some, zb1_some, e145_0, e145_1, e145_4, e145_5, e145_8, e145_9, e145_12, e145_13, e145_16, e145_17, e145_18, e145_21, e145_22, e145_23, e145_26, e145_27, a1']
      · simp (disch := first | assumption | exact zrm0 | exact zrm1 _ | exact zrm2 _ _ | exact zrm3 _ _ _ | exact zrm4 _ _ _ _ | omega) only [m145, ↓k_dp, ↓k_dn, k_dp, k_dn, k_dT, k_dF, k_ip, k_in, if_true, if_false, ne_eq, not_true_eq_false, not_false_eq_true, Int.reduceAdd, zup_a, zup_e, zup_j, z32_id, k_al0, k_gI, k_ic, k_icne, k_il1, k_iceq, k_v2r, k_rz, k_v1, zb0_some, zb1_some, e145_0, e145_1, e145_4, e145_5, e145_8, e145_9, e145_12, e145_13, e145_16, e145_17, e145_18, e145_21, e145_22, e145_23, e145_26, e145_27, a1']
    · rw [if_neg c] at hs
      simp (disch := first | assumption | exact zrm0 | exact zrm1 _ | exact zrm2 _ _ | exact zrm3 _ _ _ | exact zrm4 _ _ _ _ | omega) only [m184, ↓k_dp, ↓k_dn, k_dp, k_dn, k_dT, k_dF, k_ip, k_in, if_true, if_false, ne_eq, not_true_eq_false, not_false_eq_true, Int.reduceAdd, zup_a, zup_e, zup_j, z32_id, k_al0, k_ic, k_v2r, k_ifne, k_rz, k_v1, zb0_some, zb1_some, e184_0, e184_1, e184_3, e184_6, e184_9, e184_10, e184_11, e184_14, e184_15, e184_16, e184_19, e184_20, hs, a2']
/-- a number of a to b -/
theorem p_num {A B : zM} (h : tkR A B) (D E : Nat) (hD : 7 ≤ D) (hE : 4 ≤ E) (a b : Int) (x0 y0 y y1 y2 y3 : Int) : ∃ A' B' v w, zEm true D 146 [(27, 2, x0), (0, a, y), (0, b, y1)] A = some ((0, w, 0), A') ∧ zEm true E 183 [(30, 197, y0), (0, a, y2), (0, b, y3)] B = some ((0, v, 0), B') ∧ agX A A' ∧ agY B B' ∧ (v = 1 ∧ (a ≤ w ∧ w ≤ b) ∧ (0 ≤ w ∧ w ≤ 999) ∧ B' 197 13 = w ∧ tkR A' B' ∧ A 2 4 < A' 2 4 ∨ v = 0 ∧ w = -1 ∧ flR A' B') := by
  obtain ⟨d, rfl⟩ : ∃ d, D = d + 1 := ⟨D - 1, by omega⟩
  obtain ⟨e, rfl⟩ : ∃ e, E = e + 1 := ⟨E - 1, by omega⟩
  have nu := h.2.nu
  have pg := h.2.pg
  by_cases c : A 2 5 = 3
  · have c' := nu.1 c
    obtain ⟨e8, v0, v1⟩ := h.2.nv c
    have hn1 : B 197 7 = 1 → (2 : Int) = 1 := fun z => by omega
    obtain ⟨Af, Bf, f1, f2, f3, f4, f5⟩ := p_fail h (k := 2) (by omega) (by omega) hn1
    have f1' := f1 d x0 0 (by omega)
    have f2' := f2 e y0 0 (by omega)
    by_cases ca : a ≤ A 2 6
    · by_cases cb : A 2 6 ≤ b
      · have hT : tkR A (zup B 197 13 (A 2 6)) := tkR_fr h (fun _ _ _ => rfl) (fun x y z => zup_f (by omega))
        obtain ⟨A', B', a1, a2, a3, a4, a5, a6⟩ := p_go hT.1 d e (by omega) (by omega) x0 y0
        have hi : ∀ y y', zEm true e 168 [(0, A 2 6, y), (0, a, y'), (0, b, 0)] B = some ((0, 1, 0), B) := fun y y' => by
          obtain ⟨e, rfl⟩ : ∃ e', e = e' + 1 := ⟨e - 1, by omega⟩
          simp (disch := first | assumption | exact zrm0 | exact zrm1 _ | exact zrm2 _ _ | exact zrm3 _ _ _ | exact zrm4 _ _ _ _ | omega) only [m168, ↓k_dp, ↓k_dn, k_dp, k_dn, k_dT, k_dF, k_ip, k_in, if_true, if_false, ne_eq, not_true_eq_false, not_false_eq_true, Int.reduceAdd, zup_a, zup_e, zup_j, z32_id, k_il0, k_il1, k_iclt, k_il2, k_icgt, k_ic, k_goto, k_rz, e168_0, e168_1, e168_2, e168_5, e168_6, e168_7, e168_10, e168_11, e168_14, e168_15]
        refine ⟨A', B', 1, A 2 6, ?_, ?_, agX_a a4, fun x y z => ?_, Or.inl ⟨rfl, ⟨ca, cb⟩, ⟨v0, v1⟩, ?_, a3, a6 _ (pg (by omega)).1 (pg (by omega)).2⟩⟩
        · simp (disch := first | assumption | exact zrm0 | exact zrm1 _ | exact zrm2 _ _ | exact zrm3 _ _ _ | exact zrm4 _ _ _ _ | omega) only [m146, ↓k_dp, ↓k_dn, k_dp, k_dn, k_dT, k_dF, k_ip, k_in, if_true, if_false, ne_eq, not_true_eq_false, not_false_eq_true, Int.reduceAdd, zup_a, zup_e, zup_j, z32_id, k_al0, k_gI, k_ic, k_iceq, k_v2r, k_pop, k_ri, k_il1, k_iclt, k_il2, k_icle, k_is3, k_v1, k_il3, zb0_some, zb1_some, e146_0, e146_1, e146_4, e146_5, e146_8, e146_9, e146_10, e146_13, e146_14, e146_15, e146_16, e146_17, e146_20, e146_21, e146_24, e146_25, e146_28, e146_29, e146_32, e146_33, e146_34, e146_37, e146_38, e146_39, e146_40, e146_41, e146_44, e146_45, e146_46, e146_49, e146_50, a1]
        · simp (disch := first | assumption | exact zrm0 | exact zrm1 _ | exact zrm2 _ _ | exact zrm3 _ _ _ | exact zrm4 _ _ _ _ | omega) only [m183, ↓k_dp, ↓k_dn, k_dp, k_dn, k_dT, k_dF, k_ip, k_in, if_true, if_false, ne_eq, not_true_eq_false, not_false_eq_true, Int.reduceAdd, zup_a, zup_e, zup_j, z32_id, k_al0, k_gI, k_ic, k_iceq, k_v2r, k_rz, k_il1, k_il2, k_s3r, k_ifne, k_pI, k_v1, zb0_some, zb1_some, e183_0, e183_1, e183_4, e183_5, e183_8, e183_9, e183_10, e183_13, e183_14, e183_15, e183_18, e183_19, e183_20, e183_23, e183_26, e183_27, e183_28, e183_31, e183_32, e183_33, e183_34, e183_37, e183_40, e183_41, e183_44, e183_45, e8, hi, a2]
        · rw [a5 x y (by omega), zup_f (by omega)]
        · rw [a5 _ _ (by omega), zup_e (by omega)]
      · have hi : ∀ y y', zEm true e 168 [(0, A 2 6, y), (0, a, y'), (0, b, 0)] B = some ((0, 0, 0), B) := fun y y' => by
          obtain ⟨e, rfl⟩ : ∃ e', e = e' + 1 := ⟨e - 1, by omega⟩
          simp (disch := first | assumption | exact zrm0 | exact zrm1 _ | exact zrm2 _ _ | exact zrm3 _ _ _ | exact zrm4 _ _ _ _ | omega) only [m168, ↓k_dp, ↓k_dn, k_dp, k_dn, k_dT, k_dF, k_ip, k_in, if_true, if_false, ne_eq, not_true_eq_false, not_false_eq_true, Int.reduceAdd, zup_a, zup_e, zup_j, z32_id, k_il0, k_il1, k_iclt, k_il2, k_icgt, k_ic, k_goto, k_rz, e168_0, e168_1, e168_2, e168_5, e168_6, e168_7, e168_10, e168_11, e168_14, e168_15]
        refine ⟨Af, Bf, 0, -1, ?_, ?_, f3, f4, Or.inr ⟨rfl, rfl, f5⟩⟩
        · simp (disch := first | assumption | exact zrm0 | exact zrm1 _ | exact zrm2 _ _ | exact zrm3 _ _ _ | exact zrm4 _ _ _ _ | omega) only [m146, ↓k_dp, ↓k_dn, k_dp, k_dn, k_dT, k_dF, k_ip, k_in, if_true, if_false, ne_eq, not_true_eq_false, not_false_eq_true, Int.reduceAdd, zup_a, zup_e, zup_j, z32_id, k_al0, k_gI, k_ic, k_iceq, k_v2r, k_pop, k_ri, k_il1, k_iclt, k_il2, k_icle, k_is3, k_v1, k_il3, zb0_some, zb1_some, e146_0, e146_1, e146_4, e146_5, e146_8, e146_9, e146_10, e146_13, e146_14, e146_15, e146_16, e146_17, e146_20, e146_21, e146_24, e146_25, e146_28, e146_29, e146_32, e146_33, e146_34, e146_37, e146_38, e146_39, e146_40, e146_41, e146_44, e146_45, e146_46, e146_49, e146_50, f1']
        · simp (disch := first | assumption | exact zrm0 | exact zrm1 _ | exact zrm2 _ _ | exact zrm3 _ _ _ | exact zrm4 _ _ _ _ | omega) only [m183, ↓k_dp, ↓k_dn, k_dp, k_dn, k_dT, k_dF, k_ip, k_in, if_true, if_false, ne_eq, not_true_eq_false, not_false_eq_true, Int.reduceAdd, zup_a, zup_e, zup_j, z32_id, k_al0, k_gI, k_ic, k_iceq, k_v2r, k_rz, k_il1, k_il2, k_s3r, k_ifne, k_pI, k_v1, zb0_some, zb1_some, e183_0, e183_1, e183_4, e183_5, e183_8, e183_9, e183_10, e183_13, e183_14, e183_15, e183_18, e183_19, e183_20, e183_23, e183_26, e183_27, e183_28, e183_31, e183_32, e183_33, e183_34, e183_37, e183_40, e183_41, e183_44, e183_45, e8, hi, f2']
    · have hi : ∀ y y', zEm true e 168 [(0, A 2 6, y), (0, a, y'), (0, b, 0)] B = some ((0, 0, 0), B) := fun y y' => by
        obtain ⟨e, rfl⟩ : ∃ e', e = e' + 1 := ⟨e - 1, by omega⟩
        simp (disch := first | assumption | exact zrm0 | exact zrm1 _ | exact zrm2 _ _ | exact zrm3 _ _ _ | exact zrm4 _ _ _ _ | omega) only [m168, ↓k_dp, ↓k_dn, k_dp, k_dn, k_dT, k_dF, k_ip, k_in, if_true, if_false, ne_eq, not_true_eq_false, not_false_eq_true, Int.reduceAdd, zup_a, zup_e, zup_j, z32_id, k_il0, k_il1, k_iclt, k_il2, k_icgt, k_ic, k_goto, k_rz, e168_0, e168_1, e168_2, e168_5, e168_6, e168_7, e168_10, e168_11, e168_14, e168_15]
      refine ⟨Af, Bf, 0, -1, ?_, ?_, f3, f4, Or.inr ⟨rfl, rfl, f5⟩⟩
      · simp (disch := first | assumption | exact zrm0 | exact zrm1 _ | exact zrm2 _ _ | exact zrm3 _ _ _ | exact zrm4 _ _ _ _ | omega) only [m146, ↓k_dp, ↓k_dn, k_dp, k_dn, k_dT, k_dF, k_ip, k_in, if_true, if_false, ne_eq, not_true_eq_false, not_false_eq_true, Int.reduceAdd, zup_a, zup_e, zup_j, z32_id, k_al0, k_gI, k_ic, k_iceq, k_v2r, k_pop, k_ri, k_il1, k_iclt, k_il2, k_icle, k_is3, k_v1, k_il3, zb0_some, zb1_some, e146_0, e146_1, e146_4, e146_5, e146_8, e146_9, e146_10, e146_13, e146_14, e146_15, e146_16, e146_17, e146_20, e146_21, e146_24, e146_25, e146_28, e146_29, e146_32, e146_33, e146_34, e146_37, e146_38, e146_39, e146_40, e146_41, e146_44, e146_45, e146_46, e146_49, e146_50, f1']
      · simp (disch := first | assumption | exact zrm0 | exact zrm1 _ | exact zrm2 _ _ | exact zrm3 _ _ _ | exact zrm4 _ _ _ _ | omega) only [m183, ↓k_dp, ↓k_dn, k_dp, k_dn, k_dT, k_dF, k_ip, k_in, if_true, if_false, ne_eq, not_true_eq_false, not_false_eq_true, Int.reduceAdd, zup_a, zup_e, zup_j, z32_id, k_al0, k_gI, k_ic, k_iceq, k_v2r, k_rz, k_il1, k_il2, k_s3r, k_ifne, k_pI, k_v1, zb0_some, zb1_some, e183_0, e183_1, e183_4, e183_5, e183_8, e183_9, e183_10, e183_13, e183_14, e183_15, e183_18, e183_19, e183_20, e183_23, e183_26, e183_27, e183_28, e183_31, e183_32, e183_33, e183_34, e183_37, e183_40, e183_41, e183_44, e183_45, e8, hi, f2']
  · obtain ⟨Af, Bf, f1, f2, f3, f4, f5⟩ := p_fail h (k := 1) (by omega) (by omega) (fun _ => rfl)
    have f1' := f1 d x0 0 (by omega)
    have f2' := f2 e y0 0 (by omega)
    have c' : ¬ B 197 7 = 3 := fun z => c (nu.2 z)
    refine ⟨Af, Bf, 0, -1, ?_, ?_, f3, f4, Or.inr ⟨rfl, rfl, f5⟩⟩
    · simp (disch := first | assumption | exact zrm0 | exact zrm1 _ | exact zrm2 _ _ | exact zrm3 _ _ _ | exact zrm4 _ _ _ _ | omega) only [m146, ↓k_dp, ↓k_dn, k_dp, k_dn, k_dT, k_dF, k_ip, k_in, if_true, if_false, ne_eq, not_true_eq_false, not_false_eq_true, Int.reduceAdd, zup_a, zup_e, zup_j, z32_id, k_al0, k_gI, k_ic, k_iceq, k_v2r, k_pop, k_ri, k_il1, k_iclt, k_il2, k_icle, k_is3, k_v1, k_il3, zb0_some, zb1_some, e146_0, e146_1, e146_4, e146_5, e146_8, e146_9, e146_10, e146_13, e146_14, e146_15, e146_16, e146_17, e146_20, e146_21, e146_24, e146_25, e146_28, e146_29, e146_32, e146_33, e146_34, e146_37, e146_38, e146_39, e146_40, e146_41, e146_44, e146_45, e146_46, e146_49, e146_50, f1']
    · simp (disch := first | assumption | exact zrm0 | exact zrm1 _ | exact zrm2 _ _ | exact zrm3 _ _ _ | exact zrm4 _ _ _ _ | omega) only [m183, ↓k_dp, ↓k_dn, k_dp, k_dn, k_dT, k_dF, k_ip, k_in, if_true, if_false, ne_eq, not_true_eq_false, not_false_eq_true, Int.reduceAdd, zup_a, zup_e, zup_j, z32_id, k_al0, k_gI, k_ic, k_iceq, k_v2r, k_rz, k_il1, k_il2, k_s3r, k_ifne, k_pI, k_v1, zb0_some, zb1_some, e183_0, e183_1, e183_4, e183_5, e183_8, e183_9, e183_10, e183_13, e183_14, e183_15, e183_18, e183_19, e183_20, e183_23, e183_26, e183_27, e183_28, e183_31, e183_32, e183_33, e183_34, e183_37, e183_40, e183_41, e183_44, e183_45, f2']
/-- the way that a token tells -/
theorem p_way {A B : zM} (h : tkR A B) (D E : Nat) (hD : 2 ≤ D) (hE : 4 ≤ E) (x0 y0 : Int) : ∃ A' B' v w, zEm true D 147 [(27, 2, x0)] A = some ((0, w, 0), A') ∧ zEm true E 195 [(30, 197, y0)] B = some ((0, v, 0), B') ∧ agX A A' ∧ agY B B' ∧ (v = 1 ∧ (0 ≤ w ∧ w ≤ 1) ∧ A' = A ∧ B' = zup B 197 13 w ∧ A 2 5 = 2 ∨ v = 0 ∧ w = -1 ∧ flR A' B') := by
  obtain ⟨d, rfl⟩ : ∃ d, D = d + 1 := ⟨D - 1, by omega⟩
  obtain ⟨e, rfl⟩ : ∃ e, E = e + 1 := ⟨E - 1, by omega⟩
  have w4 := p_isWord h (k := 4) (by omega) (by omega) e (by omega) y0 0
  have w5 := p_isWord h (k := 5) (by omega) (by omega) e (by omega) y0 0
  have k4 : wk 4 = 8 := rfl
  have k5 : wk 5 = 9 := rfl
  rw [k4] at w4
  rw [k5] at w5
  have wb := h.2.wb
  have w1 := h.2.w1
  by_cases c : A 2 7 = 8
  · rw [if_pos c] at w4
    refine ⟨A, zup B 197 13 0, 1, 0, ?_, ?_, agX_r, fun x y z => zup_f (by omega), Or.inl ⟨rfl, by omega, rfl, rfl, by omega⟩⟩
    · simp (disch := first | assumption | exact zrm0 | exact zrm1 _ | exact zrm2 _ _ | exact zrm3 _ _ _ | exact zrm4 _ _ _ _ | omega) only [m147, ↓k_dp, ↓k_dn, k_dp, k_dn, k_dT, k_dF, k_ip, k_in, if_true, if_false, ne_eq, not_true_eq_false, not_false_eq_true, Int.reduceAdd, zup_a, zup_e, zup_j, z32_id, k_al0, k_gE, k_en, k_acne, k_ic, k_ri, k_v2r, k_pop, zb0_some, zb1_some, e147_0, e147_1, e147_4, e147_7, e147_10, e147_11, e147_12, e147_13, e147_16, e147_19, e147_22, e147_23, e147_24, e147_25, e147_26, e147_29, e147_30, e147_31]
    · simp (disch := first | assumption | exact zrm0 | exact zrm1 _ | exact zrm2 _ _ | exact zrm3 _ _ _ | exact zrm4 _ _ _ _ | omega) only [m195, ↓k_dp, ↓k_dn, k_dp, k_dn, k_dT, k_dF, k_ip, k_in, if_true, if_false, ne_eq, not_true_eq_false, not_false_eq_true, Int.reduceAdd, zup_a, zup_e, zup_j, z32_id, k_al0, k_ic, k_v2r, k_ifne, k_rz, k_ifeq, k_goto, k_pI, zb0_some, zb1_some, e195_0, e195_1, e195_2, e195_5, e195_8, e195_9, e195_10, e195_13, e195_16, e195_17, e195_18, e195_21, e195_22, e195_23, e195_24, e195_25, e195_28, e195_31, e195_32, e195_35, e195_36, e195_39, e195_40, w4]
  · rw [if_neg c] at w4
    by_cases c2 : A 2 7 = 9
    · rw [if_pos c2] at w5
      refine ⟨A, zup B 197 13 1, 1, 1, ?_, ?_, agX_r, fun x y z => zup_f (by omega), Or.inl ⟨rfl, by omega, rfl, rfl, by omega⟩⟩
      · simp (disch := first | assumption | exact zrm0 | exact zrm1 _ | exact zrm2 _ _ | exact zrm3 _ _ _ | exact zrm4 _ _ _ _ | omega) only [m147, ↓k_dp, ↓k_dn, k_dp, k_dn, k_dT, k_dF, k_ip, k_in, if_true, if_false, ne_eq, not_true_eq_false, not_false_eq_true, Int.reduceAdd, zup_a, zup_e, zup_j, z32_id, k_al0, k_gE, k_en, k_acne, k_ic, k_ri, k_v2r, k_pop, zb0_some, zb1_some, e147_0, e147_1, e147_4, e147_7, e147_10, e147_11, e147_12, e147_13, e147_16, e147_19, e147_22, e147_23, e147_24, e147_25, e147_26, e147_29, e147_30, e147_31]
      · simp (disch := first | assumption | exact zrm0 | exact zrm1 _ | exact zrm2 _ _ | exact zrm3 _ _ _ | exact zrm4 _ _ _ _ | omega) only [m195, ↓k_dp, ↓k_dn, k_dp, k_dn, k_dT, k_dF, k_ip, k_in, if_true, if_false, ne_eq, not_true_eq_false, not_false_eq_true, Int.reduceAdd, zup_a, zup_e, zup_j, z32_id, k_al0, k_ic, k_v2r, k_ifne, k_rz, k_ifeq, k_goto, k_pI, zb0_some, zb1_some, e195_0, e195_1, e195_2, e195_5, e195_8, e195_9, e195_10, e195_13, e195_16, e195_17, e195_18, e195_21, e195_22, e195_23, e195_24, e195_25, e195_28, e195_31, e195_32, e195_35, e195_36, e195_39, e195_40, w4, w5]
    · rw [if_neg c2] at w5
      obtain ⟨Af, Bf, f1, f2, f3, f4, f5⟩ := p_fail h (k := 1) (by omega) (by omega) (fun _ => rfl)
      have f1' := f1 d x0 0 (by omega)
      have f2' := f2 e y0 0 (by omega)
      refine ⟨Af, Bf, 0, -1, ?_, ?_, f3, f4, Or.inr ⟨rfl, rfl, f5⟩⟩
      · simp (disch := first | assumption | exact zrm0 | exact zrm1 _ | exact zrm2 _ _ | exact zrm3 _ _ _ | exact zrm4 _ _ _ _ | omega) only [m147, ↓k_dp, ↓k_dn, k_dp, k_dn, k_dT, k_dF, k_ip, k_in, if_true, if_false, ne_eq, not_true_eq_false, not_false_eq_true, Int.reduceAdd, zup_a, zup_e, zup_j, z32_id, k_al0, k_gE, k_en, k_acne, k_ic, k_ri, k_v2r, k_pop, zb0_some, zb1_some, e147_0, e147_1, e147_4, e147_7, e147_10, e147_11, e147_12, e147_13, e147_16, e147_19, e147_22, e147_23, e147_24, e147_25, e147_26, e147_29, e147_30, e147_31, f1']
      · simp (disch := first | assumption | exact zrm0 | exact zrm1 _ | exact zrm2 _ _ | exact zrm3 _ _ _ | exact zrm4 _ _ _ _ | omega) only [m195, ↓k_dp, ↓k_dn, k_dp, k_dn, k_dT, k_dF, k_ip, k_in, if_true, if_false, ne_eq, not_true_eq_false, not_false_eq_true, Int.reduceAdd, zup_a, zup_e, zup_j, z32_id, k_al0, k_ic, k_v2r, k_ifne, k_rz, k_ifeq, k_goto, k_pI, zb0_some, zb1_some, e195_0, e195_1, e195_2, e195_5, e195_8, e195_9, e195_10, e195_13, e195_16, e195_17, e195_18, e195_21, e195_22, e195_23, e195_24, e195_25, e195_28, e195_31, e195_32, e195_35, e195_36, e195_39, e195_40, w4, w5, f2']
/-! names -/
noncomputable def fnd (P : Int → Prop) : Nat → Int → Int
  | 0, _ => -1
  | n + 1, i => zif (P i) i (fnd P n (i + 1))
theorem fnd_t {P : Int → Prop} : ∀ (n : Nat) (i : Int), 0 ≤ i → (fnd P n i = -1 ∧ ∀ k, i ≤ k → k < i + n → ¬ P k) ∨ (i ≤ fnd P n i ∧ fnd P n i < i + n ∧ P (fnd P n i))
  | 0, i, _ => Or.inl ⟨rfl, fun k h1 h2 => by omega⟩
  | n + 1, i, i0 => by
    unfold fnd
    by_cases c : P i
    · rw [zif_t c]
      exact Or.inr ⟨Int.le_refl _, by omega, c⟩
    · rw [zif_f c]
      rcases fnd_t (P := P) n (i + 1) (by omega) with ⟨h1, h2⟩ | ⟨h1, h2, h3⟩
      · refine Or.inl ⟨h1, fun k k1 k2 => ?_⟩
        by_cases ck : k = i
        · rw [ck]; exact c
        · exact h2 k (by omega) (by omega)
      · exact Or.inr ⟨by omega, by omega, h3⟩
theorem fnd_congr {P Q : Int → Prop} : ∀ (n : Nat) (i : Int), (∀ k, i ≤ k → k < i + n → (P k ↔ Q k)) → fnd P n i = fnd Q n i
  | 0, _, _ => rfl
  | n + 1, i, h => by
    unfold fnd
    rw [fnd_congr n (i + 1) (fun k k1 k2 => h k (by omega) (by omega))]
    have e : P i = Q i := propext (h i (Int.le_refl _) (by omega))
    rw [e]
theorem s_placeOfL (d : Nat) (v y a l y2 : Int) (many : Int) (A : zM) (hm : many ≤ l) (hl : l ≤ 20) : ∀ (n : Nat) (i : Int), i + n = many → 0 ≤ i → zEv true d 154 3 [(1, v, y), (3, 0, 0), (11, a, l), (0, many, y2), (0, i, 0)] [] A = some ((0, fnd (fun k => A a k = v) n i, 0), A)
  | 0, i, hi, i0 => by
    rw [e154_3]
    unfold fnd
    simp (disch := first | assumption | exact zrm0 | exact zrm1 _ | exact zrm2 _ _ | exact zrm3 _ _ _ | exact zrm4 _ _ _ _ | omega) only [m154, ↓k_dp, ↓k_dn, k_dp, k_dn, k_dT, k_dF, k_ip, k_in, if_true, if_false, ne_eq, not_true_eq_false, not_false_eq_true, Int.reduceAdd, zup_a, zup_e, zup_j, z32_id, k_ic, k_is4, k_il4, k_il3, k_icge, k_al2, k_len, k_lld, k_ll0, k_lcmp, k_ifne, k_ri, k_inc4, k_goto, e154_0, e154_1, e154_5, e154_6, e154_9, e154_11, e154_12, e154_13, e154_16, e154_17, e154_19, e154_20, e154_21, e154_22, e154_25, e154_27, e154_28, e154_31, e154_34, e154_35]
  | n + 1, i, hi, i0 => by
    have ih := s_placeOfL d v y a l y2 many A hm hl n (i + 1) (by omega) (by omega)
    rw [e154_3]
    unfold fnd
    by_cases c : A a i = v
    · rw [zif_t c]
      simp (disch := first | assumption | exact zrm0 | exact zrm1 _ | exact zrm2 _ _ | exact zrm3 _ _ _ | exact zrm4 _ _ _ _ | omega) only [m154, ↓k_dp, ↓k_dn, k_dp, k_dn, k_dT, k_dF, k_ip, k_in, if_true, if_false, ne_eq, not_true_eq_false, not_false_eq_true, Int.reduceAdd, zup_a, zup_e, zup_j, z32_id, k_ic, k_is4, k_il4, k_il3, k_icge, k_al2, k_len, k_lld, k_ll0, k_lcmp, k_ifne, k_ri, k_inc4, k_goto, e154_0, e154_1, e154_5, e154_6, e154_9, e154_11, e154_12, e154_13, e154_16, e154_17, e154_19, e154_20, e154_21, e154_22, e154_25, e154_27, e154_28, e154_31, e154_34, e154_35, zcmp_0]
    · rw [zif_f c, ← ih]
      simp (disch := first | assumption | exact zrm0 | exact zrm1 _ | exact zrm2 _ _ | exact zrm3 _ _ _ | exact zrm4 _ _ _ _ | omega) only [m154, ↓k_dp, ↓k_dn, k_dp, k_dn, k_dT, k_dF, k_ip, k_in, if_true, if_false, ne_eq, not_true_eq_false, not_false_eq_true, Int.reduceAdd, zup_a, zup_e, zup_j, z32_id, k_ic, k_is4, k_il4, k_il3, k_icge, k_al2, k_len, k_lld, k_ll0, k_lcmp, k_ifne, k_ri, k_inc4, k_goto, e154_0, e154_1, e154_5, e154_6, e154_9, e154_11, e154_12, e154_13, e154_16, e154_17, e154_19, e154_20, e154_21, e154_22, e154_25, e154_27, e154_28, e154_31, e154_34, e154_35, zcmp_0]
theorem s_placeOf (D : Nat) (hD : 1 ≤ D) (v y a l y2 : Int) (many : Int) (A : zM) (m0 : 0 ≤ many) (hm : many ≤ l) (hl : l ≤ 20) : zEm true D 154 [(1, v, y), (11, a, l), (0, many, y2)] A = some ((0, fnd (fun k => A a k = v) many.toNat 0, 0), A) := by
  obtain ⟨d, rfl⟩ : ∃ d, D = d + 1 := ⟨D - 1, by omega⟩
  rw [← s_placeOfL d v y a l y2 many A hm hl many.toNat 0 (by omega) (by omega)]
  simp (disch := first | assumption | exact zrm0 | exact zrm1 _ | exact zrm2 _ _ | exact zrm3 _ _ _ | exact zrm4 _ _ _ _ | omega) only [m154, ↓k_dp, ↓k_dn, k_dp, k_dn, k_dT, k_dF, k_ip, k_in, if_true, if_false, ne_eq, not_true_eq_false, not_false_eq_true, Int.reduceAdd, zup_a, zup_e, zup_j, z32_id, k_ic, k_is4, k_il4, k_il3, k_icge, k_al2, k_len, k_lld, k_ll0, k_lcmp, k_ifne, k_ri, k_inc4, k_goto, e154_0, e154_1, e154_5, e154_6, e154_9, e154_11, e154_12, e154_13, e154_16, e154_17, e154_19, e154_20, e154_21, e154_22, e154_25, e154_27, e154_28, e154_31, e154_34, e154_35]
theorem r_findInL (d : Nat) (r y b y1 y2 w y3 : Int) (many : Int) (B : zM) (b0 : 0 ≤ b) (hm : b + many ≤ 20) : ∀ (n : Nat) (i : Int), i + n = many → 0 ≤ i → zEv true d 188 3 [(11, r, 20), (0, b, y1), (0, many, y2), (1, w, y3), (3, 0, 0), (0, i, 0)] [] B = some ((0, fnd (fun k => B r (b + k) = w) n i, 0), B)
  | 0, i, hi, i0 => by
    rw [e188_3]
    unfold fnd
    simp (disch := first | assumption | exact zrm0 | exact zrm1 _ | exact zrm2 _ _ | exact zrm3 _ _ _ | exact zrm4 _ _ _ _ | omega) only [m188, ↓k_dp, ↓k_dn, k_dp, k_dn, k_dT, k_dF, k_ip, k_in, if_true, if_false, ne_eq, not_true_eq_false, not_false_eq_true, Int.reduceAdd, zup_a, zup_e, zup_j, z32_id, k_ic, k_is5, k_il5, k_il2, k_icge, k_al0, k_il1, k_iadd, k_lld, k_ll3, k_lcmp, k_ifne, k_ri, k_inc5, k_goto, e188_0, e188_1, e188_5, e188_6, e188_9, e188_10, e188_11, e188_13, e188_14, e188_15, e188_16, e188_17, e188_20, e188_22, e188_23, e188_26, e188_29, e188_30]
  | n + 1, i, hi, i0 => by
    have ih := r_findInL d r y b y1 y2 w y3 many B b0 hm n (i + 1) (by omega) (by omega)
    rw [e188_3]
    unfold fnd
    by_cases c : B r (b + i) = w
    · rw [zif_t c]
      simp (disch := first | assumption | exact zrm0 | exact zrm1 _ | exact zrm2 _ _ | exact zrm3 _ _ _ | exact zrm4 _ _ _ _ | omega) only [m188, ↓k_dp, ↓k_dn, k_dp, k_dn, k_dT, k_dF, k_ip, k_in, if_true, if_false, ne_eq, not_true_eq_false, not_false_eq_true, Int.reduceAdd, zup_a, zup_e, zup_j, z32_id, k_ic, k_is5, k_il5, k_il2, k_icge, k_al0, k_il1, k_iadd, k_lld, k_ll3, k_lcmp, k_ifne, k_ri, k_inc5, k_goto, e188_0, e188_1, e188_5, e188_6, e188_9, e188_10, e188_11, e188_13, e188_14, e188_15, e188_16, e188_17, e188_20, e188_22, e188_23, e188_26, e188_29, e188_30, zcmp_0]
    · rw [zif_f c, ← ih]
      simp (disch := first | assumption | exact zrm0 | exact zrm1 _ | exact zrm2 _ _ | exact zrm3 _ _ _ | exact zrm4 _ _ _ _ | omega) only [m188, ↓k_dp, ↓k_dn, k_dp, k_dn, k_dT, k_dF, k_ip, k_in, if_true, if_false, ne_eq, not_true_eq_false, not_false_eq_true, Int.reduceAdd, zup_a, zup_e, zup_j, z32_id, k_ic, k_is5, k_il5, k_il2, k_icge, k_al0, k_il1, k_iadd, k_lld, k_ll3, k_lcmp, k_ifne, k_ri, k_inc5, k_goto, e188_0, e188_1, e188_5, e188_6, e188_9, e188_10, e188_11, e188_13, e188_14, e188_15, e188_16, e188_17, e188_20, e188_22, e188_23, e188_26, e188_29, e188_30, zcmp_0]
theorem r_findIn (E : Nat) (hE : 1 ≤ E) (r b y1 y2 w y3 : Int) (many : Int) (B : zM) (b0 : 0 ≤ b) (m0 : 0 ≤ many) (hm : b + many ≤ 20) : zEm true E 188 [(11, r, 20), (0, b, y1), (0, many, y2), (1, w, y3)] B = some ((0, fnd (fun k => B r (b + k) = w) many.toNat 0, 0), B) := by
  obtain ⟨d, rfl⟩ : ∃ d, E = d + 1 := ⟨E - 1, by omega⟩
  rw [← r_findInL d r 0 b y1 y2 w y3 many B b0 hm many.toNat 0 (by omega) (by omega)]
  simp (disch := first | assumption | exact zrm0 | exact zrm1 _ | exact zrm2 _ _ | exact zrm3 _ _ _ | exact zrm4 _ _ _ _ | omega) only [m188, ↓k_dp, ↓k_dn, k_dp, k_dn, k_dT, k_dF, k_ip, k_in, if_true, if_false, ne_eq, not_true_eq_false, not_false_eq_true, Int.reduceAdd, zup_a, zup_e, zup_j, z32_id, k_ic, k_is5, k_il5, k_il2, k_icge, k_al0, k_il1, k_iadd, k_lld, k_ll3, k_lcmp, k_ifne, k_ri, k_inc5, k_goto, e188_0, e188_1, e188_5, e188_6, e188_9, e188_10, e188_11, e188_13, e188_14, e188_15, e188_16, e188_17, e188_20, e188_22, e188_23, e188_26, e188_29, e188_30]
/-- the same place is found -/
theorem p_find {A B : zM} {a r b many v w : Int} (hn : ∀ k, 0 ≤ k → k < many → nmR (A a k) (B r (b + k))) (hv : nmR v w) : fnd (fun k => B r (b + k) = w) many.toNat 0 = fnd (fun k => A a k = v) many.toNat 0 :=
  fnd_congr _ _ fun k k1 k2 => (nmR_inj (hn k k1 (by omega)) hv).symm
theorem p_isOne {A B : zM} (h : tkR A B) (D E : Nat) (hD : 2 ≤ D) (hE : 4 ≤ E) (a l b many : Int) (x0 y0 y1 y2 y3 : Int) (b0 : 0 ≤ b) (m0 : 0 ≤ many) (hm : b + many ≤ 20) (ml : many ≤ l) (hl : l ≤ 20) (hn : ∀ k, 0 ≤ k → k < many → nmR (A a k) (B 205 (b + k))) : ∃ A' B' v w, zEm true D 149 [(27, 2, x0), (11, a, l), (0, many, y1)] A = some ((0, w, 0), A') ∧ zEm true E 190 [(30, 197, y0), (0, b, y2), (0, many, y3)] B = some ((0, v, 0), B') ∧ agX A A' ∧ agY B B' ∧ (v = 1 ∧ (0 ≤ w ∧ w < many) ∧ A' = A ∧ B' = zup B 197 13 w ∧ A 2 5 = 2 ∨ v = 0 ∧ w = -1 ∧ flR A' B') := by
  obtain ⟨d, rfl⟩ : ∃ d, D = d + 1 := ⟨D - 1, by omega⟩
  obtain ⟨e, rfl⟩ : ∃ e, E = e + 1 := ⟨E - 1, by omega⟩
  have nm := p_isName h e (by omega) y0
  have wb := h.2.wb
  have w1 := h.2.w1
  by_cases c : A 2 7 = 2
  · have hv := h.2.nr c
    rw [if_pos c] at nm
    have hs := s_placeOf d (by omega) (A 2 8) 0 a l 0 many A m0 ml hl
    have hr := r_findIn e (by omega) 205 b 0 0 (B 197 12) 0 many B b0 m0 hm
    rw [p_find hn hv] at hr
    have ht := fnd_t (P := fun k => A a k = A 2 8) many.toNat 0 (by omega)
    generalize hF : fnd (fun k => A a k = A 2 8) many.toNat 0 = F at *
    have hk2 := (h.2.nm.1 c).1
    by_cases cF : F = -1
    · have hT : tkR A (zup B 197 13 (-1)) := tkR_fr h (fun _ _ _ => rfl) (fun x y z => zup_f (by omega))
      obtain ⟨Af, Bf, f1, f2, f3, f4, f5⟩ := p_fail hT (k := 3) (by omega) (by omega) (fun z => by rw [zup_j (by omega)] at z; omega)
      have f1' := f1 d x0 0 (by omega)
      have f2' := f2 e y0 0 (by omega)
      rw [cF] at hs hr
      refine ⟨Af, Bf, 0, -1, ?_, ?_, f3, fun x y z => by rw [f4 x y z, zup_f (by omega)], Or.inr ⟨rfl, rfl, f5⟩⟩
      · simp (disch := first | assumption | exact zrm0 | exact zrm1 _ | exact zrm2 _ _ | exact zrm3 _ _ _ | exact zrm4 _ _ _ _ | omega) only [m149, ↓k_dp, ↓k_dn, k_dp, k_dn, k_dT, k_dF, k_ip, k_in, if_true, if_false, ne_eq, not_true_eq_false, not_false_eq_true, Int.reduceAdd, zup_a, zup_e, zup_j, z32_id, k_al0, k_gE, k_en, k_aceq, k_ic, k_v2r, k_pop, k_ri, k_gL, k_al1, k_il2, k_s3r, k_is3, k_il3, k_icne, zb0_some, zb1_some, e149_0, e149_1, e149_4, e149_7, e149_10, e149_11, e149_12, e149_15, e149_16, e149_17, e149_18, e149_19, e149_22, e149_23, e149_24, e149_27, e149_28, e149_29, e149_30, e149_33, e149_34, e149_35, e149_38, e149_39, e149_40, hs, f1']
      · simp (disch := first | assumption | exact zrm0 | exact zrm1 _ | exact zrm2 _ _ | exact zrm3 _ _ _ | exact zrm4 _ _ _ _ | omega) only [m190, ↓k_dp, ↓k_dn, k_dp, k_dn, k_dT, k_dF, k_ip, k_in, if_true, if_false, ne_eq, not_true_eq_false, not_false_eq_true, Int.reduceAdd, zup_a, zup_e, zup_j, z32_id, k_al0, k_v1r, k_ifne, k_ic, k_v2r, k_rz, k_gR, k_il1, k_il2, k_gL, k_s4r, k_pI, k_gI, k_icne, k_ifeq, k_goto, zb0_some, zb1_some, e190_0, e190_1, e190_4, e190_7, e190_8, e190_9, e190_12, e190_13, e190_14, e190_15, e190_18, e190_19, e190_20, e190_21, e190_24, e190_27, e190_30, e190_31, e190_34, e190_35, e190_38, e190_39, e190_40, e190_43, e190_46, e190_47, e190_50, e190_51, nm, hr, f2']
    · have h2 := ht.resolve_left (fun z => cF z.1)
      refine ⟨A, zup B 197 13 F, 1, F, ?_, ?_, agX_r, fun x y z => zup_f (by omega), Or.inl ⟨rfl, by omega, rfl, rfl, by omega⟩⟩
      · simp (disch := first | assumption | exact zrm0 | exact zrm1 _ | exact zrm2 _ _ | exact zrm3 _ _ _ | exact zrm4 _ _ _ _ | omega) only [m149, ↓k_dp, ↓k_dn, k_dp, k_dn, k_dT, k_dF, k_ip, k_in, if_true, if_false, ne_eq, not_true_eq_false, not_false_eq_true, Int.reduceAdd, zup_a, zup_e, zup_j, z32_id, k_al0, k_gE, k_en, k_aceq, k_ic, k_v2r, k_pop, k_ri, k_gL, k_al1, k_il2, k_s3r, k_is3, k_il3, k_icne, zb0_some, zb1_some, e149_0, e149_1, e149_4, e149_7, e149_10, e149_11, e149_12, e149_15, e149_16, e149_17, e149_18, e149_19, e149_22, e149_23, e149_24, e149_27, e149_28, e149_29, e149_30, e149_33, e149_34, e149_35, e149_38, e149_39, e149_40, hs]
      · simp (disch := first | assumption | exact zrm0 | exact zrm1 _ | exact zrm2 _ _ | exact zrm3 _ _ _ | exact zrm4 _ _ _ _ | omega) only [m190, ↓k_dp, ↓k_dn, k_dp, k_dn, k_dT, k_dF, k_ip, k_in, if_true, if_false, ne_eq, not_true_eq_false, not_false_eq_true, Int.reduceAdd, zup_a, zup_e, zup_j, z32_id, k_al0, k_v1r, k_ifne, k_ic, k_v2r, k_rz, k_gR, k_il1, k_il2, k_gL, k_s4r, k_pI, k_gI, k_icne, k_ifeq, k_goto, zb0_some, zb1_some, e190_0, e190_1, e190_4, e190_7, e190_8, e190_9, e190_12, e190_13, e190_14, e190_15, e190_18, e190_19, e190_20, e190_21, e190_24, e190_27, e190_30, e190_31, e190_34, e190_35, e190_38, e190_39, e190_40, e190_43, e190_46, e190_47, e190_50, e190_51, nm, hr]
  · obtain ⟨Af, Bf, f1, f2, f3, f4, f5⟩ := p_fail h (k := 1) (by omega) (by omega) (fun _ => rfl)
    have f1' := f1 d x0 0 (by omega)
    have f2' := f2 e y0 0 (by omega)
    rw [if_neg c] at nm
    refine ⟨Af, Bf, 0, -1, ?_, ?_, f3, f4, Or.inr ⟨rfl, rfl, f5⟩⟩
    · simp (disch := first | assumption | exact zrm0 | exact zrm1 _ | exact zrm2 _ _ | exact zrm3 _ _ _ | exact zrm4 _ _ _ _ | omega) only [m149, ↓k_dp, ↓k_dn, k_dp, k_dn, k_dT, k_dF, k_ip, k_in, if_true, if_false, ne_eq, not_true_eq_false, not_false_eq_true, Int.reduceAdd, zup_a, zup_e, zup_j, z32_id, k_al0, k_gE, k_en, k_aceq, k_ic, k_v2r, k_pop, k_ri, k_gL, k_al1, k_il2, k_s3r, k_is3, k_il3, k_icne, zb0_some, zb1_some, e149_0, e149_1, e149_4, e149_7, e149_10, e149_11, e149_12, e149_15, e149_16, e149_17, e149_18, e149_19, e149_22, e149_23, e149_24, e149_27, e149_28, e149_29, e149_30, e149_33, e149_34, e149_35, e149_38, e149_39, e149_40, f1']
    · simp (disch := first | assumption | exact zrm0 | exact zrm1 _ | exact zrm2 _ _ | exact zrm3 _ _ _ | exact zrm4 _ _ _ _ | omega) only [m190, ↓k_dp, ↓k_dn, k_dp, k_dn, k_dT, k_dF, k_ip, k_in, if_true, if_false, ne_eq, not_true_eq_false, not_false_eq_true, Int.reduceAdd, zup_a, zup_e, zup_j, z32_id, k_al0, k_v1r, k_ifne, k_ic, k_v2r, k_rz, k_gR, k_il1, k_il2, k_gL, k_s4r, k_pI, k_gI, k_icne, k_ifeq, k_goto, zb0_some, zb1_some, e190_0, e190_1, e190_4, e190_7, e190_8, e190_9, e190_12, e190_13, e190_14, e190_15, e190_18, e190_19, e190_20, e190_21, e190_24, e190_27, e190_30, e190_31, e190_34, e190_35, e190_38, e190_39, e190_40, e190_43, e190_46, e190_47, e190_50, e190_51, nm, f2']
theorem p_readOne {A B : zM} (h : tkR A B) (D E : Nat) (hD : 7 ≤ D) (hE : 5 ≤ E) (a l b many : Int) (x0 y0 y1 y2 y3 : Int) (b0 : 0 ≤ b) (m0 : 0 ≤ many) (hm : b + many ≤ 20) (ml : many ≤ l) (hl : l ≤ 20) (hn : ∀ k, 0 ≤ k → k < many → nmR (A a k) (B 205 (b + k))) : ∃ A' B' v w, zEm true D 150 [(27, 2, x0), (11, a, l), (0, many, y1)] A = some ((0, w, 0), A') ∧ zEm true E 191 [(30, 197, y0), (0, b, y2), (0, many, y3)] B = some ((0, v, 0), B') ∧ agX A A' ∧ agY B B' ∧ (v = 1 ∧ (0 ≤ w ∧ w < many) ∧ B' 197 13 = w ∧ tkR A' B' ∧ A 2 4 < A' 2 4 ∨ v = 0 ∧ w = -1 ∧ flR A' B') := by
  obtain ⟨d, rfl⟩ : ∃ d, D = d + 1 := ⟨D - 1, by omega⟩
  obtain ⟨e, rfl⟩ : ∃ e, E = e + 1 := ⟨E - 1, by omega⟩
  obtain ⟨A1, B1, v, w, a1, a2, a3, a4, a5⟩ := p_isOne h d e (by omega) (by omega) a l b many x0 y0 0 0 0 b0 m0 hm ml hl hn
  have pg := h.2.pg
  rcases a5 with ⟨rfl, hw, rfl, rfl, h5⟩ | ⟨rfl, rfl, h5⟩
  · have hT : tkR A1 (zup B 197 13 w) := tkR_fr h (fun _ _ _ => rfl) (fun x y z => zup_f (by omega))
    obtain ⟨A', B', b1, b2, b3, b4, b5, b6⟩ := p_go hT.1 d e (by omega) (by omega) x0 y0
    refine ⟨A', B', 1, w, ?_, ?_, agX_a b4, agY_t a4 (agY_g b5), Or.inl ⟨rfl, hw, ?_, b3, b6 _ (pg (by omega)).1 (pg (by omega)).2⟩⟩
    · simp (disch := first | assumption | exact zrm0 | exact zrm1 _ | exact zrm2 _ _ | exact zrm3 _ _ _ | exact zrm4 _ _ _ _ | omega) only [m150, ↓k_dp, ↓k_dn, k_dp, k_dn, k_dT, k_dF, k_ip, k_in, if_true, if_false, ne_eq, not_true_eq_false, not_false_eq_true, Int.reduceAdd, zup_a, zup_e, zup_j, z32_id, k_al0, k_al1, k_il2, k_v3r, k_is3, k_il3, k_ic, k_iceq, k_v1, k_ri, zb0_some, zb1_some, e150_0, e150_1, e150_2, e150_3, e150_6, e150_7, e150_8, e150_9, e150_12, e150_13, e150_16, e150_17, a1, b1]
    · simp (disch := first | assumption | exact zrm0 | exact zrm1 _ | exact zrm2 _ _ | exact zrm3 _ _ _ | exact zrm4 _ _ _ _ | omega) only [m191, ↓k_dp, ↓k_dn, k_dp, k_dn, k_dT, k_dF, k_ip, k_in, if_true, if_false, ne_eq, not_true_eq_false, not_false_eq_true, Int.reduceAdd, zup_a, zup_e, zup_j, z32_id, k_al0, k_il1, k_il2, k_v3r, k_ifne, k_ic, k_rz, k_v1, zb0_some, zb1_some, e191_0, e191_1, e191_2, e191_3, e191_6, e191_9, e191_10, e191_11, e191_12, e191_15, e191_16, a2, b2]
    · rw [b5 _ _ (by omega), zup_e (by omega)]
  · refine ⟨A1, B1, 0, -1, ?_, ?_, a3, a4, Or.inr ⟨rfl, rfl, h5⟩⟩
    · simp (disch := first | assumption | exact zrm0 | exact zrm1 _ | exact zrm2 _ _ | exact zrm3 _ _ _ | exact zrm4 _ _ _ _ | omega) only [m150, ↓k_dp, ↓k_dn, k_dp, k_dn, k_dT, k_dF, k_ip, k_in, if_true, if_false, ne_eq, not_true_eq_false, not_false_eq_true, Int.reduceAdd, zup_a, zup_e, zup_j, z32_id, k_al0, k_al1, k_il2, k_v3r, k_is3, k_il3, k_ic, k_iceq, k_v1, k_ri, zb0_some, zb1_some, e150_0, e150_1, e150_2, e150_3, e150_6, e150_7, e150_8, e150_9, e150_12, e150_13, e150_16, e150_17, a1]
    · simp (disch := first | assumption | exact zrm0 | exact zrm1 _ | exact zrm2 _ _ | exact zrm3 _ _ _ | exact zrm4 _ _ _ _ | omega) only [m191, ↓k_dp, ↓k_dn, k_dp, k_dn, k_dT, k_dF, k_ip, k_in, if_true, if_false, ne_eq, not_true_eq_false, not_false_eq_true, Int.reduceAdd, zup_a, zup_e, zup_j, z32_id, k_al0, k_il1, k_il2, k_v3r, k_ifne, k_ic, k_rz, k_v1, zb0_some, zb1_some, e191_0, e191_1, e191_2, e191_3, e191_6, e191_9, e191_10, e191_11, e191_12, e191_15, e191_16, a2]
