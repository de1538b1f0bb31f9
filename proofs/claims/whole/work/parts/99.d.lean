/-! the tape fed -/
theorem zand_255 (x : Int) : 0 ≤ zand x 255 ∧ zand x 255 ≤ 255 := by
  unfold zand
  generalize zb x = w
  have h1 : (w &&& zb 255).toInt = (w.toBitVec &&& 255#32).toInt := rfl
  have h2 : (w.toBitVec &&& 255#32).toNat ≤ 255 := by
    rw [BitVec.toNat_and]
    exact Nat.and_le_right
  rw [h1, BitVec.toInt_eq_toNat_of_lt (by omega)]
  omega
def put4 (f : Int → Int) (s w i : Int) : Int := if i = s then zand (zush w 24) 255 else if i = s + 1 then zand (zush w 16) 255 else if i = s + 2 then zand (zush w 8) 255 else if i = s + 3 then zand (zush w 0) 255 else f i
theorem m135 (ph : Bool) (d : Nat) (a x0 p0 y0 : Int) (M : zM) : zEm ph (d + 1) 135 [(27, a, x0), (0, p0, y0)] M = zEv ph d 135 0 [(27, a, x0), (0, p0, y0), (3, 0, 0)] [] M := rfl
theorem e135_0 (ph : Bool) (d : Nat) (L st : List zV) (M : zM) : zEv ph d 135 0 L st M = zcont ph d 135 (zstep ph (zEm ph d) 0 2 0 [24] L st M) := zEv_step rfl
theorem e135_2 (ph : Bool) (d : Nat) (L st : List zV) (M : zM) : zEv ph d 135 2 L st M = zcont ph d 135 (zstep ph (zEm ph d) 5 3 0 [2] L st M) := zEv_step rfl
theorem e135_3 (ph : Bool) (d : Nat) (L st : List zV) (M : zM) : zEv ph d 135 3 L st M = zcont ph d 135 (zstep ph (zEm ph d) 2 4 0 [2] L st M) := zEv_step rfl
theorem e135_4 (ph : Bool) (d : Nat) (L st : List zV) (M : zM) : zEv ph d 135 4 L st M = zcont ph d 135 (zstep ph (zEm ph d) 42 7 51 [] L st M) := zEv_step rfl
theorem e135_7 (ph : Bool) (d : Nat) (L st : List zV) (M : zM) : zEv ph d 135 7 L st M = zcont ph d 135 (zstep ph (zEm ph d) 4 8 0 [0] L st M) := zEv_step rfl
theorem e135_8 (ph : Bool) (d : Nat) (L st : List zV) (M : zM) : zEv ph d 135 8 L st M = zcont ph d 135 (zstep ph (zEm ph d) 60 11 0 [27, 1] L st M) := zEv_step rfl
theorem e135_11 (ph : Bool) (d : Nat) (L st : List zV) (M : zM) : zEv ph d 135 11 L st M = zcont ph d 135 (zstep ph (zEm ph d) 4 12 0 [0] L st M) := zEv_step rfl
theorem e135_12 (ph : Bool) (d : Nat) (L st : List zV) (M : zM) : zEv ph d 135 12 L st M = zcont ph d 135 (zstep ph (zEm ph d) 62 15 0 [27, 0, 1, 10, 940] L st M) := zEv_step rfl
theorem e135_15 (ph : Bool) (d : Nat) (L st : List zV) (M : zM) : zEv ph d 135 15 L st M = zcont ph d 135 (zstep ph (zEm ph d) 84 16 0 [] L st M) := zEv_step rfl
theorem e135_16 (ph : Bool) (d : Nat) (L st : List zV) (M : zM) : zEv ph d 135 16 L st M = zcont ph d 135 (zstep ph (zEm ph d) 49 19 51 [] L st M) := zEv_step rfl
theorem e135_19 (ph : Bool) (d : Nat) (L st : List zV) (M : zM) : zEv ph d 135 19 L st M = zcont ph d 135 (zstep ph (zEm ph d) 4 20 0 [0] L st M) := zEv_step rfl
theorem e135_20 (ph : Bool) (d : Nat) (L st : List zV) (M : zM) : zEv ph d 135 20 L st M = zcont ph d 135 (zstep ph (zEm ph d) 62 23 0 [27, 0, 1, 10, 940] L st M) := zEv_step rfl
theorem e135_23 (ph : Bool) (d : Nat) (L st : List zV) (M : zM) : zEv ph d 135 23 L st M = zcont ph d 135 (zstep ph (zEm ph d) 4 24 0 [0] L st M) := zEv_step rfl
theorem e135_24 (ph : Bool) (d : Nat) (L st : List zV) (M : zM) : zEv ph d 135 24 L st M = zcont ph d 135 (zstep ph (zEm ph d) 60 27 0 [27, 1] L st M) := zEv_step rfl
theorem e135_27 (ph : Bool) (d : Nat) (L st : List zV) (M : zM) : zEv ph d 135 27 L st M = zcont ph d 135 (zstep ph (zEm ph d) 2 28 0 [1] L st M) := zEv_step rfl
theorem e135_28 (ph : Bool) (d : Nat) (L st : List zV) (M : zM) : zEv ph d 135 28 L st M = zcont ph d 135 (zstep ph (zEm ph d) 2 29 0 [2] L st M) := zEv_step rfl
theorem e135_29 (ph : Bool) (d : Nat) (L st : List zV) (M : zM) : zEv ph d 135 29 L st M = zcont ph d 135 (zstep ph (zEm ph d) 21 30 0 [] L st M) := zEv_step rfl
theorem e135_30 (ph : Bool) (d : Nat) (L st : List zV) (M : zM) : zEv ph d 135 30 L st M = zcont ph d 135 (zstep ph (zEm ph d) 0 33 0 [255] L st M) := zEv_step rfl
theorem e135_33 (ph : Bool) (d : Nat) (L st : List zV) (M : zM) : zEv ph d 135 33 L st M = zcont ph d 135 (zstep ph (zEm ph d) 16 34 0 [] L st M) := zEv_step rfl
theorem e135_34 (ph : Bool) (d : Nat) (L st : List zV) (M : zM) : zEv ph d 135 34 L st M = zcont ph d 135 (zstep ph (zEm ph d) 89 35 0 [] L st M) := zEv_step rfl
theorem e135_35 (ph : Bool) (d : Nat) (L st : List zV) (M : zM) : zEv ph d 135 35 L st M = zcont ph d 135 (zstep ph (zEm ph d) 4 36 0 [0] L st M) := zEv_step rfl
theorem e135_36 (ph : Bool) (d : Nat) (L st : List zV) (M : zM) : zEv ph d 135 36 L st M = zcont ph d 135 (zstep ph (zEm ph d) 36 37 0 [] L st M) := zEv_step rfl
theorem e135_37 (ph : Bool) (d : Nat) (L st : List zV) (M : zM) : zEv ph d 135 37 L st M = zcont ph d 135 (zstep ph (zEm ph d) 60 40 0 [27, 1] L st M) := zEv_step rfl
theorem e135_40 (ph : Bool) (d : Nat) (L st : List zV) (M : zM) : zEv ph d 135 40 L st M = zcont ph d 135 (zstep ph (zEm ph d) 0 41 0 [1] L st M) := zEv_step rfl
theorem e135_41 (ph : Bool) (d : Nat) (L st : List zV) (M : zM) : zEv ph d 135 41 L st M = zcont ph d 135 (zstep ph (zEm ph d) 10 42 0 [] L st M) := zEv_step rfl
theorem e135_42 (ph : Bool) (d : Nat) (L st : List zV) (M : zM) : zEv ph d 135 42 L st M = zcont ph d 135 (zstep ph (zEm ph d) 65 45 0 [27, 1] L st M) := zEv_step rfl
theorem e135_45 (ph : Bool) (d : Nat) (L st : List zV) (M : zM) : zEv ph d 135 45 L st M = zcont ph d 135 (zstep ph (zEm ph d) 8 48 0 [2, -8] L st M) := zEv_step rfl
theorem e135_48 (ph : Bool) (d : Nat) (L st : List zV) (M : zM) : zEv ph d 135 48 L st M = zcont ph d 135 (zstep ph (zEm ph d) 52 51 3 [] L st M) := zEv_step rfl
theorem e135_51 (ph : Bool) (d : Nat) (L st : List zV) (M : zM) : zEv ph d 135 51 L st M = zcont ph d 135 (zstep ph (zEm ph d) 83 52 0 [] L st M) := zEv_step rfl
theorem m164 (ph : Bool) (d : Nat) (a x0 p0 y0 : Int) (M : zM) : zEm ph (d + 1) 164 [(30, a, x0), (0, p0, y0)] M = zEv ph d 164 0 [(30, a, x0), (0, p0, y0), (3, 0, 0)] [] M := rfl
theorem e164_0 (ph : Bool) (d : Nat) (L st : List zV) (M : zM) : zEv ph d 164 0 L st M = zcont ph d 164 (zstep ph (zEm ph d) 0 2 0 [24] L st M) := zEv_step rfl
theorem e164_2 (ph : Bool) (d : Nat) (L st : List zV) (M : zM) : zEv ph d 164 2 L st M = zcont ph d 164 (zstep ph (zEm ph d) 5 3 0 [2] L st M) := zEv_step rfl
theorem e164_3 (ph : Bool) (d : Nat) (L st : List zV) (M : zM) : zEv ph d 164 3 L st M = zcont ph d 164 (zstep ph (zEm ph d) 2 4 0 [2] L st M) := zEv_step rfl
theorem e164_4 (ph : Bool) (d : Nat) (L st : List zV) (M : zM) : zEv ph d 164 4 L st M = zcont ph d 164 (zstep ph (zEm ph d) 42 7 39 [] L st M) := zEv_step rfl
theorem e164_7 (ph : Bool) (d : Nat) (L st : List zV) (M : zM) : zEv ph d 164 7 L st M = zcont ph d 164 (zstep ph (zEm ph d) 4 8 0 [0] L st M) := zEv_step rfl
theorem e164_8 (ph : Bool) (d : Nat) (L st : List zV) (M : zM) : zEv ph d 164 8 L st M = zcont ph d 164 (zstep ph (zEm ph d) 62 11 0 [30, 1, 1, 10, 940] L st M) := zEv_step rfl
theorem e164_11 (ph : Bool) (d : Nat) (L st : List zV) (M : zM) : zEv ph d 164 11 L st M = zcont ph d 164 (zstep ph (zEm ph d) 4 12 0 [0] L st M) := zEv_step rfl
theorem e164_12 (ph : Bool) (d : Nat) (L st : List zV) (M : zM) : zEv ph d 164 12 L st M = zcont ph d 164 (zstep ph (zEm ph d) 60 15 0 [30, 2] L st M) := zEv_step rfl
theorem e164_15 (ph : Bool) (d : Nat) (L st : List zV) (M : zM) : zEv ph d 164 15 L st M = zcont ph d 164 (zstep ph (zEm ph d) 2 16 0 [1] L st M) := zEv_step rfl
theorem e164_16 (ph : Bool) (d : Nat) (L st : List zV) (M : zM) : zEv ph d 164 16 L st M = zcont ph d 164 (zstep ph (zEm ph d) 2 17 0 [2] L st M) := zEv_step rfl
theorem e164_17 (ph : Bool) (d : Nat) (L st : List zV) (M : zM) : zEv ph d 164 17 L st M = zcont ph d 164 (zstep ph (zEm ph d) 21 18 0 [] L st M) := zEv_step rfl
theorem e164_18 (ph : Bool) (d : Nat) (L st : List zV) (M : zM) : zEv ph d 164 18 L st M = zcont ph d 164 (zstep ph (zEm ph d) 0 21 0 [255] L st M) := zEv_step rfl
theorem e164_21 (ph : Bool) (d : Nat) (L st : List zV) (M : zM) : zEv ph d 164 21 L st M = zcont ph d 164 (zstep ph (zEm ph d) 16 22 0 [] L st M) := zEv_step rfl
theorem e164_22 (ph : Bool) (d : Nat) (L st : List zV) (M : zM) : zEv ph d 164 22 L st M = zcont ph d 164 (zstep ph (zEm ph d) 89 23 0 [] L st M) := zEv_step rfl
theorem e164_23 (ph : Bool) (d : Nat) (L st : List zV) (M : zM) : zEv ph d 164 23 L st M = zcont ph d 164 (zstep ph (zEm ph d) 4 24 0 [0] L st M) := zEv_step rfl
theorem e164_24 (ph : Bool) (d : Nat) (L st : List zV) (M : zM) : zEv ph d 164 24 L st M = zcont ph d 164 (zstep ph (zEm ph d) 36 25 0 [] L st M) := zEv_step rfl
theorem e164_25 (ph : Bool) (d : Nat) (L st : List zV) (M : zM) : zEv ph d 164 25 L st M = zcont ph d 164 (zstep ph (zEm ph d) 60 28 0 [30, 2] L st M) := zEv_step rfl
theorem e164_28 (ph : Bool) (d : Nat) (L st : List zV) (M : zM) : zEv ph d 164 28 L st M = zcont ph d 164 (zstep ph (zEm ph d) 0 29 0 [1] L st M) := zEv_step rfl
theorem e164_29 (ph : Bool) (d : Nat) (L st : List zV) (M : zM) : zEv ph d 164 29 L st M = zcont ph d 164 (zstep ph (zEm ph d) 10 30 0 [] L st M) := zEv_step rfl
theorem e164_30 (ph : Bool) (d : Nat) (L st : List zV) (M : zM) : zEv ph d 164 30 L st M = zcont ph d 164 (zstep ph (zEm ph d) 65 33 0 [30, 2] L st M) := zEv_step rfl
theorem e164_33 (ph : Bool) (d : Nat) (L st : List zV) (M : zM) : zEv ph d 164 33 L st M = zcont ph d 164 (zstep ph (zEm ph d) 8 36 0 [2, -8] L st M) := zEv_step rfl
theorem e164_36 (ph : Bool) (d : Nat) (L st : List zV) (M : zM) : zEv ph d 164 36 L st M = zcont ph d 164 (zstep ph (zEm ph d) 52 39 3 [] L st M) := zEv_step rfl
theorem e164_39 (ph : Bool) (d : Nat) (L st : List zV) (M : zM) : zEv ph d 164 39 L st M = zcont ph d 164 (zstep ph (zEm ph d) 83 40 0 [] L st M) := zEv_step rfl
theorem m1 (ph : Bool) (d : Nat) (a x0 p0 y0 p1 y1 p2 y2 p3 y3 p4 y4 : Int) (M : zM) : zEm ph (d + 1) 1 [(29, a, x0), (0, p0, y0), (0, p1, y1), (0, p2, y2), (0, p3, y3), (0, p4, y4)] M = zEv ph d 1 0 [(29, a, x0), (0, p0, y0), (0, p1, y1), (0, p2, y2), (0, p3, y3), (0, p4, y4)] [] M := rfl
theorem e1_0 (ph : Bool) (d : Nat) (L st : List zV) (M : zM) : zEv ph d 1 0 L st M = zcont ph d 1 (zstep ph (zEm ph d) 4 1 0 [0] L st M) := zEv_step rfl
theorem e1_1 (ph : Bool) (d : Nat) (L st : List zV) (M : zM) : zEv ph d 1 1 L st M = zcont ph d 1 (zstep ph (zEm ph d) 62 4 0 [29, 1, 2, 27, 0] L st M) := zEv_step rfl
theorem e1_4 (ph : Bool) (d : Nat) (L st : List zV) (M : zM) : zEv ph d 1 4 L st M = zcont ph d 1 (zstep ph (zEm ph d) 60 7 0 [27, 1] L st M) := zEv_step rfl
theorem e1_7 (ph : Bool) (d : Nat) (L st : List zV) (M : zM) : zEv ph d 1 7 L st M = zcont ph d 1 (zstep ph (zEm ph d) 0 9 0 [20] L st M) := zEv_step rfl
theorem e1_9 (ph : Bool) (d : Nat) (L st : List zV) (M : zM) : zEv ph d 1 9 L st M = zcont ph d 1 (zstep ph (zEm ph d) 10 10 0 [] L st M) := zEv_step rfl
theorem e1_10 (ph : Bool) (d : Nat) (L st : List zV) (M : zM) : zEv ph d 1 10 L st M = zcont ph d 1 (zstep ph (zEm ph d) 0 13 0 [940] L st M) := zEv_step rfl
theorem e1_13 (ph : Bool) (d : Nat) (L st : List zV) (M : zM) : zEv ph d 1 13 L st M = zcont ph d 1 (zstep ph (zEm ph d) 51 16 18 [] L st M) := zEv_step rfl
theorem e1_16 (ph : Bool) (d : Nat) (L st : List zV) (M : zM) : zEv ph d 1 16 L st M = zcont ph d 1 (zstep ph (zEm ph d) 0 17 0 [-1] L st M) := zEv_step rfl
theorem e1_17 (ph : Bool) (d : Nat) (L st : List zV) (M : zM) : zEv ph d 1 17 L st M = zcont ph d 1 (zstep ph (zEm ph d) 80 18 0 [] L st M) := zEv_step rfl
theorem e1_18 (ph : Bool) (d : Nat) (L st : List zV) (M : zM) : zEv ph d 1 18 L st M = zcont ph d 1 (zstep ph (zEm ph d) 4 19 0 [0] L st M) := zEv_step rfl
theorem e1_19 (ph : Bool) (d : Nat) (L st : List zV) (M : zM) : zEv ph d 1 19 L st M = zcont ph d 1 (zstep ph (zEm ph d) 62 22 0 [29, 1, 2, 27, 0] L st M) := zEv_step rfl
theorem e1_22 (ph : Bool) (d : Nat) (L st : List zV) (M : zM) : zEv ph d 1 22 L st M = zcont ph d 1 (zstep ph (zEm ph d) 2 23 0 [1] L st M) := zEv_step rfl
theorem e1_23 (ph : Bool) (d : Nat) (L st : List zV) (M : zM) : zEv ph d 1 23 L st M = zcont ph d 1 (zstep ph (zEm ph d) 70 26 135 [2, 0, 27] L st M) := zEv_step rfl
theorem e1_26 (ph : Bool) (d : Nat) (L st : List zV) (M : zM) : zEv ph d 1 26 L st M = zcont ph d 1 (zstep ph (zEm ph d) 4 27 0 [0] L st M) := zEv_step rfl
theorem e1_27 (ph : Bool) (d : Nat) (L st : List zV) (M : zM) : zEv ph d 1 27 L st M = zcont ph d 1 (zstep ph (zEm ph d) 62 30 0 [29, 1, 2, 27, 0] L st M) := zEv_step rfl
theorem e1_30 (ph : Bool) (d : Nat) (L st : List zV) (M : zM) : zEv ph d 1 30 L st M = zcont ph d 1 (zstep ph (zEm ph d) 2 31 0 [2] L st M) := zEv_step rfl
theorem e1_31 (ph : Bool) (d : Nat) (L st : List zV) (M : zM) : zEv ph d 1 31 L st M = zcont ph d 1 (zstep ph (zEm ph d) 70 34 135 [2, 0, 27] L st M) := zEv_step rfl
theorem e1_34 (ph : Bool) (d : Nat) (L st : List zV) (M : zM) : zEv ph d 1 34 L st M = zcont ph d 1 (zstep ph (zEm ph d) 4 35 0 [0] L st M) := zEv_step rfl
theorem e1_35 (ph : Bool) (d : Nat) (L st : List zV) (M : zM) : zEv ph d 1 35 L st M = zcont ph d 1 (zstep ph (zEm ph d) 62 38 0 [29, 1, 2, 27, 0] L st M) := zEv_step rfl
theorem e1_38 (ph : Bool) (d : Nat) (L st : List zV) (M : zM) : zEv ph d 1 38 L st M = zcont ph d 1 (zstep ph (zEm ph d) 2 39 0 [3] L st M) := zEv_step rfl
theorem e1_39 (ph : Bool) (d : Nat) (L st : List zV) (M : zM) : zEv ph d 1 39 L st M = zcont ph d 1 (zstep ph (zEm ph d) 70 42 135 [2, 0, 27] L st M) := zEv_step rfl
theorem e1_42 (ph : Bool) (d : Nat) (L st : List zV) (M : zM) : zEv ph d 1 42 L st M = zcont ph d 1 (zstep ph (zEm ph d) 4 43 0 [0] L st M) := zEv_step rfl
theorem e1_43 (ph : Bool) (d : Nat) (L st : List zV) (M : zM) : zEv ph d 1 43 L st M = zcont ph d 1 (zstep ph (zEm ph d) 62 46 0 [29, 1, 2, 27, 0] L st M) := zEv_step rfl
theorem e1_46 (ph : Bool) (d : Nat) (L st : List zV) (M : zM) : zEv ph d 1 46 L st M = zcont ph d 1 (zstep ph (zEm ph d) 2 48 0 [4] L st M) := zEv_step rfl
theorem e1_48 (ph : Bool) (d : Nat) (L st : List zV) (M : zM) : zEv ph d 1 48 L st M = zcont ph d 1 (zstep ph (zEm ph d) 70 51 135 [2, 0, 27] L st M) := zEv_step rfl
theorem e1_51 (ph : Bool) (d : Nat) (L st : List zV) (M : zM) : zEv ph d 1 51 L st M = zcont ph d 1 (zstep ph (zEm ph d) 4 52 0 [0] L st M) := zEv_step rfl
theorem e1_52 (ph : Bool) (d : Nat) (L st : List zV) (M : zM) : zEv ph d 1 52 L st M = zcont ph d 1 (zstep ph (zEm ph d) 62 55 0 [29, 1, 2, 27, 0] L st M) := zEv_step rfl
theorem e1_55 (ph : Bool) (d : Nat) (L st : List zV) (M : zM) : zEv ph d 1 55 L st M = zcont ph d 1 (zstep ph (zEm ph d) 2 57 0 [5] L st M) := zEv_step rfl
theorem e1_57 (ph : Bool) (d : Nat) (L st : List zV) (M : zM) : zEv ph d 1 57 L st M = zcont ph d 1 (zstep ph (zEm ph d) 70 60 135 [2, 0, 27] L st M) := zEv_step rfl
theorem e1_60 (ph : Bool) (d : Nat) (L st : List zV) (M : zM) : zEv ph d 1 60 L st M = zcont ph d 1 (zstep ph (zEm ph d) 4 61 0 [0] L st M) := zEv_step rfl
theorem e1_61 (ph : Bool) (d : Nat) (L st : List zV) (M : zM) : zEv ph d 1 61 L st M = zcont ph d 1 (zstep ph (zEm ph d) 62 64 0 [29, 1, 2, 27, 0] L st M) := zEv_step rfl
theorem e1_64 (ph : Bool) (d : Nat) (L st : List zV) (M : zM) : zEv ph d 1 64 L st M = zcont ph d 1 (zstep ph (zEm ph d) 60 67 0 [27, 1] L st M) := zEv_step rfl
theorem e1_67 (ph : Bool) (d : Nat) (L st : List zV) (M : zM) : zEv ph d 1 67 L st M = zcont ph d 1 (zstep ph (zEm ph d) 80 68 0 [] L st M) := zEv_step rfl
theorem m165 (ph : Bool) (d : Nat) (a x0 p0 y0 p1 y1 p2 y2 p3 y3 p4 y4 : Int) (M : zM) : zEm ph (d + 1) 165 [(30, a, x0), (0, p0, y0), (0, p1, y1), (0, p2, y2), (0, p3, y3), (0, p4, y4)] M = zEv ph d 165 0 [(30, a, x0), (0, p0, y0), (0, p1, y1), (0, p2, y2), (0, p3, y3), (0, p4, y4)] [] M := rfl
theorem e165_0 (ph : Bool) (d : Nat) (L st : List zV) (M : zM) : zEv ph d 165 0 L st M = zcont ph d 165 (zstep ph (zEm ph d) 4 1 0 [0] L st M) := zEv_step rfl
theorem e165_1 (ph : Bool) (d : Nat) (L st : List zV) (M : zM) : zEv ph d 165 1 L st M = zcont ph d 165 (zstep ph (zEm ph d) 0 2 0 [0] L st M) := zEv_step rfl
theorem e165_2 (ph : Bool) (d : Nat) (L st : List zV) (M : zM) : zEv ph d 165 2 L st M = zcont ph d 165 (zstep ph (zEm ph d) 65 5 0 [30, 0] L st M) := zEv_step rfl
theorem e165_5 (ph : Bool) (d : Nat) (L st : List zV) (M : zM) : zEv ph d 165 5 L st M = zcont ph d 165 (zstep ph (zEm ph d) 4 6 0 [0] L st M) := zEv_step rfl
theorem e165_6 (ph : Bool) (d : Nat) (L st : List zV) (M : zM) : zEv ph d 165 6 L st M = zcont ph d 165 (zstep ph (zEm ph d) 60 9 0 [30, 2] L st M) := zEv_step rfl
theorem e165_9 (ph : Bool) (d : Nat) (L st : List zV) (M : zM) : zEv ph d 165 9 L st M = zcont ph d 165 (zstep ph (zEm ph d) 0 11 0 [20] L st M) := zEv_step rfl
theorem e165_11 (ph : Bool) (d : Nat) (L st : List zV) (M : zM) : zEv ph d 165 11 L st M = zcont ph d 165 (zstep ph (zEm ph d) 10 12 0 [] L st M) := zEv_step rfl
theorem e165_12 (ph : Bool) (d : Nat) (L st : List zV) (M : zM) : zEv ph d 165 12 L st M = zcont ph d 165 (zstep ph (zEm ph d) 0 15 0 [940] L st M) := zEv_step rfl
theorem e165_15 (ph : Bool) (d : Nat) (L st : List zV) (M : zM) : zEv ph d 165 15 L st M = zcont ph d 165 (zstep ph (zEm ph d) 51 18 20 [] L st M) := zEv_step rfl
theorem e165_18 (ph : Bool) (d : Nat) (L st : List zV) (M : zM) : zEv ph d 165 18 L st M = zcont ph d 165 (zstep ph (zEm ph d) 0 19 0 [-1] L st M) := zEv_step rfl
theorem e165_19 (ph : Bool) (d : Nat) (L st : List zV) (M : zM) : zEv ph d 165 19 L st M = zcont ph d 165 (zstep ph (zEm ph d) 80 20 0 [] L st M) := zEv_step rfl
theorem e165_20 (ph : Bool) (d : Nat) (L st : List zV) (M : zM) : zEv ph d 165 20 L st M = zcont ph d 165 (zstep ph (zEm ph d) 4 21 0 [0] L st M) := zEv_step rfl
theorem e165_21 (ph : Bool) (d : Nat) (L st : List zV) (M : zM) : zEv ph d 165 21 L st M = zcont ph d 165 (zstep ph (zEm ph d) 2 22 0 [1] L st M) := zEv_step rfl
theorem e165_22 (ph : Bool) (d : Nat) (L st : List zV) (M : zM) : zEv ph d 165 22 L st M = zcont ph d 165 (zstep ph (zEm ph d) 70 25 164 [2, 0, 30] L st M) := zEv_step rfl
theorem e165_25 (ph : Bool) (d : Nat) (L st : List zV) (M : zM) : zEv ph d 165 25 L st M = zcont ph d 165 (zstep ph (zEm ph d) 4 26 0 [0] L st M) := zEv_step rfl
theorem e165_26 (ph : Bool) (d : Nat) (L st : List zV) (M : zM) : zEv ph d 165 26 L st M = zcont ph d 165 (zstep ph (zEm ph d) 2 27 0 [2] L st M) := zEv_step rfl
theorem e165_27 (ph : Bool) (d : Nat) (L st : List zV) (M : zM) : zEv ph d 165 27 L st M = zcont ph d 165 (zstep ph (zEm ph d) 70 30 164 [2, 0, 30] L st M) := zEv_step rfl
theorem e165_30 (ph : Bool) (d : Nat) (L st : List zV) (M : zM) : zEv ph d 165 30 L st M = zcont ph d 165 (zstep ph (zEm ph d) 4 31 0 [0] L st M) := zEv_step rfl
theorem e165_31 (ph : Bool) (d : Nat) (L st : List zV) (M : zM) : zEv ph d 165 31 L st M = zcont ph d 165 (zstep ph (zEm ph d) 2 32 0 [3] L st M) := zEv_step rfl
theorem e165_32 (ph : Bool) (d : Nat) (L st : List zV) (M : zM) : zEv ph d 165 32 L st M = zcont ph d 165 (zstep ph (zEm ph d) 70 35 164 [2, 0, 30] L st M) := zEv_step rfl
theorem e165_35 (ph : Bool) (d : Nat) (L st : List zV) (M : zM) : zEv ph d 165 35 L st M = zcont ph d 165 (zstep ph (zEm ph d) 4 36 0 [0] L st M) := zEv_step rfl
theorem e165_36 (ph : Bool) (d : Nat) (L st : List zV) (M : zM) : zEv ph d 165 36 L st M = zcont ph d 165 (zstep ph (zEm ph d) 2 38 0 [4] L st M) := zEv_step rfl
theorem e165_38 (ph : Bool) (d : Nat) (L st : List zV) (M : zM) : zEv ph d 165 38 L st M = zcont ph d 165 (zstep ph (zEm ph d) 70 41 164 [2, 0, 30] L st M) := zEv_step rfl
theorem e165_41 (ph : Bool) (d : Nat) (L st : List zV) (M : zM) : zEv ph d 165 41 L st M = zcont ph d 165 (zstep ph (zEm ph d) 4 42 0 [0] L st M) := zEv_step rfl
theorem e165_42 (ph : Bool) (d : Nat) (L st : List zV) (M : zM) : zEv ph d 165 42 L st M = zcont ph d 165 (zstep ph (zEm ph d) 2 44 0 [5] L st M) := zEv_step rfl
theorem e165_44 (ph : Bool) (d : Nat) (L st : List zV) (M : zM) : zEv ph d 165 44 L st M = zcont ph d 165 (zstep ph (zEm ph d) 70 47 164 [2, 0, 30] L st M) := zEv_step rfl
theorem e165_47 (ph : Bool) (d : Nat) (L st : List zV) (M : zM) : zEv ph d 165 47 L st M = zcont ph d 165 (zstep ph (zEm ph d) 4 48 0 [0] L st M) := zEv_step rfl
theorem e165_48 (ph : Bool) (d : Nat) (L st : List zV) (M : zM) : zEv ph d 165 48 L st M = zcont ph d 165 (zstep ph (zEm ph d) 60 51 0 [30, 2] L st M) := zEv_step rfl
theorem e165_51 (ph : Bool) (d : Nat) (L st : List zV) (M : zM) : zEv ph d 165 51 L st M = zcont ph d 165 (zstep ph (zEm ph d) 80 52 0 [] L st M) := zEv_step rfl
theorem m2 (ph : Bool) (d : Nat) (a x0 p0 y0 : Int) (M : zM) : zEm ph (d + 1) 2 [(29, a, x0), (0, p0, y0)] M = zEv ph d 2 0 [(29, a, x0), (0, p0, y0)] [] M := rfl
theorem e2_0 (ph : Bool) (d : Nat) (L st : List zV) (M : zM) : zEv ph d 2 0 L st M = zcont ph d 2 (zstep ph (zEm ph d) 2 1 0 [1] L st M) := zEv_step rfl
theorem e2_1 (ph : Bool) (d : Nat) (L st : List zV) (M : zM) : zEv ph d 2 1 L st M = zcont ph d 2 (zstep ph (zEm ph d) 42 4 15 [] L st M) := zEv_step rfl
theorem e2_4 (ph : Bool) (d : Nat) (L st : List zV) (M : zM) : zEv ph d 2 4 L st M = zcont ph d 2 (zstep ph (zEm ph d) 2 5 0 [1] L st M) := zEv_step rfl
theorem e2_5 (ph : Bool) (d : Nat) (L st : List zV) (M : zM) : zEv ph d 2 5 L st M = zcont ph d 2 (zstep ph (zEm ph d) 4 6 0 [0] L st M) := zEv_step rfl
theorem e2_6 (ph : Bool) (d : Nat) (L st : List zV) (M : zM) : zEv ph d 2 6 L st M = zcont ph d 2 (zstep ph (zEm ph d) 62 9 0 [29, 1, 2, 27, 0] L st M) := zEv_step rfl
theorem e2_9 (ph : Bool) (d : Nat) (L st : List zV) (M : zM) : zEv ph d 2 9 L st M = zcont ph d 2 (zstep ph (zEm ph d) 60 12 0 [27, 1] L st M) := zEv_step rfl
theorem e2_12 (ph : Bool) (d : Nat) (L st : List zV) (M : zM) : zEv ph d 2 12 L st M = zcont ph d 2 (zstep ph (zEm ph d) 51 15 17 [] L st M) := zEv_step rfl
theorem e2_15 (ph : Bool) (d : Nat) (L st : List zV) (M : zM) : zEv ph d 2 15 L st M = zcont ph d 2 (zstep ph (zEm ph d) 0 16 0 [0] L st M) := zEv_step rfl
theorem e2_16 (ph : Bool) (d : Nat) (L st : List zV) (M : zM) : zEv ph d 2 16 L st M = zcont ph d 2 (zstep ph (zEm ph d) 80 17 0 [0, 1] L st M) := zEv_step rfl
theorem e2_17 (ph : Bool) (d : Nat) (L st : List zV) (M : zM) : zEv ph d 2 17 L st M = zcont ph d 2 (zstep ph (zEm ph d) 4 18 0 [0] L st M) := zEv_step rfl
theorem e2_18 (ph : Bool) (d : Nat) (L st : List zV) (M : zM) : zEv ph d 2 18 L st M = zcont ph d 2 (zstep ph (zEm ph d) 62 21 0 [29, 1, 2, 27, 0] L st M) := zEv_step rfl
theorem e2_21 (ph : Bool) (d : Nat) (L st : List zV) (M : zM) : zEv ph d 2 21 L st M = zcont ph d 2 (zstep ph (zEm ph d) 2 22 0 [1] L st M) := zEv_step rfl
theorem e2_22 (ph : Bool) (d : Nat) (L st : List zV) (M : zM) : zEv ph d 2 22 L st M = zcont ph d 2 (zstep ph (zEm ph d) 65 25 0 [27, 1] L st M) := zEv_step rfl
theorem e2_25 (ph : Bool) (d : Nat) (L st : List zV) (M : zM) : zEv ph d 2 25 L st M = zcont ph d 2 (zstep ph (zEm ph d) 0 26 0 [1] L st M) := zEv_step rfl
theorem e2_26 (ph : Bool) (d : Nat) (L st : List zV) (M : zM) : zEv ph d 2 26 L st M = zcont ph d 2 (zstep ph (zEm ph d) 80 27 0 [0, 1] L st M) := zEv_step rfl
theorem m166 (ph : Bool) (d : Nat) (a x0 p0 y0 : Int) (M : zM) : zEm ph (d + 1) 166 [(30, a, x0), (0, p0, y0)] M = zEv ph d 166 0 [(30, a, x0), (0, p0, y0)] [] M := rfl
theorem e166_0 (ph : Bool) (d : Nat) (L st : List zV) (M : zM) : zEv ph d 166 0 L st M = zcont ph d 166 (zstep ph (zEm ph d) 4 1 0 [0] L st M) := zEv_step rfl
theorem e166_1 (ph : Bool) (d : Nat) (L st : List zV) (M : zM) : zEv ph d 166 1 L st M = zcont ph d 166 (zstep ph (zEm ph d) 0 2 0 [0] L st M) := zEv_step rfl
theorem e166_2 (ph : Bool) (d : Nat) (L st : List zV) (M : zM) : zEv ph d 166 2 L st M = zcont ph d 166 (zstep ph (zEm ph d) 65 5 0 [30, 0] L st M) := zEv_step rfl
theorem e166_5 (ph : Bool) (d : Nat) (L st : List zV) (M : zM) : zEv ph d 166 5 L st M = zcont ph d 166 (zstep ph (zEm ph d) 2 6 0 [1] L st M) := zEv_step rfl
theorem e166_6 (ph : Bool) (d : Nat) (L st : List zV) (M : zM) : zEv ph d 166 6 L st M = zcont ph d 166 (zstep ph (zEm ph d) 42 9 17 [] L st M) := zEv_step rfl
theorem e166_9 (ph : Bool) (d : Nat) (L st : List zV) (M : zM) : zEv ph d 166 9 L st M = zcont ph d 166 (zstep ph (zEm ph d) 2 10 0 [1] L st M) := zEv_step rfl
theorem e166_10 (ph : Bool) (d : Nat) (L st : List zV) (M : zM) : zEv ph d 166 10 L st M = zcont ph d 166 (zstep ph (zEm ph d) 4 11 0 [0] L st M) := zEv_step rfl
theorem e166_11 (ph : Bool) (d : Nat) (L st : List zV) (M : zM) : zEv ph d 166 11 L st M = zcont ph d 166 (zstep ph (zEm ph d) 60 14 0 [30, 2] L st M) := zEv_step rfl
theorem e166_14 (ph : Bool) (d : Nat) (L st : List zV) (M : zM) : zEv ph d 166 14 L st M = zcont ph d 166 (zstep ph (zEm ph d) 51 17 19 [] L st M) := zEv_step rfl
theorem e166_17 (ph : Bool) (d : Nat) (L st : List zV) (M : zM) : zEv ph d 166 17 L st M = zcont ph d 166 (zstep ph (zEm ph d) 0 18 0 [0] L st M) := zEv_step rfl
theorem e166_18 (ph : Bool) (d : Nat) (L st : List zV) (M : zM) : zEv ph d 166 18 L st M = zcont ph d 166 (zstep ph (zEm ph d) 80 19 0 [0, 1] L st M) := zEv_step rfl
theorem e166_19 (ph : Bool) (d : Nat) (L st : List zV) (M : zM) : zEv ph d 166 19 L st M = zcont ph d 166 (zstep ph (zEm ph d) 4 20 0 [0] L st M) := zEv_step rfl
theorem e166_20 (ph : Bool) (d : Nat) (L st : List zV) (M : zM) : zEv ph d 166 20 L st M = zcont ph d 166 (zstep ph (zEm ph d) 2 21 0 [1] L st M) := zEv_step rfl
theorem e166_21 (ph : Bool) (d : Nat) (L st : List zV) (M : zM) : zEv ph d 166 21 L st M = zcont ph d 166 (zstep ph (zEm ph d) 65 24 0 [30, 2] L st M) := zEv_step rfl
theorem e166_24 (ph : Bool) (d : Nat) (L st : List zV) (M : zM) : zEv ph d 166 24 L st M = zcont ph d 166 (zstep ph (zEm ph d) 0 25 0 [1] L st M) := zEv_step rfl
theorem e166_25 (ph : Bool) (d : Nat) (L st : List zV) (M : zM) : zEv ph d 166 25 L st M = zcont ph d 166 (zstep ph (zEm ph d) 80 26 0 [0, 1] L st M) := zEv_step rfl
theorem s_append (d : Nat) (x1 w y s : Int) (M : zM) (hs : M 2 1 = s) (s0 : 0 ≤ s) (s1 : s ≤ 936) : ∃ M', zEm true (d + 1) 135 [(27, 2, x1), (0, w, y)] M = some ((98, 0, 0), M') ∧ M' 2 1 = s + 4 ∧ (∀ i, M' 3 i = put4 (fun j => M 3 j) s w i) ∧ ∀ x y, x ≠ 3 → ¬ (x = 2 ∧ y = 1) → M' x y = M x y := by
  have a1 : s + 1 + 1 = s + 2 := by omega
  have a2 : s + 2 + 1 = s + 3 := by omega
  have a3 : s + 3 + 1 = s + 4 := by omega
  refine ⟨zup (zup (zup (zup (zup (zup (zup (zup M 3 s (zand (zush w 24) 255)) 2 1 (s + 1)) 3 (s + 1) (zand (zush w 16) 255)) 2 1 (s + 2)) 3 (s + 2) (zand (zush w 8) 255)) 2 1 (s + 3)) 3 (s + 3) (zand (zush w 0) 255)) 2 1 (s + 4), ?_, zup_e (by omega), fun i => ?_, fun x y h1 h2 => ?_⟩
  · simp (disch := first | assumption | exact zrm0 | exact zrm1 _ | exact zrm2 _ _ | exact zrm3 _ _ _ | exact zrm4 _ _ _ _ | omega) only [m135, ↓k_dp, ↓k_dn, k_dp, k_dn, k_dT, k_dF, k_ip, k_in, if_true, if_false, ne_eq, not_true_eq_false, not_false_eq_true, Int.reduceAdd, zup_a, zup_e, zup_j, z32_id, k_ic, k_is2, k_il2, k_iflt, k_al0, k_gI, k_gR, k_len, k_icge, k_il1, k_iushr, k_iand, k_ist, k_dup, k_iadd, k_pI, k_inc2, k_goto, k_rv, e135_0, e135_2, e135_3, e135_4, e135_7, e135_8, e135_11, e135_12, e135_15, e135_16, e135_19, e135_20, e135_23, e135_24, e135_27, e135_28, e135_29, e135_30, e135_33, e135_34, e135_35, e135_36, e135_37, e135_40, e135_41, e135_42, e135_45, e135_48, e135_51, hs, a1, a2, a3, Int.reduceNeg, Int.reduceSub]
  · unfold put4 zup
    by_cases c0 : i = s
    · subst c0; simp; (repeat' split) <;> first | rfl | omega
    by_cases c1 : i = s + 1
    · subst c1; simp; (repeat' split) <;> first | rfl | omega
    by_cases c2 : i = s + 2
    · subst c2; simp; (repeat' split) <;> first | rfl | omega
    by_cases c3 : i = s + 3
    · subst c3; simp; intro h; omega
    simp [c0, c1, c2, c3]
  · have hz : ∀ (N : zM) v, zup N 2 1 v x y = N x y := fun N v => by unfold zup; rw [if_neg (fun z => h2 ⟨z.1, z.2.1⟩)]
    have hz3 : ∀ (N : zM) j v, zup N 3 j v x y = N x y := fun N j v => zup_a h1
    rw [hz, hz3, hz, hz3, hz, hz3, hz, hz3]
theorem r_come (d : Nat) (z0 w y s : Int) (M : zM) (hs : M 197 2 = s) (s0 : 0 ≤ s) (s1 : s ≤ 936) : ∃ M', zEm true (d + 1) 164 [(30, 197, z0), (0, w, y)] M = some ((98, 0, 0), M') ∧ M' 197 2 = s + 4 ∧ (∀ i, M' 198 i = put4 (fun j => M 198 j) s w i) ∧ ∀ x y, x ≠ 198 → ¬ (x = 197 ∧ y = 2) → M' x y = M x y := by
  have a1 : s + 1 + 1 = s + 2 := by omega
  have a2 : s + 2 + 1 = s + 3 := by omega
  have a3 : s + 3 + 1 = s + 4 := by omega
  refine ⟨zup (zup (zup (zup (zup (zup (zup (zup M 198 s (zand (zush w 24) 255)) 197 2 (s + 1)) 198 (s + 1) (zand (zush w 16) 255)) 197 2 (s + 2)) 198 (s + 2) (zand (zush w 8) 255)) 197 2 (s + 3)) 198 (s + 3) (zand (zush w 0) 255)) 197 2 (s + 4), ?_, zup_e (by omega), fun i => ?_, fun x y h1 h2 => ?_⟩
  · simp (disch := first | assumption | exact zrm0 | exact zrm1 _ | exact zrm2 _ _ | exact zrm3 _ _ _ | exact zrm4 _ _ _ _ | omega) only [m164, ↓k_dp, ↓k_dn, k_dp, k_dn, k_dT, k_dF, k_ip, k_in, if_true, if_false, ne_eq, not_true_eq_false, not_false_eq_true, Int.reduceAdd, zup_a, zup_e, zup_j, z32_id, k_ic, k_is2, k_il2, k_iflt, k_al0, k_gR, k_gI, k_il1, k_iushr, k_iand, k_ist, k_dup, k_iadd, k_pI, k_inc2, k_goto, k_rv, e164_0, e164_2, e164_3, e164_4, e164_7, e164_8, e164_11, e164_12, e164_15, e164_16, e164_17, e164_18, e164_21, e164_22, e164_23, e164_24, e164_25, e164_28, e164_29, e164_30, e164_33, e164_36, e164_39, hs, a1, a2, a3, Int.reduceNeg, Int.reduceSub]
  · unfold put4 zup
    by_cases c0 : i = s
    · subst c0; simp; (repeat' split) <;> first | rfl | omega
    by_cases c1 : i = s + 1
    · subst c1; simp; (repeat' split) <;> first | rfl | omega
    by_cases c2 : i = s + 2
    · subst c2; simp; (repeat' split) <;> first | rfl | omega
    by_cases c3 : i = s + 3
    · subst c3; simp; intro h; omega
    simp [c0, c1, c2, c3]
  · have hz : ∀ (N : zM) v, zup N 197 2 v x y = N x y := fun N v => by unfold zup; rw [if_neg (fun z => h2 ⟨z.1, z.2.1⟩)]
    have hz3 : ∀ (N : zM) j v, zup N 198 j v x y = N x y := fun N j v => zup_a h1
    rw [hz, hz3, hz, hz3, hz, hz3, hz, hz3]
def zFT (x y : Int) : Prop := (x = 2 ∧ y = 1) ∨ x = 3 ∨ x = 198 ∨ (x = 197 ∧ (y = 0 ∨ y = 2))
def zPairT0 (M : zM) (cc : zO) (rc : zM → zO) : Prop := ∃ v M1 M2, cc = some ((0, v, 0), M1) ∧ rc M1 = some ((0, v, 0), M2) ∧ relA M2 ∧ ∀ x y, ¬ zFT x y → M2 x y = M x y
theorem pair_end (d : Nat) (x0 z0 n y1 z1 : Int) (M : zM) (hA : relA M) : zPairT0 M (zEm true (d + 8) 2 [(29, 0, x0), (0, n, y1)] M) (fun M1 => zEm true (d + 8) 166 [(30, 197, z0), (0, n, z1)] M1) := by
  obtain ⟨⟨a1, a2⟩, a3, a4⟩ := hA
  by_cases c : 0 ≤ n ∧ n ≤ M 2 1
  · refine ⟨1, zup M 2 1 n, zup (zup (zup M 2 1 n) 197 0 0) 197 2 n, by simp (disch := first | assumption | exact zrm0 | exact zrm1 _ | exact zrm2 _ _ | exact zrm3 _ _ _ | exact zrm4 _ _ _ _ | omega) only [m2, ↓k_dp, ↓k_dn, k_dp, k_dn, k_dT, k_dF, k_ip, k_in, if_true, if_false, ne_eq, not_true_eq_false, not_false_eq_true, Int.reduceAdd, zup_a, zup_e, zup_j, z32_id, k_il1, k_iflt, k_al0, k_gR, k_gI, k_icle, k_ic, k_rz, k_pI, e2_0, e2_1, e2_4, e2_5, e2_6, e2_9, e2_12, e2_15, e2_16, e2_17, e2_18, e2_21, e2_22, e2_25, e2_26], by simp (disch := first | assumption | exact zrm0 | exact zrm1 _ | exact zrm2 _ _ | exact zrm3 _ _ _ | exact zrm4 _ _ _ _ | omega) only [m166, ↓k_dp, ↓k_dn, k_dp, k_dn, k_dT, k_dF, k_ip, k_in, if_true, if_false, ne_eq, not_true_eq_false, not_false_eq_true, Int.reduceAdd, zup_a, zup_e, zup_j, z32_id, k_al0, k_ic, k_pI, k_il1, k_iflt, k_gI, k_icle, k_rz, e166_0, e166_1, e166_2, e166_5, e166_6, e166_9, e166_10, e166_11, e166_14, e166_17, e166_18, e166_19, e166_20, e166_21, e166_24, e166_25, a3], ⟨?_, ?_, fun i i0 i1 => ?_⟩, fun x y h => ?_⟩
    · rw [zup_a (by omega), zup_a (by omega), zup_e (by omega)]; omega
    · rw [zup_e (by omega), zup_a (by omega), zup_a (by omega), zup_e (by omega)]
    · rw [zup_a (by omega), zup_a (by omega), zup_a (by omega), zup_a (by omega), zup_a (by omega), zup_a (by omega)]
      exact a4 i i0 i1
    · unfold zFT at h
      unfold zup
      rw [if_neg (by omega), if_neg (by omega), if_neg (by omega)]
  · refine ⟨0, M, zup M 197 0 0, ?_, ?_, ⟨?_, ?_, fun i i0 i1 => ?_⟩, fun x y h => ?_⟩
    · simp (disch := first | assumption | exact zrm0 | exact zrm1 _ | exact zrm2 _ _ | exact zrm3 _ _ _ | exact zrm4 _ _ _ _ | omega) only [m2, ↓k_dp, ↓k_dn, k_dp, k_dn, k_dT, k_dF, k_ip, k_in, if_true, if_false, ne_eq, not_true_eq_false, not_false_eq_true, Int.reduceAdd, zup_a, zup_e, zup_j, z32_id, k_il1, k_iflt, k_al0, k_gR, k_gI, k_icle, k_ic, k_rz, k_pI, e2_0, e2_1, e2_4, e2_5, e2_6, e2_9, e2_12, e2_15, e2_16, e2_17, e2_18, e2_21, e2_22, e2_25, e2_26]
      all_goals (split <;> rfl)
    · simp (disch := first | assumption | exact zrm0 | exact zrm1 _ | exact zrm2 _ _ | exact zrm3 _ _ _ | exact zrm4 _ _ _ _ | omega) only [m166, ↓k_dp, ↓k_dn, k_dp, k_dn, k_dT, k_dF, k_ip, k_in, if_true, if_false, ne_eq, not_true_eq_false, not_false_eq_true, Int.reduceAdd, zup_a, zup_e, zup_j, z32_id, k_al0, k_ic, k_pI, k_il1, k_iflt, k_gI, k_icle, k_rz, e166_0, e166_1, e166_2, e166_5, e166_6, e166_9, e166_10, e166_11, e166_14, e166_17, e166_18, e166_19, e166_20, e166_21, e166_24, e166_25, a3]
      all_goals (split <;> rfl)
    · rw [zup_a (by omega)]; exact ⟨a1, a2⟩
    · rw [zup_j (by omega), zup_a (by omega)]; exact a3
    · rw [zup_a (by omega), zup_a (by omega)]
      exact a4 i i0 i1
    · unfold zFT at h
      unfold zup
      rw [if_neg (by omega)]
theorem pair_feed (d : Nat) (x0 z0 a y1 z1 b y2 z2 c y3 z3 e y4 z4 f y5 z5 : Int) (M : zM) (hA : relA M) : zPairT0 M (zEm true (d + 8) 1 [(29, 0, x0), (0, a, y1), (0, b, y2), (0, c, y3), (0, e, y4), (0, f, y5)] M) (fun M1 => zEm true (d + 8) 165 [(30, 197, z0), (0, a, z1), (0, b, z2), (0, c, z3), (0, e, z4), (0, f, z5)] M1) := by
  obtain ⟨⟨a1, a2⟩, a3, a4⟩ := hA
  obtain ⟨s, hs⟩ : ∃ s, s = M 2 1 := ⟨_, rfl⟩
  by_cases cs : s ≤ 920
  · obtain ⟨A1, p1, q1, r1, t1⟩ := s_append (d + 6) 0 a 0 s M hs.symm (by omega) (by omega)
    obtain ⟨A2, p2, q2, r2, t2⟩ := s_append (d + 6) 0 b 0 (s + 4) A1 q1 (by omega) (by omega)
    obtain ⟨A3, p3, q3, r3, t3⟩ := s_append (d + 6) 0 c 0 (s + 4 + 4) A2 q2 (by omega) (by omega)
    obtain ⟨A4, p4, q4, r4, t4⟩ := s_append (d + 6) 0 e 0 (s + 4 + 4 + 4) A3 q3 (by omega) (by omega)
    obtain ⟨A5, p5, q5, r5, t5⟩ := s_append (d + 6) 0 f 0 (s + 4 + 4 + 4 + 4) A4 q4 (by omega) (by omega)
    have e2 : A5 197 2 = s := by rw [t5 _ _ (by omega) (by omega), t4 _ _ (by omega) (by omega), t3 _ _ (by omega) (by omega), t2 _ _ (by omega) (by omega), t1 _ _ (by omega) (by omega), a3, hs]
    have e198 : ∀ i, A5 198 i = M 198 i := fun i => by rw [t5 _ _ (by omega) (by omega), t4 _ _ (by omega) (by omega), t3 _ _ (by omega) (by omega), t2 _ _ (by omega) (by omega), t1 _ _ (by omega) (by omega)]
    obtain ⟨B1, P1, Q1, R1, T1⟩ := r_come (d + 6) z0 a 0 s (zup A5 197 0 0) (by rw [zup_j (by omega)]; exact e2) (by omega) (by omega)
    obtain ⟨B2, P2, Q2, R2, T2⟩ := r_come (d + 6) z0 b 0 (s + 4) B1 Q1 (by omega) (by omega)
    obtain ⟨B3, P3, Q3, R3, T3⟩ := r_come (d + 6) z0 c 0 (s + 4 + 4) B2 Q2 (by omega) (by omega)
    obtain ⟨B4, P4, Q4, R4, T4⟩ := r_come (d + 6) z0 e 0 (s + 4 + 4 + 4) B3 Q3 (by omega) (by omega)
    obtain ⟨B5, P5, Q5, R5, T5⟩ := r_come (d + 6) z0 f 0 (s + 4 + 4 + 4 + 4) B4 Q4 (by omega) (by omega)
    have hsz : M 2 1 = s := hs.symm
    refine ⟨s + 4 + 4 + 4 + 4 + 4, A5, B5, by simp (disch := first | assumption | exact zrm0 | exact zrm1 _ | exact zrm2 _ _ | exact zrm3 _ _ _ | exact zrm4 _ _ _ _ | omega) only [m1, ↓k_dp, ↓k_dn, k_dp, k_dn, k_dT, k_dF, k_ip, k_in, if_true, if_false, ne_eq, not_true_eq_false, not_false_eq_true, Int.reduceAdd, zup_a, zup_e, zup_j, z32_id, k_al0, k_gR, k_gI, k_ic, k_iadd, k_icle, k_ri, k_il1, k_v2, k_il2, k_il3, k_il4, k_il5, zb0_some, zb1_some, e1_0, e1_1, e1_4, e1_7, e1_9, e1_10, e1_13, e1_16, e1_17, e1_18, e1_19, e1_22, e1_23, e1_26, e1_27, e1_30, e1_31, e1_34, e1_35, e1_38, e1_39, e1_42, e1_43, e1_46, e1_48, e1_51, e1_52, e1_55, e1_57, e1_60, e1_61, e1_64, e1_67, hsz, p1, p2, p3, p4, p5, q5], by simp (disch := first | assumption | exact zrm0 | exact zrm1 _ | exact zrm2 _ _ | exact zrm3 _ _ _ | exact zrm4 _ _ _ _ | omega) only [m165, ↓k_dp, ↓k_dn, k_dp, k_dn, k_dT, k_dF, k_ip, k_in, if_true, if_false, ne_eq, not_true_eq_false, not_false_eq_true, Int.reduceAdd, zup_a, zup_e, zup_j, z32_id, k_al0, k_ic, k_pI, k_gI, k_iadd, k_icle, k_ri, k_il1, k_v2, k_il2, k_il3, k_il4, k_il5, zb0_some, zb1_some, e165_0, e165_1, e165_2, e165_5, e165_6, e165_9, e165_11, e165_12, e165_15, e165_18, e165_19, e165_20, e165_21, e165_22, e165_25, e165_26, e165_27, e165_30, e165_31, e165_32, e165_35, e165_36, e165_38, e165_41, e165_42, e165_44, e165_47, e165_48, e165_51, e2, P1, P2, P3, P4, P5, Q5], ?_, fun x y h => ?_⟩
    · have f21 : ∀ x y, x ≠ 198 → ¬ (x = 197 ∧ (y = 0 ∨ y = 2)) → B5 x y = A5 x y := fun x y h1 h2 => by
        rw [T5 x y h1 (by omega), T4 x y h1 (by omega), T3 x y h1 (by omega), T2 x y h1 (by omega), T1 x y h1 (by omega)]
        unfold zup
        rw [if_neg (by omega)]
      have key : ∀ i, 0 ≤ i → i < 940 → B5 198 i = A5 3 i ∧ 0 ≤ A5 3 i ∧ A5 3 i ≤ 255 := by
        intro i i0 i1
        have h198 : (zup A5 197 0 0) 198 i = M 3 i ∧ 0 ≤ M 3 i ∧ M 3 i ≤ 255 := by
          rw [zup_a (by omega), e198]
          exact a4 i i0 i1
        have step : ∀ (u v : Int) (s' w : Int), u = v → 0 ≤ v → v ≤ 255 → ∀ (f g : Int → Int), f i = u → g i = v → put4 f s' w i = put4 g s' w i ∧ 0 ≤ put4 g s' w i ∧ put4 g s' w i ≤ 255 := by
          intro u v s' w h1 h2 h3 f g h4 h5
          have b0 := zand_255 (zush w 24)
          have b1 := zand_255 (zush w 16)
          have b2 := zand_255 (zush w 8)
          have b3 := zand_255 (zush w 0)
          unfold put4
          rw [h4, h5, h1]
          refine ⟨rfl, ?_⟩
          (repeat' split) <;> omega
        obtain ⟨k1, k2, k3⟩ := step _ _ s a h198.1 h198.2.1 h198.2.2 (fun j => (zup A5 197 0 0) 198 j) (fun j => M 3 j) rfl rfl
        rw [← R1 i, ← r1 i] at k1
        rw [← r1 i] at k2 k3
        obtain ⟨k1, k2, k3⟩ := step _ _ (s + 4) b k1 k2 k3 (fun j => B1 198 j) (fun j => A1 3 j) rfl rfl
        rw [← R2 i, ← r2 i] at k1
        rw [← r2 i] at k2 k3
        obtain ⟨k1, k2, k3⟩ := step _ _ (s + 4 + 4) c k1 k2 k3 (fun j => B2 198 j) (fun j => A2 3 j) rfl rfl
        rw [← R3 i, ← r3 i] at k1
        rw [← r3 i] at k2 k3
        obtain ⟨k1, k2, k3⟩ := step _ _ (s + 4 + 4 + 4) e k1 k2 k3 (fun j => B3 198 j) (fun j => A3 3 j) rfl rfl
        rw [← R4 i, ← r4 i] at k1
        rw [← r4 i] at k2 k3
        obtain ⟨k1, k2, k3⟩ := step _ _ (s + 4 + 4 + 4 + 4) f k1 k2 k3 (fun j => B4 198 j) (fun j => A4 3 j) rfl rfl
        rw [← R5 i, ← r5 i] at k1
        rw [← r5 i] at k2 k3
        exact ⟨k1, k2, k3⟩
      refine ⟨?_, ?_, fun i i0 i1 => ?_⟩
      · rw [f21 _ _ (by omega) (by omega), q5]; omega
      · rw [f21 2 1 (by omega) (by omega), q5, Q5]
      · rw [f21 3 i (by omega) (by omega)]
        exact key i i0 i1
    · unfold zFT at h
      rw [T5 x y (by omega) (by omega), T4 x y (by omega) (by omega), T3 x y (by omega) (by omega), T2 x y (by omega) (by omega), T1 x y (by omega) (by omega)]
      have : zup A5 197 0 0 x y = A5 x y := by unfold zup; rw [if_neg (by omega)]
      rw [this, t5 x y (by omega) (by omega), t4 x y (by omega) (by omega), t3 x y (by omega) (by omega), t2 x y (by omega) (by omega), t1 x y (by omega) (by omega)]
  · have hsz : M 2 1 = s := hs.symm
    rw [hsz] at a3
    refine ⟨-1, M, zup M 197 0 0, by simp (disch := first | assumption | exact zrm0 | exact zrm1 _ | exact zrm2 _ _ | exact zrm3 _ _ _ | exact zrm4 _ _ _ _ | omega) only [m1, ↓k_dp, ↓k_dn, k_dp, k_dn, k_dT, k_dF, k_ip, k_in, if_true, if_false, ne_eq, not_true_eq_false, not_false_eq_true, Int.reduceAdd, zup_a, zup_e, zup_j, z32_id, k_al0, k_gR, k_gI, k_ic, k_iadd, k_icle, k_ri, k_il1, k_v2, k_il2, k_il3, k_il4, k_il5, zb0_some, zb1_some, e1_0, e1_1, e1_4, e1_7, e1_9, e1_10, e1_13, e1_16, e1_17, e1_18, e1_19, e1_22, e1_23, e1_26, e1_27, e1_30, e1_31, e1_34, e1_35, e1_38, e1_39, e1_42, e1_43, e1_46, e1_48, e1_51, e1_52, e1_55, e1_57, e1_60, e1_61, e1_64, e1_67, hsz], by simp (disch := first | assumption | exact zrm0 | exact zrm1 _ | exact zrm2 _ _ | exact zrm3 _ _ _ | exact zrm4 _ _ _ _ | omega) only [m165, ↓k_dp, ↓k_dn, k_dp, k_dn, k_dT, k_dF, k_ip, k_in, if_true, if_false, ne_eq, not_true_eq_false, not_false_eq_true, Int.reduceAdd, zup_a, zup_e, zup_j, z32_id, k_al0, k_ic, k_pI, k_gI, k_iadd, k_icle, k_ri, k_il1, k_v2, k_il2, k_il3, k_il4, k_il5, zb0_some, zb1_some, e165_0, e165_1, e165_2, e165_5, e165_6, e165_9, e165_11, e165_12, e165_15, e165_18, e165_19, e165_20, e165_21, e165_22, e165_25, e165_26, e165_27, e165_30, e165_31, e165_32, e165_35, e165_36, e165_38, e165_41, e165_42, e165_44, e165_47, e165_48, e165_51, a3], ⟨?_, ?_, fun i i0 i1 => ?_⟩, fun x y h => ?_⟩
    · rw [zup_a (by omega)]; exact ⟨a1, a2⟩
    · rw [zup_j (by omega), zup_a (by omega), hsz]; exact a3
    · rw [zup_a (by omega), zup_a (by omega)]
      exact a4 i i0 i1
    · unfold zFT at h
      unfold zup
      rw [if_neg (by omega)]
