/-! the class copies a valley and a sentence -/
def cpV (M : zM) (a b : Int) : zM := zup (zup (zup (zup (zup (zup (zcpy (zcpy (zcpy (zcpy (zcpy (zcpy M (b + 1) 0 (a + 1) 0 5) (b + 2) 0 (a + 2) 0 10) (b + 3) 0 (a + 3) 0 5) (b + 4) 0 (a + 4) 0 10) (b + 5) 0 (a + 5) 0 25) (b + 6) 0 (a + 6) 0 2) a 6 (M b 6)) a 7 (M b 7)) a 8 (M b 8)) a 9 (M b 9)) a 10 (M b 10)) a 11 (M b 11)
def cpN (M : zM) (a b : Int) : zM := zup (zup (zcpy (zcpy (zcpy M (b + 1) 0 (a + 1) 0 40) (b + 2) 0 (a + 2) 0 40) (b + 3) 0 (a + 3) 0 40) a 4 (M b 4)) a 5 (M b 5)
theorem m153 (ph : Bool) (d : Nat) (a x0 p0 y0 : Int) (M : zM) : zEm ph (d + 1) 153 [(28, a, x0), (28, p0, y0)] M = zEv ph d 153 0 [(28, a, x0), (28, p0, y0)] [] M := rfl
theorem e153_0 (ph : Bool) (d : Nat) (L st : List zV) (M : zM) : zEv ph d 153 0 L st M = zcont ph d 153 (zstep ph (zEm ph d) 4 1 0 [1] L st M) := zEv_step rfl
theorem e153_1 (ph : Bool) (d : Nat) (L st : List zV) (M : zM) : zEv ph d 153 1 L st M = zcont ph d 153 (zstep ph (zEm ph d) 62 4 0 [28, 0, 1, 11, 5] L st M) := zEv_step rfl
theorem e153_4 (ph : Bool) (d : Nat) (L st : List zV) (M : zM) : zEv ph d 153 4 L st M = zcont ph d 153 (zstep ph (zEm ph d) 0 5 0 [0] L st M) := zEv_step rfl
theorem e153_5 (ph : Bool) (d : Nat) (L st : List zV) (M : zM) : zEv ph d 153 5 L st M = zcont ph d 153 (zstep ph (zEm ph d) 4 6 0 [0] L st M) := zEv_step rfl
theorem e153_6 (ph : Bool) (d : Nat) (L st : List zV) (M : zM) : zEv ph d 153 6 L st M = zcont ph d 153 (zstep ph (zEm ph d) 62 9 0 [28, 0, 1, 11, 5] L st M) := zEv_step rfl
theorem e153_9 (ph : Bool) (d : Nat) (L st : List zV) (M : zM) : zEv ph d 153 9 L st M = zcont ph d 153 (zstep ph (zEm ph d) 0 10 0 [0] L st M) := zEv_step rfl
theorem e153_10 (ph : Bool) (d : Nat) (L st : List zV) (M : zM) : zEv ph d 153 10 L st M = zcont ph d 153 (zstep ph (zEm ph d) 0 11 0 [5] L st M) := zEv_step rfl
theorem e153_11 (ph : Bool) (d : Nat) (L st : List zV) (M : zM) : zEv ph d 153 11 L st M = zcont ph d 153 (zstep ph (zEm ph d) 74 14 0 [] L st M) := zEv_step rfl
theorem e153_14 (ph : Bool) (d : Nat) (L st : List zV) (M : zM) : zEv ph d 153 14 L st M = zcont ph d 153 (zstep ph (zEm ph d) 4 15 0 [1] L st M) := zEv_step rfl
theorem e153_15 (ph : Bool) (d : Nat) (L st : List zV) (M : zM) : zEv ph d 153 15 L st M = zcont ph d 153 (zstep ph (zEm ph d) 62 18 0 [28, 1, 2, 11, 10] L st M) := zEv_step rfl
theorem e153_18 (ph : Bool) (d : Nat) (L st : List zV) (M : zM) : zEv ph d 153 18 L st M = zcont ph d 153 (zstep ph (zEm ph d) 0 19 0 [0] L st M) := zEv_step rfl
theorem e153_19 (ph : Bool) (d : Nat) (L st : List zV) (M : zM) : zEv ph d 153 19 L st M = zcont ph d 153 (zstep ph (zEm ph d) 4 20 0 [0] L st M) := zEv_step rfl
theorem e153_20 (ph : Bool) (d : Nat) (L st : List zV) (M : zM) : zEv ph d 153 20 L st M = zcont ph d 153 (zstep ph (zEm ph d) 62 23 0 [28, 1, 2, 11, 10] L st M) := zEv_step rfl
theorem e153_23 (ph : Bool) (d : Nat) (L st : List zV) (M : zM) : zEv ph d 153 23 L st M = zcont ph d 153 (zstep ph (zEm ph d) 0 24 0 [0] L st M) := zEv_step rfl
theorem e153_24 (ph : Bool) (d : Nat) (L st : List zV) (M : zM) : zEv ph d 153 24 L st M = zcont ph d 153 (zstep ph (zEm ph d) 0 26 0 [10] L st M) := zEv_step rfl
theorem e153_26 (ph : Bool) (d : Nat) (L st : List zV) (M : zM) : zEv ph d 153 26 L st M = zcont ph d 153 (zstep ph (zEm ph d) 74 29 0 [] L st M) := zEv_step rfl
theorem e153_29 (ph : Bool) (d : Nat) (L st : List zV) (M : zM) : zEv ph d 153 29 L st M = zcont ph d 153 (zstep ph (zEm ph d) 4 30 0 [1] L st M) := zEv_step rfl
theorem e153_30 (ph : Bool) (d : Nat) (L st : List zV) (M : zM) : zEv ph d 153 30 L st M = zcont ph d 153 (zstep ph (zEm ph d) 62 33 0 [28, 2, 3, 11, 5] L st M) := zEv_step rfl
theorem e153_33 (ph : Bool) (d : Nat) (L st : List zV) (M : zM) : zEv ph d 153 33 L st M = zcont ph d 153 (zstep ph (zEm ph d) 0 34 0 [0] L st M) := zEv_step rfl
theorem e153_34 (ph : Bool) (d : Nat) (L st : List zV) (M : zM) : zEv ph d 153 34 L st M = zcont ph d 153 (zstep ph (zEm ph d) 4 35 0 [0] L st M) := zEv_step rfl
theorem e153_35 (ph : Bool) (d : Nat) (L st : List zV) (M : zM) : zEv ph d 153 35 L st M = zcont ph d 153 (zstep ph (zEm ph d) 62 38 0 [28, 2, 3, 11, 5] L st M) := zEv_step rfl
theorem e153_38 (ph : Bool) (d : Nat) (L st : List zV) (M : zM) : zEv ph d 153 38 L st M = zcont ph d 153 (zstep ph (zEm ph d) 0 39 0 [0] L st M) := zEv_step rfl
theorem e153_39 (ph : Bool) (d : Nat) (L st : List zV) (M : zM) : zEv ph d 153 39 L st M = zcont ph d 153 (zstep ph (zEm ph d) 0 40 0 [5] L st M) := zEv_step rfl
theorem e153_40 (ph : Bool) (d : Nat) (L st : List zV) (M : zM) : zEv ph d 153 40 L st M = zcont ph d 153 (zstep ph (zEm ph d) 74 43 0 [] L st M) := zEv_step rfl
theorem e153_43 (ph : Bool) (d : Nat) (L st : List zV) (M : zM) : zEv ph d 153 43 L st M = zcont ph d 153 (zstep ph (zEm ph d) 4 44 0 [1] L st M) := zEv_step rfl
theorem e153_44 (ph : Bool) (d : Nat) (L st : List zV) (M : zM) : zEv ph d 153 44 L st M = zcont ph d 153 (zstep ph (zEm ph d) 62 47 0 [28, 3, 4, 10, 10] L st M) := zEv_step rfl
theorem e153_47 (ph : Bool) (d : Nat) (L st : List zV) (M : zM) : zEv ph d 153 47 L st M = zcont ph d 153 (zstep ph (zEm ph d) 0 48 0 [0] L st M) := zEv_step rfl
theorem e153_48 (ph : Bool) (d : Nat) (L st : List zV) (M : zM) : zEv ph d 153 48 L st M = zcont ph d 153 (zstep ph (zEm ph d) 4 49 0 [0] L st M) := zEv_step rfl
theorem e153_49 (ph : Bool) (d : Nat) (L st : List zV) (M : zM) : zEv ph d 153 49 L st M = zcont ph d 153 (zstep ph (zEm ph d) 62 52 0 [28, 3, 4, 10, 10] L st M) := zEv_step rfl
theorem e153_52 (ph : Bool) (d : Nat) (L st : List zV) (M : zM) : zEv ph d 153 52 L st M = zcont ph d 153 (zstep ph (zEm ph d) 0 53 0 [0] L st M) := zEv_step rfl
theorem e153_53 (ph : Bool) (d : Nat) (L st : List zV) (M : zM) : zEv ph d 153 53 L st M = zcont ph d 153 (zstep ph (zEm ph d) 0 55 0 [10] L st M) := zEv_step rfl
theorem e153_55 (ph : Bool) (d : Nat) (L st : List zV) (M : zM) : zEv ph d 153 55 L st M = zcont ph d 153 (zstep ph (zEm ph d) 74 58 0 [] L st M) := zEv_step rfl
theorem e153_58 (ph : Bool) (d : Nat) (L st : List zV) (M : zM) : zEv ph d 153 58 L st M = zcont ph d 153 (zstep ph (zEm ph d) 4 59 0 [1] L st M) := zEv_step rfl
theorem e153_59 (ph : Bool) (d : Nat) (L st : List zV) (M : zM) : zEv ph d 153 59 L st M = zcont ph d 153 (zstep ph (zEm ph d) 62 62 0 [28, 4, 5, 10, 25] L st M) := zEv_step rfl
theorem e153_62 (ph : Bool) (d : Nat) (L st : List zV) (M : zM) : zEv ph d 153 62 L st M = zcont ph d 153 (zstep ph (zEm ph d) 0 63 0 [0] L st M) := zEv_step rfl
theorem e153_63 (ph : Bool) (d : Nat) (L st : List zV) (M : zM) : zEv ph d 153 63 L st M = zcont ph d 153 (zstep ph (zEm ph d) 4 64 0 [0] L st M) := zEv_step rfl
theorem e153_64 (ph : Bool) (d : Nat) (L st : List zV) (M : zM) : zEv ph d 153 64 L st M = zcont ph d 153 (zstep ph (zEm ph d) 62 67 0 [28, 4, 5, 10, 25] L st M) := zEv_step rfl
theorem e153_67 (ph : Bool) (d : Nat) (L st : List zV) (M : zM) : zEv ph d 153 67 L st M = zcont ph d 153 (zstep ph (zEm ph d) 0 68 0 [0] L st M) := zEv_step rfl
theorem e153_68 (ph : Bool) (d : Nat) (L st : List zV) (M : zM) : zEv ph d 153 68 L st M = zcont ph d 153 (zstep ph (zEm ph d) 0 70 0 [25] L st M) := zEv_step rfl
theorem e153_70 (ph : Bool) (d : Nat) (L st : List zV) (M : zM) : zEv ph d 153 70 L st M = zcont ph d 153 (zstep ph (zEm ph d) 74 73 0 [] L st M) := zEv_step rfl
theorem e153_73 (ph : Bool) (d : Nat) (L st : List zV) (M : zM) : zEv ph d 153 73 L st M = zcont ph d 153 (zstep ph (zEm ph d) 4 74 0 [1] L st M) := zEv_step rfl
theorem e153_74 (ph : Bool) (d : Nat) (L st : List zV) (M : zM) : zEv ph d 153 74 L st M = zcont ph d 153 (zstep ph (zEm ph d) 62 77 0 [28, 5, 6, 10, 2] L st M) := zEv_step rfl
theorem e153_77 (ph : Bool) (d : Nat) (L st : List zV) (M : zM) : zEv ph d 153 77 L st M = zcont ph d 153 (zstep ph (zEm ph d) 0 78 0 [0] L st M) := zEv_step rfl
theorem e153_78 (ph : Bool) (d : Nat) (L st : List zV) (M : zM) : zEv ph d 153 78 L st M = zcont ph d 153 (zstep ph (zEm ph d) 4 79 0 [0] L st M) := zEv_step rfl
theorem e153_79 (ph : Bool) (d : Nat) (L st : List zV) (M : zM) : zEv ph d 153 79 L st M = zcont ph d 153 (zstep ph (zEm ph d) 62 82 0 [28, 5, 6, 10, 2] L st M) := zEv_step rfl
theorem e153_82 (ph : Bool) (d : Nat) (L st : List zV) (M : zM) : zEv ph d 153 82 L st M = zcont ph d 153 (zstep ph (zEm ph d) 0 83 0 [0] L st M) := zEv_step rfl
theorem e153_83 (ph : Bool) (d : Nat) (L st : List zV) (M : zM) : zEv ph d 153 83 L st M = zcont ph d 153 (zstep ph (zEm ph d) 0 84 0 [2] L st M) := zEv_step rfl
theorem e153_84 (ph : Bool) (d : Nat) (L st : List zV) (M : zM) : zEv ph d 153 84 L st M = zcont ph d 153 (zstep ph (zEm ph d) 74 87 0 [] L st M) := zEv_step rfl
theorem e153_87 (ph : Bool) (d : Nat) (L st : List zV) (M : zM) : zEv ph d 153 87 L st M = zcont ph d 153 (zstep ph (zEm ph d) 4 88 0 [0] L st M) := zEv_step rfl
theorem e153_88 (ph : Bool) (d : Nat) (L st : List zV) (M : zM) : zEv ph d 153 88 L st M = zcont ph d 153 (zstep ph (zEm ph d) 4 89 0 [1] L st M) := zEv_step rfl
theorem e153_89 (ph : Bool) (d : Nat) (L st : List zV) (M : zM) : zEv ph d 153 89 L st M = zcont ph d 153 (zstep ph (zEm ph d) 60 92 0 [28, 6] L st M) := zEv_step rfl
theorem e153_92 (ph : Bool) (d : Nat) (L st : List zV) (M : zM) : zEv ph d 153 92 L st M = zcont ph d 153 (zstep ph (zEm ph d) 65 95 0 [28, 6] L st M) := zEv_step rfl
theorem e153_95 (ph : Bool) (d : Nat) (L st : List zV) (M : zM) : zEv ph d 153 95 L st M = zcont ph d 153 (zstep ph (zEm ph d) 4 96 0 [0] L st M) := zEv_step rfl
theorem e153_96 (ph : Bool) (d : Nat) (L st : List zV) (M : zM) : zEv ph d 153 96 L st M = zcont ph d 153 (zstep ph (zEm ph d) 4 97 0 [1] L st M) := zEv_step rfl
theorem e153_97 (ph : Bool) (d : Nat) (L st : List zV) (M : zM) : zEv ph d 153 97 L st M = zcont ph d 153 (zstep ph (zEm ph d) 60 100 0 [28, 7] L st M) := zEv_step rfl
theorem e153_100 (ph : Bool) (d : Nat) (L st : List zV) (M : zM) : zEv ph d 153 100 L st M = zcont ph d 153 (zstep ph (zEm ph d) 65 103 0 [28, 7] L st M) := zEv_step rfl
theorem e153_103 (ph : Bool) (d : Nat) (L st : List zV) (M : zM) : zEv ph d 153 103 L st M = zcont ph d 153 (zstep ph (zEm ph d) 4 104 0 [0] L st M) := zEv_step rfl
theorem e153_104 (ph : Bool) (d : Nat) (L st : List zV) (M : zM) : zEv ph d 153 104 L st M = zcont ph d 153 (zstep ph (zEm ph d) 4 105 0 [1] L st M) := zEv_step rfl
theorem e153_105 (ph : Bool) (d : Nat) (L st : List zV) (M : zM) : zEv ph d 153 105 L st M = zcont ph d 153 (zstep ph (zEm ph d) 60 108 0 [28, 8] L st M) := zEv_step rfl
theorem e153_108 (ph : Bool) (d : Nat) (L st : List zV) (M : zM) : zEv ph d 153 108 L st M = zcont ph d 153 (zstep ph (zEm ph d) 65 111 0 [28, 8] L st M) := zEv_step rfl
theorem e153_111 (ph : Bool) (d : Nat) (L st : List zV) (M : zM) : zEv ph d 153 111 L st M = zcont ph d 153 (zstep ph (zEm ph d) 4 112 0 [0] L st M) := zEv_step rfl
theorem e153_112 (ph : Bool) (d : Nat) (L st : List zV) (M : zM) : zEv ph d 153 112 L st M = zcont ph d 153 (zstep ph (zEm ph d) 4 113 0 [1] L st M) := zEv_step rfl
theorem e153_113 (ph : Bool) (d : Nat) (L st : List zV) (M : zM) : zEv ph d 153 113 L st M = zcont ph d 153 (zstep ph (zEm ph d) 60 116 0 [28, 9] L st M) := zEv_step rfl
theorem e153_116 (ph : Bool) (d : Nat) (L st : List zV) (M : zM) : zEv ph d 153 116 L st M = zcont ph d 153 (zstep ph (zEm ph d) 65 119 0 [28, 9] L st M) := zEv_step rfl
theorem e153_119 (ph : Bool) (d : Nat) (L st : List zV) (M : zM) : zEv ph d 153 119 L st M = zcont ph d 153 (zstep ph (zEm ph d) 4 120 0 [0] L st M) := zEv_step rfl
theorem e153_120 (ph : Bool) (d : Nat) (L st : List zV) (M : zM) : zEv ph d 153 120 L st M = zcont ph d 153 (zstep ph (zEm ph d) 4 121 0 [1] L st M) := zEv_step rfl
theorem e153_121 (ph : Bool) (d : Nat) (L st : List zV) (M : zM) : zEv ph d 153 121 L st M = zcont ph d 153 (zstep ph (zEm ph d) 60 124 0 [28, 10] L st M) := zEv_step rfl
theorem e153_124 (ph : Bool) (d : Nat) (L st : List zV) (M : zM) : zEv ph d 153 124 L st M = zcont ph d 153 (zstep ph (zEm ph d) 65 127 0 [28, 10] L st M) := zEv_step rfl
theorem e153_127 (ph : Bool) (d : Nat) (L st : List zV) (M : zM) : zEv ph d 153 127 L st M = zcont ph d 153 (zstep ph (zEm ph d) 4 128 0 [0] L st M) := zEv_step rfl
theorem e153_128 (ph : Bool) (d : Nat) (L st : List zV) (M : zM) : zEv ph d 153 128 L st M = zcont ph d 153 (zstep ph (zEm ph d) 4 129 0 [1] L st M) := zEv_step rfl
theorem e153_129 (ph : Bool) (d : Nat) (L st : List zV) (M : zM) : zEv ph d 153 129 L st M = zcont ph d 153 (zstep ph (zEm ph d) 60 132 0 [28, 11] L st M) := zEv_step rfl
theorem e153_132 (ph : Bool) (d : Nat) (L st : List zV) (M : zM) : zEv ph d 153 132 L st M = zcont ph d 153 (zstep ph (zEm ph d) 65 135 0 [28, 11] L st M) := zEv_step rfl
theorem e153_135 (ph : Bool) (d : Nat) (L st : List zV) (M : zM) : zEv ph d 153 135 L st M = zcont ph d 153 (zstep ph (zEm ph d) 83 136 0 [] L st M) := zEv_step rfl
theorem m105 (ph : Bool) (d : Nat) (a x0 p0 y0 : Int) (M : zM) : zEm ph (d + 1) 105 [(25, a, x0), (25, p0, y0)] M = zEv ph d 105 0 [(25, a, x0), (25, p0, y0)] [] M := rfl
theorem e105_0 (ph : Bool) (d : Nat) (L st : List zV) (M : zM) : zEv ph d 105 0 L st M = zcont ph d 105 (zstep ph (zEm ph d) 4 1 0 [1] L st M) := zEv_step rfl
theorem e105_1 (ph : Bool) (d : Nat) (L st : List zV) (M : zM) : zEv ph d 105 1 L st M = zcont ph d 105 (zstep ph (zEm ph d) 62 4 0 [25, 0, 1, 10, 40] L st M) := zEv_step rfl
theorem e105_4 (ph : Bool) (d : Nat) (L st : List zV) (M : zM) : zEv ph d 105 4 L st M = zcont ph d 105 (zstep ph (zEm ph d) 0 5 0 [0] L st M) := zEv_step rfl
theorem e105_5 (ph : Bool) (d : Nat) (L st : List zV) (M : zM) : zEv ph d 105 5 L st M = zcont ph d 105 (zstep ph (zEm ph d) 4 6 0 [0] L st M) := zEv_step rfl
theorem e105_6 (ph : Bool) (d : Nat) (L st : List zV) (M : zM) : zEv ph d 105 6 L st M = zcont ph d 105 (zstep ph (zEm ph d) 62 9 0 [25, 0, 1, 10, 40] L st M) := zEv_step rfl
theorem e105_9 (ph : Bool) (d : Nat) (L st : List zV) (M : zM) : zEv ph d 105 9 L st M = zcont ph d 105 (zstep ph (zEm ph d) 0 10 0 [0] L st M) := zEv_step rfl
theorem e105_10 (ph : Bool) (d : Nat) (L st : List zV) (M : zM) : zEv ph d 105 10 L st M = zcont ph d 105 (zstep ph (zEm ph d) 0 12 0 [40] L st M) := zEv_step rfl
theorem e105_12 (ph : Bool) (d : Nat) (L st : List zV) (M : zM) : zEv ph d 105 12 L st M = zcont ph d 105 (zstep ph (zEm ph d) 74 15 0 [] L st M) := zEv_step rfl
theorem e105_15 (ph : Bool) (d : Nat) (L st : List zV) (M : zM) : zEv ph d 105 15 L st M = zcont ph d 105 (zstep ph (zEm ph d) 4 16 0 [1] L st M) := zEv_step rfl
theorem e105_16 (ph : Bool) (d : Nat) (L st : List zV) (M : zM) : zEv ph d 105 16 L st M = zcont ph d 105 (zstep ph (zEm ph d) 62 19 0 [25, 1, 2, 10, 40] L st M) := zEv_step rfl
theorem e105_19 (ph : Bool) (d : Nat) (L st : List zV) (M : zM) : zEv ph d 105 19 L st M = zcont ph d 105 (zstep ph (zEm ph d) 0 20 0 [0] L st M) := zEv_step rfl
theorem e105_20 (ph : Bool) (d : Nat) (L st : List zV) (M : zM) : zEv ph d 105 20 L st M = zcont ph d 105 (zstep ph (zEm ph d) 4 21 0 [0] L st M) := zEv_step rfl
theorem e105_21 (ph : Bool) (d : Nat) (L st : List zV) (M : zM) : zEv ph d 105 21 L st M = zcont ph d 105 (zstep ph (zEm ph d) 62 24 0 [25, 1, 2, 10, 40] L st M) := zEv_step rfl
theorem e105_24 (ph : Bool) (d : Nat) (L st : List zV) (M : zM) : zEv ph d 105 24 L st M = zcont ph d 105 (zstep ph (zEm ph d) 0 25 0 [0] L st M) := zEv_step rfl
theorem e105_25 (ph : Bool) (d : Nat) (L st : List zV) (M : zM) : zEv ph d 105 25 L st M = zcont ph d 105 (zstep ph (zEm ph d) 0 27 0 [40] L st M) := zEv_step rfl
theorem e105_27 (ph : Bool) (d : Nat) (L st : List zV) (M : zM) : zEv ph d 105 27 L st M = zcont ph d 105 (zstep ph (zEm ph d) 74 30 0 [] L st M) := zEv_step rfl
theorem e105_30 (ph : Bool) (d : Nat) (L st : List zV) (M : zM) : zEv ph d 105 30 L st M = zcont ph d 105 (zstep ph (zEm ph d) 4 31 0 [1] L st M) := zEv_step rfl
theorem e105_31 (ph : Bool) (d : Nat) (L st : List zV) (M : zM) : zEv ph d 105 31 L st M = zcont ph d 105 (zstep ph (zEm ph d) 62 34 0 [25, 2, 3, 10, 40] L st M) := zEv_step rfl
theorem e105_34 (ph : Bool) (d : Nat) (L st : List zV) (M : zM) : zEv ph d 105 34 L st M = zcont ph d 105 (zstep ph (zEm ph d) 0 35 0 [0] L st M) := zEv_step rfl
theorem e105_35 (ph : Bool) (d : Nat) (L st : List zV) (M : zM) : zEv ph d 105 35 L st M = zcont ph d 105 (zstep ph (zEm ph d) 4 36 0 [0] L st M) := zEv_step rfl
theorem e105_36 (ph : Bool) (d : Nat) (L st : List zV) (M : zM) : zEv ph d 105 36 L st M = zcont ph d 105 (zstep ph (zEm ph d) 62 39 0 [25, 2, 3, 10, 40] L st M) := zEv_step rfl
theorem e105_39 (ph : Bool) (d : Nat) (L st : List zV) (M : zM) : zEv ph d 105 39 L st M = zcont ph d 105 (zstep ph (zEm ph d) 0 40 0 [0] L st M) := zEv_step rfl
theorem e105_40 (ph : Bool) (d : Nat) (L st : List zV) (M : zM) : zEv ph d 105 40 L st M = zcont ph d 105 (zstep ph (zEm ph d) 0 42 0 [40] L st M) := zEv_step rfl
theorem e105_42 (ph : Bool) (d : Nat) (L st : List zV) (M : zM) : zEv ph d 105 42 L st M = zcont ph d 105 (zstep ph (zEm ph d) 74 45 0 [] L st M) := zEv_step rfl
theorem e105_45 (ph : Bool) (d : Nat) (L st : List zV) (M : zM) : zEv ph d 105 45 L st M = zcont ph d 105 (zstep ph (zEm ph d) 4 46 0 [0] L st M) := zEv_step rfl
theorem e105_46 (ph : Bool) (d : Nat) (L st : List zV) (M : zM) : zEv ph d 105 46 L st M = zcont ph d 105 (zstep ph (zEm ph d) 4 47 0 [1] L st M) := zEv_step rfl
theorem e105_47 (ph : Bool) (d : Nat) (L st : List zV) (M : zM) : zEv ph d 105 47 L st M = zcont ph d 105 (zstep ph (zEm ph d) 60 50 0 [25, 4] L st M) := zEv_step rfl
theorem e105_50 (ph : Bool) (d : Nat) (L st : List zV) (M : zM) : zEv ph d 105 50 L st M = zcont ph d 105 (zstep ph (zEm ph d) 65 53 0 [25, 4] L st M) := zEv_step rfl
theorem e105_53 (ph : Bool) (d : Nat) (L st : List zV) (M : zM) : zEv ph d 105 53 L st M = zcont ph d 105 (zstep ph (zEm ph d) 4 54 0 [0] L st M) := zEv_step rfl
theorem e105_54 (ph : Bool) (d : Nat) (L st : List zV) (M : zM) : zEv ph d 105 54 L st M = zcont ph d 105 (zstep ph (zEm ph d) 4 55 0 [1] L st M) := zEv_step rfl
theorem e105_55 (ph : Bool) (d : Nat) (L st : List zV) (M : zM) : zEv ph d 105 55 L st M = zcont ph d 105 (zstep ph (zEm ph d) 60 58 0 [25, 5] L st M) := zEv_step rfl
theorem e105_58 (ph : Bool) (d : Nat) (L st : List zV) (M : zM) : zEv ph d 105 58 L st M = zcont ph d 105 (zstep ph (zEm ph d) 65 61 0 [25, 5] L st M) := zEv_step rfl
theorem e105_61 (ph : Bool) (d : Nat) (L st : List zV) (M : zM) : zEv ph d 105 61 L st M = zcont ph d 105 (zstep ph (zEm ph d) 83 62 0 [] L st M) := zEv_step rfl
theorem s_copyV (d : Nat) (a x0 b x1 : Int) (M : zM) (h : a + 7 ≤ b ∨ b + 7 ≤ a) : zEm true (d + 1) 153 [(28, a, x0), (28, b, x1)] M = some ((98, 0, 0), cpV M a b) := by
  unfold cpV
  simp (disch := first | assumption | exact zrm0 | exact zrm1 _ | exact zrm2 _ _ | exact zrm3 _ _ _ | exact zrm4 _ _ _ _ | omega) only [m153, ↓k_dp, ↓k_dn, k_dp, k_dn, k_dT, k_dF, k_ip, k_in, if_true, if_false, ne_eq, not_true_eq_false, not_false_eq_true, Int.reduceAdd, zup_a, zup_e, zup_j, z32_id, k_al1, k_gR, k_ic, k_al0, k_cpy, k_cpyS, k_gI, k_pI, k_rv, e153_0, e153_1, e153_4, e153_5, e153_6, e153_9, e153_10, e153_11, e153_14, e153_15, e153_18, e153_19, e153_20, e153_23, e153_24, e153_26, e153_29, e153_30, e153_33, e153_34, e153_35, e153_38, e153_39, e153_40, e153_43, e153_44, e153_47, e153_48, e153_49, e153_52, e153_53, e153_55, e153_58, e153_59, e153_62, e153_63, e153_64, e153_67, e153_68, e153_70, e153_73, e153_74, e153_77, e153_78, e153_79, e153_82, e153_83, e153_84, e153_87, e153_88, e153_89, e153_92, e153_95, e153_96, e153_97, e153_100, e153_103, e153_104, e153_105, e153_108, e153_111, e153_112, e153_113, e153_116, e153_119, e153_120, e153_121, e153_124, e153_127, e153_128, e153_129, e153_132, e153_135, zcpy_o]
theorem s_copyN (d : Nat) (a x0 b x1 : Int) (M : zM) (h : a + 5 ≤ b ∨ b + 5 ≤ a) : zEm true (d + 1) 105 [(25, a, x0), (25, b, x1)] M = some ((98, 0, 0), cpN M a b) := by
  unfold cpN
  simp (disch := first | assumption | exact zrm0 | exact zrm1 _ | exact zrm2 _ _ | exact zrm3 _ _ _ | exact zrm4 _ _ _ _ | omega) only [m105, ↓k_dp, ↓k_dn, k_dp, k_dn, k_dT, k_dF, k_ip, k_in, if_true, if_false, ne_eq, not_true_eq_false, not_false_eq_true, Int.reduceAdd, zup_a, zup_e, zup_j, z32_id, k_al1, k_gR, k_ic, k_al0, k_cpy, k_cpyS, k_gI, k_pI, k_rv, e105_0, e105_1, e105_4, e105_5, e105_6, e105_9, e105_10, e105_12, e105_15, e105_16, e105_19, e105_20, e105_21, e105_24, e105_25, e105_27, e105_30, e105_31, e105_34, e105_35, e105_36, e105_39, e105_40, e105_42, e105_45, e105_46, e105_47, e105_50, e105_53, e105_54, e105_55, e105_58, e105_61, zcpy_o]
theorem cpV_o {M : zM} {a b x y : Int} (h : x < a ∨ a + 7 ≤ x) : cpV M a b x y = M x y := by
  unfold cpV
  simp (disch := omega) only [zup_a, zcpy_o]
theorem cpN_o {M : zM} {a b x y : Int} (h : x < a ∨ a + 5 ≤ x) : cpN M a b x y = M x y := by
  unfold cpN
  simp (disch := omega) only [zup_a, zcpy_o]
