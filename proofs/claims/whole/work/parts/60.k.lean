/-! one step each, as rows to rewrite with -/
theorem k_ic {ph : Bool} {d j nx tg : Nat} {cl : Nat → List zV → zM → zO} {L st : List zV} {M : zM} {v : Int} : zcont ph d j (zstep ph cl 0 nx tg [v] L st M) = zEv ph d j nx L ((0, v, 0) :: st) M := rfl
theorem k_lc {ph : Bool} {d j nx tg : Nat} {cl : Nat → List zV → zM → zO} {L st : List zV} {M : zM} {v : Int} : zcont ph d j (zstep ph cl 1 nx tg [v] L st M) = zEv ph d j nx L ((1, v, 0) :: st) M := rfl
theorem k_il0 {ph : Bool} {d j nx tg : Nat} {cl : Nat → List zV → zM → zO} {L st : List zV} {M : zM} {x n : Int} : zcont ph d j (zstep ph cl 2 nx tg [0] ((0, x, n) :: L) st M) = zEv ph d j nx ((0, x, n) :: L) ((0, x, 0) :: st) M := rfl
theorem k_ll0 {ph : Bool} {d j nx tg : Nat} {cl : Nat → List zV → zM → zO} {L st : List zV} {M : zM} {x n : Int} : zcont ph d j (zstep ph cl 3 nx tg [0] ((1, x, n) :: L) st M) = zEv ph d j nx ((1, x, n) :: L) ((1, x, 0) :: st) M := rfl
theorem k_al0 {ph : Bool} {d j nx tg : Nat} {cl : Nat → List zV → zM → zO} {L st : List zV} {M : zM} {t x n : Int} (h : 4 ≤ t) : zcont ph d j (zstep ph cl 4 nx tg [0] ((t, x, n) :: L) st M) = zEv ph d j nx ((t, x, n) :: L) ((t, x, n) :: st) M := by simp [zstep, zF0, zF0_al, zr0, znth, zcont, h]
theorem k_is0 {ph : Bool} {d j nx tg : Nat} {cl : Nat → List zV → zM → zO} {L st : List zV} {M : zM} {l : zV} {x n : Int} : zcont ph d j (zstep ph cl 5 nx tg [0] (l :: L) ((0, x, n) :: st) M) = zEv ph d j nx ((0, x, 0) :: L) st M := rfl
theorem k_as0 {ph : Bool} {d j nx tg : Nat} {cl : Nat → List zV → zM → zO} {L st : List zV} {M : zM} {l : zV} {t x n : Int} (h : 4 ≤ t) : zcont ph d j (zstep ph cl 7 nx tg [0] (l :: L) ((t, x, n) :: st) M) = zEv ph d j nx ((t, x, n) :: L) st M := by simp [zstep, zF0, zF0_is, zF0_as, zF0_ls, zr0, zset, zok, zcont, h]
theorem k_inc0 {ph : Bool} {d j nx tg : Nat} {cl : Nat → List zV → zM → zO} {L st : List zV} {M : zM} {x n c : Int} : zcont ph d j (zstep ph cl 8 nx tg [0, c] ((0, x, n) :: L) st M) = zEv ph d j nx ((0, z32 (x + c), 0) :: L) st M := rfl
theorem k_il1 {ph : Bool} {d j nx tg : Nat} {cl : Nat → List zV → zM → zO} {L st : List zV} {M : zM} {l0 : zV} {x n : Int} : zcont ph d j (zstep ph cl 2 nx tg [1] (l0 :: (0, x, n) :: L) st M) = zEv ph d j nx (l0 :: (0, x, n) :: L) ((0, x, 0) :: st) M := rfl
theorem k_ll1 {ph : Bool} {d j nx tg : Nat} {cl : Nat → List zV → zM → zO} {L st : List zV} {M : zM} {l0 : zV} {x n : Int} : zcont ph d j (zstep ph cl 3 nx tg [1] (l0 :: (1, x, n) :: L) st M) = zEv ph d j nx (l0 :: (1, x, n) :: L) ((1, x, 0) :: st) M := rfl
theorem k_al1 {ph : Bool} {d j nx tg : Nat} {cl : Nat → List zV → zM → zO} {L st : List zV} {M : zM} {l0 : zV} {t x n : Int} (h : 4 ≤ t) : zcont ph d j (zstep ph cl 4 nx tg [1] (l0 :: (t, x, n) :: L) st M) = zEv ph d j nx (l0 :: (t, x, n) :: L) ((t, x, n) :: st) M := by simp [zstep, zF0, zF0_al, zr0, znth, zcont, h]
theorem k_is1 {ph : Bool} {d j nx tg : Nat} {cl : Nat → List zV → zM → zO} {L st : List zV} {M : zM} {l : zV} {u v w x n : Int} (h : u ≠ 1) : zcont ph d j (zstep ph cl 5 nx tg [1] ((u, v, w) :: l :: L) ((0, x, n) :: st) M) = zEv ph d j nx ((u, v, w) :: (0, x, 0) :: L) st M := by simp [zstep, zF0, zF0_is, zF0_as, zF0_ls, zr0, zset, zok, zcont, h]
theorem k_as1 {ph : Bool} {d j nx tg : Nat} {cl : Nat → List zV → zM → zO} {L st : List zV} {M : zM} {l : zV} {u v w t x n : Int} (h : u ≠ 1) (h2 : 4 ≤ t) : zcont ph d j (zstep ph cl 7 nx tg [1] ((u, v, w) :: l :: L) ((t, x, n) :: st) M) = zEv ph d j nx ((u, v, w) :: (t, x, n) :: L) st M := by simp [zstep, zF0, zF0_is, zF0_as, zF0_ls, zr0, zset, zok, zcont, h, h2]
theorem k_ls1 {ph : Bool} {d j nx tg : Nat} {cl : Nat → List zV → zM → zO} {L st : List zV} {M : zM} {l l9 : zV} {u v w x n : Int} (h : u ≠ 1) : zcont ph d j (zstep ph cl 6 nx tg [1] ((u, v, w) :: l :: l9 :: L) ((1, x, n) :: st) M) = zEv ph d j nx ((u, v, w) :: (1, x, 0) :: (3, 0, 0) :: L) st M := by simp [zstep, zF0, zF0_is, zF0_as, zF0_ls, zr0, zset, zok, zcont, h]
theorem k_inc1 {ph : Bool} {d j nx tg : Nat} {cl : Nat → List zV → zM → zO} {L st : List zV} {M : zM} {u v w x n c : Int} (h : u ≠ 1) : zcont ph d j (zstep ph cl 8 nx tg [1, c] ((u, v, w) :: (0, x, n) :: L) st M) = zEv ph d j nx ((u, v, w) :: (0, z32 (x + c), 0) :: L) st M := by simp [zstep, zF0, zF0_inc, zr0, zr1, znth, zset, zok, zcont, h]
theorem k_il2 {ph : Bool} {d j nx tg : Nat} {cl : Nat → List zV → zM → zO} {L st : List zV} {M : zM} {l0 l1 : zV} {x n : Int} : zcont ph d j (zstep ph cl 2 nx tg [2] (l0 :: l1 :: (0, x, n) :: L) st M) = zEv ph d j nx (l0 :: l1 :: (0, x, n) :: L) ((0, x, 0) :: st) M := rfl
theorem k_ll2 {ph : Bool} {d j nx tg : Nat} {cl : Nat → List zV → zM → zO} {L st : List zV} {M : zM} {l0 l1 : zV} {x n : Int} : zcont ph d j (zstep ph cl 3 nx tg [2] (l0 :: l1 :: (1, x, n) :: L) st M) = zEv ph d j nx (l0 :: l1 :: (1, x, n) :: L) ((1, x, 0) :: st) M := rfl
theorem k_al2 {ph : Bool} {d j nx tg : Nat} {cl : Nat → List zV → zM → zO} {L st : List zV} {M : zM} {l0 l1 : zV} {t x n : Int} (h : 4 ≤ t) : zcont ph d j (zstep ph cl 4 nx tg [2] (l0 :: l1 :: (t, x, n) :: L) st M) = zEv ph d j nx (l0 :: l1 :: (t, x, n) :: L) ((t, x, n) :: st) M := by simp [zstep, zF0, zF0_al, zr0, znth, zcont, h]
theorem k_is2 {ph : Bool} {d j nx tg : Nat} {cl : Nat → List zV → zM → zO} {L st : List zV} {M : zM} {l0 : zV} {l : zV} {u v w x n : Int} (h : u ≠ 1) : zcont ph d j (zstep ph cl 5 nx tg [2] (l0 :: (u, v, w) :: l :: L) ((0, x, n) :: st) M) = zEv ph d j nx (l0 :: (u, v, w) :: (0, x, 0) :: L) st M := by simp [zstep, zF0, zF0_is, zF0_as, zF0_ls, zr0, zset, zok, zcont, h]
theorem k_as2 {ph : Bool} {d j nx tg : Nat} {cl : Nat → List zV → zM → zO} {L st : List zV} {M : zM} {l0 : zV} {l : zV} {u v w t x n : Int} (h : u ≠ 1) (h2 : 4 ≤ t) : zcont ph d j (zstep ph cl 7 nx tg [2] (l0 :: (u, v, w) :: l :: L) ((t, x, n) :: st) M) = zEv ph d j nx (l0 :: (u, v, w) :: (t, x, n) :: L) st M := by simp [zstep, zF0, zF0_is, zF0_as, zF0_ls, zr0, zset, zok, zcont, h, h2]
theorem k_ls2 {ph : Bool} {d j nx tg : Nat} {cl : Nat → List zV → zM → zO} {L st : List zV} {M : zM} {l0 : zV} {l l9 : zV} {u v w x n : Int} (h : u ≠ 1) : zcont ph d j (zstep ph cl 6 nx tg [2] (l0 :: (u, v, w) :: l :: l9 :: L) ((1, x, n) :: st) M) = zEv ph d j nx (l0 :: (u, v, w) :: (1, x, 0) :: (3, 0, 0) :: L) st M := by simp [zstep, zF0, zF0_is, zF0_as, zF0_ls, zr0, zset, zok, zcont, h]
theorem k_inc2 {ph : Bool} {d j nx tg : Nat} {cl : Nat → List zV → zM → zO} {L st : List zV} {M : zM} {l0 : zV} {u v w x n c : Int} (h : u ≠ 1) : zcont ph d j (zstep ph cl 8 nx tg [2, c] (l0 :: (u, v, w) :: (0, x, n) :: L) st M) = zEv ph d j nx (l0 :: (u, v, w) :: (0, z32 (x + c), 0) :: L) st M := by simp [zstep, zF0, zF0_inc, zr0, zr1, znth, zset, zok, zcont, h]
theorem k_il3 {ph : Bool} {d j nx tg : Nat} {cl : Nat → List zV → zM → zO} {L st : List zV} {M : zM} {l0 l1 l2 : zV} {x n : Int} : zcont ph d j (zstep ph cl 2 nx tg [3] (l0 :: l1 :: l2 :: (0, x, n) :: L) st M) = zEv ph d j nx (l0 :: l1 :: l2 :: (0, x, n) :: L) ((0, x, 0) :: st) M := rfl
theorem k_ll3 {ph : Bool} {d j nx tg : Nat} {cl : Nat → List zV → zM → zO} {L st : List zV} {M : zM} {l0 l1 l2 : zV} {x n : Int} : zcont ph d j (zstep ph cl 3 nx tg [3] (l0 :: l1 :: l2 :: (1, x, n) :: L) st M) = zEv ph d j nx (l0 :: l1 :: l2 :: (1, x, n) :: L) ((1, x, 0) :: st) M := rfl
theorem k_al3 {ph : Bool} {d j nx tg : Nat} {cl : Nat → List zV → zM → zO} {L st : List zV} {M : zM} {l0 l1 l2 : zV} {t x n : Int} (h : 4 ≤ t) : zcont ph d j (zstep ph cl 4 nx tg [3] (l0 :: l1 :: l2 :: (t, x, n) :: L) st M) = zEv ph d j nx (l0 :: l1 :: l2 :: (t, x, n) :: L) ((t, x, n) :: st) M := by simp [zstep, zF0, zF0_al, zr0, znth, zcont, h]
theorem k_is3 {ph : Bool} {d j nx tg : Nat} {cl : Nat → List zV → zM → zO} {L st : List zV} {M : zM} {l0 l1 : zV} {l : zV} {u v w x n : Int} (h : u ≠ 1) : zcont ph d j (zstep ph cl 5 nx tg [3] (l0 :: l1 :: (u, v, w) :: l :: L) ((0, x, n) :: st) M) = zEv ph d j nx (l0 :: l1 :: (u, v, w) :: (0, x, 0) :: L) st M := by simp [zstep, zF0, zF0_is, zF0_as, zF0_ls, zr0, zset, zok, zcont, h]
theorem k_as3 {ph : Bool} {d j nx tg : Nat} {cl : Nat → List zV → zM → zO} {L st : List zV} {M : zM} {l0 l1 : zV} {l : zV} {u v w t x n : Int} (h : u ≠ 1) (h2 : 4 ≤ t) : zcont ph d j (zstep ph cl 7 nx tg [3] (l0 :: l1 :: (u, v, w) :: l :: L) ((t, x, n) :: st) M) = zEv ph d j nx (l0 :: l1 :: (u, v, w) :: (t, x, n) :: L) st M := by simp [zstep, zF0, zF0_is, zF0_as, zF0_ls, zr0, zset, zok, zcont, h, h2]
theorem k_ls3 {ph : Bool} {d j nx tg : Nat} {cl : Nat → List zV → zM → zO} {L st : List zV} {M : zM} {l0 l1 : zV} {l l9 : zV} {u v w x n : Int} (h : u ≠ 1) : zcont ph d j (zstep ph cl 6 nx tg [3] (l0 :: l1 :: (u, v, w) :: l :: l9 :: L) ((1, x, n) :: st) M) = zEv ph d j nx (l0 :: l1 :: (u, v, w) :: (1, x, 0) :: (3, 0, 0) :: L) st M := by simp [zstep, zF0, zF0_is, zF0_as, zF0_ls, zr0, zset, zok, zcont, h]
theorem k_inc3 {ph : Bool} {d j nx tg : Nat} {cl : Nat → List zV → zM → zO} {L st : List zV} {M : zM} {l0 l1 : zV} {u v w x n c : Int} (h : u ≠ 1) : zcont ph d j (zstep ph cl 8 nx tg [3, c] (l0 :: l1 :: (u, v, w) :: (0, x, n) :: L) st M) = zEv ph d j nx (l0 :: l1 :: (u, v, w) :: (0, z32 (x + c), 0) :: L) st M := by simp [zstep, zF0, zF0_inc, zr0, zr1, znth, zset, zok, zcont, h]
theorem k_il4 {ph : Bool} {d j nx tg : Nat} {cl : Nat → List zV → zM → zO} {L st : List zV} {M : zM} {l0 l1 l2 l3 : zV} {x n : Int} : zcont ph d j (zstep ph cl 2 nx tg [4] (l0 :: l1 :: l2 :: l3 :: (0, x, n) :: L) st M) = zEv ph d j nx (l0 :: l1 :: l2 :: l3 :: (0, x, n) :: L) ((0, x, 0) :: st) M := rfl
theorem k_ll4 {ph : Bool} {d j nx tg : Nat} {cl : Nat → List zV → zM → zO} {L st : List zV} {M : zM} {l0 l1 l2 l3 : zV} {x n : Int} : zcont ph d j (zstep ph cl 3 nx tg [4] (l0 :: l1 :: l2 :: l3 :: (1, x, n) :: L) st M) = zEv ph d j nx (l0 :: l1 :: l2 :: l3 :: (1, x, n) :: L) ((1, x, 0) :: st) M := rfl
theorem k_al4 {ph : Bool} {d j nx tg : Nat} {cl : Nat → List zV → zM → zO} {L st : List zV} {M : zM} {l0 l1 l2 l3 : zV} {t x n : Int} (h : 4 ≤ t) : zcont ph d j (zstep ph cl 4 nx tg [4] (l0 :: l1 :: l2 :: l3 :: (t, x, n) :: L) st M) = zEv ph d j nx (l0 :: l1 :: l2 :: l3 :: (t, x, n) :: L) ((t, x, n) :: st) M := by simp [zstep, zF0, zF0_al, zr0, znth, zcont, h]
theorem k_is4 {ph : Bool} {d j nx tg : Nat} {cl : Nat → List zV → zM → zO} {L st : List zV} {M : zM} {l0 l1 l2 : zV} {l : zV} {u v w x n : Int} (h : u ≠ 1) : zcont ph d j (zstep ph cl 5 nx tg [4] (l0 :: l1 :: l2 :: (u, v, w) :: l :: L) ((0, x, n) :: st) M) = zEv ph d j nx (l0 :: l1 :: l2 :: (u, v, w) :: (0, x, 0) :: L) st M := by simp [zstep, zF0, zF0_is, zF0_as, zF0_ls, zr0, zset, zok, zcont, h]
theorem k_as4 {ph : Bool} {d j nx tg : Nat} {cl : Nat → List zV → zM → zO} {L st : List zV} {M : zM} {l0 l1 l2 : zV} {l : zV} {u v w t x n : Int} (h : u ≠ 1) (h2 : 4 ≤ t) : zcont ph d j (zstep ph cl 7 nx tg [4] (l0 :: l1 :: l2 :: (u, v, w) :: l :: L) ((t, x, n) :: st) M) = zEv ph d j nx (l0 :: l1 :: l2 :: (u, v, w) :: (t, x, n) :: L) st M := by simp [zstep, zF0, zF0_is, zF0_as, zF0_ls, zr0, zset, zok, zcont, h, h2]
theorem k_ls4 {ph : Bool} {d j nx tg : Nat} {cl : Nat → List zV → zM → zO} {L st : List zV} {M : zM} {l0 l1 l2 : zV} {l l9 : zV} {u v w x n : Int} (h : u ≠ 1) : zcont ph d j (zstep ph cl 6 nx tg [4] (l0 :: l1 :: l2 :: (u, v, w) :: l :: l9 :: L) ((1, x, n) :: st) M) = zEv ph d j nx (l0 :: l1 :: l2 :: (u, v, w) :: (1, x, 0) :: (3, 0, 0) :: L) st M := by simp [zstep, zF0, zF0_is, zF0_as, zF0_ls, zr0, zset, zok, zcont, h]
theorem k_inc4 {ph : Bool} {d j nx tg : Nat} {cl : Nat → List zV → zM → zO} {L st : List zV} {M : zM} {l0 l1 l2 : zV} {u v w x n c : Int} (h : u ≠ 1) : zcont ph d j (zstep ph cl 8 nx tg [4, c] (l0 :: l1 :: l2 :: (u, v, w) :: (0, x, n) :: L) st M) = zEv ph d j nx (l0 :: l1 :: l2 :: (u, v, w) :: (0, z32 (x + c), 0) :: L) st M := by simp [zstep, zF0, zF0_inc, zr0, zr1, znth, zset, zok, zcont, h]
theorem k_il5 {ph : Bool} {d j nx tg : Nat} {cl : Nat → List zV → zM → zO} {L st : List zV} {M : zM} {l0 l1 l2 l3 l4 : zV} {x n : Int} : zcont ph d j (zstep ph cl 2 nx tg [5] (l0 :: l1 :: l2 :: l3 :: l4 :: (0, x, n) :: L) st M) = zEv ph d j nx (l0 :: l1 :: l2 :: l3 :: l4 :: (0, x, n) :: L) ((0, x, 0) :: st) M := rfl
theorem k_ll5 {ph : Bool} {d j nx tg : Nat} {cl : Nat → List zV → zM → zO} {L st : List zV} {M : zM} {l0 l1 l2 l3 l4 : zV} {x n : Int} : zcont ph d j (zstep ph cl 3 nx tg [5] (l0 :: l1 :: l2 :: l3 :: l4 :: (1, x, n) :: L) st M) = zEv ph d j nx (l0 :: l1 :: l2 :: l3 :: l4 :: (1, x, n) :: L) ((1, x, 0) :: st) M := rfl
theorem k_al5 {ph : Bool} {d j nx tg : Nat} {cl : Nat → List zV → zM → zO} {L st : List zV} {M : zM} {l0 l1 l2 l3 l4 : zV} {t x n : Int} (h : 4 ≤ t) : zcont ph d j (zstep ph cl 4 nx tg [5] (l0 :: l1 :: l2 :: l3 :: l4 :: (t, x, n) :: L) st M) = zEv ph d j nx (l0 :: l1 :: l2 :: l3 :: l4 :: (t, x, n) :: L) ((t, x, n) :: st) M := by simp [zstep, zF0, zF0_al, zr0, znth, zcont, h]
theorem k_is5 {ph : Bool} {d j nx tg : Nat} {cl : Nat → List zV → zM → zO} {L st : List zV} {M : zM} {l0 l1 l2 l3 : zV} {l : zV} {u v w x n : Int} (h : u ≠ 1) : zcont ph d j (zstep ph cl 5 nx tg [5] (l0 :: l1 :: l2 :: l3 :: (u, v, w) :: l :: L) ((0, x, n) :: st) M) = zEv ph d j nx (l0 :: l1 :: l2 :: l3 :: (u, v, w) :: (0, x, 0) :: L) st M := by simp [zstep, zF0, zF0_is, zF0_as, zF0_ls, zr0, zset, zok, zcont, h]
theorem k_as5 {ph : Bool} {d j nx tg : Nat} {cl : Nat → List zV → zM → zO} {L st : List zV} {M : zM} {l0 l1 l2 l3 : zV} {l : zV} {u v w t x n : Int} (h : u ≠ 1) (h2 : 4 ≤ t) : zcont ph d j (zstep ph cl 7 nx tg [5] (l0 :: l1 :: l2 :: l3 :: (u, v, w) :: l :: L) ((t, x, n) :: st) M) = zEv ph d j nx (l0 :: l1 :: l2 :: l3 :: (u, v, w) :: (t, x, n) :: L) st M := by simp [zstep, zF0, zF0_is, zF0_as, zF0_ls, zr0, zset, zok, zcont, h, h2]
theorem k_ls5 {ph : Bool} {d j nx tg : Nat} {cl : Nat → List zV → zM → zO} {L st : List zV} {M : zM} {l0 l1 l2 l3 : zV} {l l9 : zV} {u v w x n : Int} (h : u ≠ 1) : zcont ph d j (zstep ph cl 6 nx tg [5] (l0 :: l1 :: l2 :: l3 :: (u, v, w) :: l :: l9 :: L) ((1, x, n) :: st) M) = zEv ph d j nx (l0 :: l1 :: l2 :: l3 :: (u, v, w) :: (1, x, 0) :: (3, 0, 0) :: L) st M := by simp [zstep, zF0, zF0_is, zF0_as, zF0_ls, zr0, zset, zok, zcont, h]
theorem k_inc5 {ph : Bool} {d j nx tg : Nat} {cl : Nat → List zV → zM → zO} {L st : List zV} {M : zM} {l0 l1 l2 l3 : zV} {u v w x n c : Int} (h : u ≠ 1) : zcont ph d j (zstep ph cl 8 nx tg [5, c] (l0 :: l1 :: l2 :: l3 :: (u, v, w) :: (0, x, n) :: L) st M) = zEv ph d j nx (l0 :: l1 :: l2 :: l3 :: (u, v, w) :: (0, z32 (x + c), 0) :: L) st M := by simp [zstep, zF0, zF0_inc, zr0, zr1, znth, zset, zok, zcont, h]
theorem k_il6 {ph : Bool} {d j nx tg : Nat} {cl : Nat → List zV → zM → zO} {L st : List zV} {M : zM} {l0 l1 l2 l3 l4 l5 : zV} {x n : Int} : zcont ph d j (zstep ph cl 2 nx tg [6] (l0 :: l1 :: l2 :: l3 :: l4 :: l5 :: (0, x, n) :: L) st M) = zEv ph d j nx (l0 :: l1 :: l2 :: l3 :: l4 :: l5 :: (0, x, n) :: L) ((0, x, 0) :: st) M := rfl
theorem k_ll6 {ph : Bool} {d j nx tg : Nat} {cl : Nat → List zV → zM → zO} {L st : List zV} {M : zM} {l0 l1 l2 l3 l4 l5 : zV} {x n : Int} : zcont ph d j (zstep ph cl 3 nx tg [6] (l0 :: l1 :: l2 :: l3 :: l4 :: l5 :: (1, x, n) :: L) st M) = zEv ph d j nx (l0 :: l1 :: l2 :: l3 :: l4 :: l5 :: (1, x, n) :: L) ((1, x, 0) :: st) M := rfl
theorem k_al6 {ph : Bool} {d j nx tg : Nat} {cl : Nat → List zV → zM → zO} {L st : List zV} {M : zM} {l0 l1 l2 l3 l4 l5 : zV} {t x n : Int} (h : 4 ≤ t) : zcont ph d j (zstep ph cl 4 nx tg [6] (l0 :: l1 :: l2 :: l3 :: l4 :: l5 :: (t, x, n) :: L) st M) = zEv ph d j nx (l0 :: l1 :: l2 :: l3 :: l4 :: l5 :: (t, x, n) :: L) ((t, x, n) :: st) M := by simp [zstep, zF0, zF0_al, zr0, znth, zcont, h]
theorem k_is6 {ph : Bool} {d j nx tg : Nat} {cl : Nat → List zV → zM → zO} {L st : List zV} {M : zM} {l0 l1 l2 l3 l4 : zV} {l : zV} {u v w x n : Int} (h : u ≠ 1) : zcont ph d j (zstep ph cl 5 nx tg [6] (l0 :: l1 :: l2 :: l3 :: l4 :: (u, v, w) :: l :: L) ((0, x, n) :: st) M) = zEv ph d j nx (l0 :: l1 :: l2 :: l3 :: l4 :: (u, v, w) :: (0, x, 0) :: L) st M := by simp [zstep, zF0, zF0_is, zF0_as, zF0_ls, zr0, zset, zok, zcont, h]
theorem k_as6 {ph : Bool} {d j nx tg : Nat} {cl : Nat → List zV → zM → zO} {L st : List zV} {M : zM} {l0 l1 l2 l3 l4 : zV} {l : zV} {u v w t x n : Int} (h : u ≠ 1) (h2 : 4 ≤ t) : zcont ph d j (zstep ph cl 7 nx tg [6] (l0 :: l1 :: l2 :: l3 :: l4 :: (u, v, w) :: l :: L) ((t, x, n) :: st) M) = zEv ph d j nx (l0 :: l1 :: l2 :: l3 :: l4 :: (u, v, w) :: (t, x, n) :: L) st M := by simp [zstep, zF0, zF0_is, zF0_as, zF0_ls, zr0, zset, zok, zcont, h, h2]
theorem k_ls6 {ph : Bool} {d j nx tg : Nat} {cl : Nat → List zV → zM → zO} {L st : List zV} {M : zM} {l0 l1 l2 l3 l4 : zV} {l l9 : zV} {u v w x n : Int} (h : u ≠ 1) : zcont ph d j (zstep ph cl 6 nx tg [6] (l0 :: l1 :: l2 :: l3 :: l4 :: (u, v, w) :: l :: l9 :: L) ((1, x, n) :: st) M) = zEv ph d j nx (l0 :: l1 :: l2 :: l3 :: l4 :: (u, v, w) :: (1, x, 0) :: (3, 0, 0) :: L) st M := by simp [zstep, zF0, zF0_is, zF0_as, zF0_ls, zr0, zset, zok, zcont, h]
theorem k_inc6 {ph : Bool} {d j nx tg : Nat} {cl : Nat → List zV → zM → zO} {L st : List zV} {M : zM} {l0 l1 l2 l3 l4 : zV} {u v w x n c : Int} (h : u ≠ 1) : zcont ph d j (zstep ph cl 8 nx tg [6, c] (l0 :: l1 :: l2 :: l3 :: l4 :: (u, v, w) :: (0, x, n) :: L) st M) = zEv ph d j nx (l0 :: l1 :: l2 :: l3 :: l4 :: (u, v, w) :: (0, z32 (x + c), 0) :: L) st M := by simp [zstep, zF0, zF0_inc, zr0, zr1, znth, zset, zok, zcont, h]
theorem k_il7 {ph : Bool} {d j nx tg : Nat} {cl : Nat → List zV → zM → zO} {L st : List zV} {M : zM} {l0 l1 l2 l3 l4 l5 l6 : zV} {x n : Int} : zcont ph d j (zstep ph cl 2 nx tg [7] (l0 :: l1 :: l2 :: l3 :: l4 :: l5 :: l6 :: (0, x, n) :: L) st M) = zEv ph d j nx (l0 :: l1 :: l2 :: l3 :: l4 :: l5 :: l6 :: (0, x, n) :: L) ((0, x, 0) :: st) M := rfl
theorem k_ll7 {ph : Bool} {d j nx tg : Nat} {cl : Nat → List zV → zM → zO} {L st : List zV} {M : zM} {l0 l1 l2 l3 l4 l5 l6 : zV} {x n : Int} : zcont ph d j (zstep ph cl 3 nx tg [7] (l0 :: l1 :: l2 :: l3 :: l4 :: l5 :: l6 :: (1, x, n) :: L) st M) = zEv ph d j nx (l0 :: l1 :: l2 :: l3 :: l4 :: l5 :: l6 :: (1, x, n) :: L) ((1, x, 0) :: st) M := rfl
theorem k_al7 {ph : Bool} {d j nx tg : Nat} {cl : Nat → List zV → zM → zO} {L st : List zV} {M : zM} {l0 l1 l2 l3 l4 l5 l6 : zV} {t x n : Int} (h : 4 ≤ t) : zcont ph d j (zstep ph cl 4 nx tg [7] (l0 :: l1 :: l2 :: l3 :: l4 :: l5 :: l6 :: (t, x, n) :: L) st M) = zEv ph d j nx (l0 :: l1 :: l2 :: l3 :: l4 :: l5 :: l6 :: (t, x, n) :: L) ((t, x, n) :: st) M := by simp [zstep, zF0, zF0_al, zr0, znth, zcont, h]
theorem k_is7 {ph : Bool} {d j nx tg : Nat} {cl : Nat → List zV → zM → zO} {L st : List zV} {M : zM} {l0 l1 l2 l3 l4 l5 : zV} {l : zV} {u v w x n : Int} (h : u ≠ 1) : zcont ph d j (zstep ph cl 5 nx tg [7] (l0 :: l1 :: l2 :: l3 :: l4 :: l5 :: (u, v, w) :: l :: L) ((0, x, n) :: st) M) = zEv ph d j nx (l0 :: l1 :: l2 :: l3 :: l4 :: l5 :: (u, v, w) :: (0, x, 0) :: L) st M := by simp [zstep, zF0, zF0_is, zF0_as, zF0_ls, zr0, zset, zok, zcont, h]
theorem k_as7 {ph : Bool} {d j nx tg : Nat} {cl : Nat → List zV → zM → zO} {L st : List zV} {M : zM} {l0 l1 l2 l3 l4 l5 : zV} {l : zV} {u v w t x n : Int} (h : u ≠ 1) (h2 : 4 ≤ t) : zcont ph d j (zstep ph cl 7 nx tg [7] (l0 :: l1 :: l2 :: l3 :: l4 :: l5 :: (u, v, w) :: l :: L) ((t, x, n) :: st) M) = zEv ph d j nx (l0 :: l1 :: l2 :: l3 :: l4 :: l5 :: (u, v, w) :: (t, x, n) :: L) st M := by simp [zstep, zF0, zF0_is, zF0_as, zF0_ls, zr0, zset, zok, zcont, h, h2]
theorem k_ls7 {ph : Bool} {d j nx tg : Nat} {cl : Nat → List zV → zM → zO} {L st : List zV} {M : zM} {l0 l1 l2 l3 l4 l5 : zV} {l l9 : zV} {u v w x n : Int} (h : u ≠ 1) : zcont ph d j (zstep ph cl 6 nx tg [7] (l0 :: l1 :: l2 :: l3 :: l4 :: l5 :: (u, v, w) :: l :: l9 :: L) ((1, x, n) :: st) M) = zEv ph d j nx (l0 :: l1 :: l2 :: l3 :: l4 :: l5 :: (u, v, w) :: (1, x, 0) :: (3, 0, 0) :: L) st M := by simp [zstep, zF0, zF0_is, zF0_as, zF0_ls, zr0, zset, zok, zcont, h]
theorem k_inc7 {ph : Bool} {d j nx tg : Nat} {cl : Nat → List zV → zM → zO} {L st : List zV} {M : zM} {l0 l1 l2 l3 l4 l5 : zV} {u v w x n c : Int} (h : u ≠ 1) : zcont ph d j (zstep ph cl 8 nx tg [7, c] (l0 :: l1 :: l2 :: l3 :: l4 :: l5 :: (u, v, w) :: (0, x, n) :: L) st M) = zEv ph d j nx (l0 :: l1 :: l2 :: l3 :: l4 :: l5 :: (u, v, w) :: (0, z32 (x + c), 0) :: L) st M := by simp [zstep, zF0, zF0_inc, zr0, zr1, znth, zset, zok, zcont, h]
theorem k_il8 {ph : Bool} {d j nx tg : Nat} {cl : Nat → List zV → zM → zO} {L st : List zV} {M : zM} {l0 l1 l2 l3 l4 l5 l6 l7 : zV} {x n : Int} : zcont ph d j (zstep ph cl 2 nx tg [8] (l0 :: l1 :: l2 :: l3 :: l4 :: l5 :: l6 :: l7 :: (0, x, n) :: L) st M) = zEv ph d j nx (l0 :: l1 :: l2 :: l3 :: l4 :: l5 :: l6 :: l7 :: (0, x, n) :: L) ((0, x, 0) :: st) M := rfl
theorem k_ll8 {ph : Bool} {d j nx tg : Nat} {cl : Nat → List zV → zM → zO} {L st : List zV} {M : zM} {l0 l1 l2 l3 l4 l5 l6 l7 : zV} {x n : Int} : zcont ph d j (zstep ph cl 3 nx tg [8] (l0 :: l1 :: l2 :: l3 :: l4 :: l5 :: l6 :: l7 :: (1, x, n) :: L) st M) = zEv ph d j nx (l0 :: l1 :: l2 :: l3 :: l4 :: l5 :: l6 :: l7 :: (1, x, n) :: L) ((1, x, 0) :: st) M := rfl
theorem k_al8 {ph : Bool} {d j nx tg : Nat} {cl : Nat → List zV → zM → zO} {L st : List zV} {M : zM} {l0 l1 l2 l3 l4 l5 l6 l7 : zV} {t x n : Int} (h : 4 ≤ t) : zcont ph d j (zstep ph cl 4 nx tg [8] (l0 :: l1 :: l2 :: l3 :: l4 :: l5 :: l6 :: l7 :: (t, x, n) :: L) st M) = zEv ph d j nx (l0 :: l1 :: l2 :: l3 :: l4 :: l5 :: l6 :: l7 :: (t, x, n) :: L) ((t, x, n) :: st) M := by simp [zstep, zF0, zF0_al, zr0, znth, zcont, h]
theorem k_is8 {ph : Bool} {d j nx tg : Nat} {cl : Nat → List zV → zM → zO} {L st : List zV} {M : zM} {l0 l1 l2 l3 l4 l5 l6 : zV} {l : zV} {u v w x n : Int} (h : u ≠ 1) : zcont ph d j (zstep ph cl 5 nx tg [8] (l0 :: l1 :: l2 :: l3 :: l4 :: l5 :: l6 :: (u, v, w) :: l :: L) ((0, x, n) :: st) M) = zEv ph d j nx (l0 :: l1 :: l2 :: l3 :: l4 :: l5 :: l6 :: (u, v, w) :: (0, x, 0) :: L) st M := by simp [zstep, zF0, zF0_is, zF0_as, zF0_ls, zr0, zset, zok, zcont, h]
theorem k_as8 {ph : Bool} {d j nx tg : Nat} {cl : Nat → List zV → zM → zO} {L st : List zV} {M : zM} {l0 l1 l2 l3 l4 l5 l6 : zV} {l : zV} {u v w t x n : Int} (h : u ≠ 1) (h2 : 4 ≤ t) : zcont ph d j (zstep ph cl 7 nx tg [8] (l0 :: l1 :: l2 :: l3 :: l4 :: l5 :: l6 :: (u, v, w) :: l :: L) ((t, x, n) :: st) M) = zEv ph d j nx (l0 :: l1 :: l2 :: l3 :: l4 :: l5 :: l6 :: (u, v, w) :: (t, x, n) :: L) st M := by simp [zstep, zF0, zF0_is, zF0_as, zF0_ls, zr0, zset, zok, zcont, h, h2]
theorem k_ls8 {ph : Bool} {d j nx tg : Nat} {cl : Nat → List zV → zM → zO} {L st : List zV} {M : zM} {l0 l1 l2 l3 l4 l5 l6 : zV} {l l9 : zV} {u v w x n : Int} (h : u ≠ 1) : zcont ph d j (zstep ph cl 6 nx tg [8] (l0 :: l1 :: l2 :: l3 :: l4 :: l5 :: l6 :: (u, v, w) :: l :: l9 :: L) ((1, x, n) :: st) M) = zEv ph d j nx (l0 :: l1 :: l2 :: l3 :: l4 :: l5 :: l6 :: (u, v, w) :: (1, x, 0) :: (3, 0, 0) :: L) st M := by simp [zstep, zF0, zF0_is, zF0_as, zF0_ls, zr0, zset, zok, zcont, h]
theorem k_inc8 {ph : Bool} {d j nx tg : Nat} {cl : Nat → List zV → zM → zO} {L st : List zV} {M : zM} {l0 l1 l2 l3 l4 l5 l6 : zV} {u v w x n c : Int} (h : u ≠ 1) : zcont ph d j (zstep ph cl 8 nx tg [8, c] (l0 :: l1 :: l2 :: l3 :: l4 :: l5 :: l6 :: (u, v, w) :: (0, x, n) :: L) st M) = zEv ph d j nx (l0 :: l1 :: l2 :: l3 :: l4 :: l5 :: l6 :: (u, v, w) :: (0, z32 (x + c), 0) :: L) st M := by simp [zstep, zF0, zF0_inc, zr0, zr1, znth, zset, zok, zcont, h]
theorem k_il9 {ph : Bool} {d j nx tg : Nat} {cl : Nat → List zV → zM → zO} {L st : List zV} {M : zM} {l0 l1 l2 l3 l4 l5 l6 l7 l8 : zV} {x n : Int} : zcont ph d j (zstep ph cl 2 nx tg [9] (l0 :: l1 :: l2 :: l3 :: l4 :: l5 :: l6 :: l7 :: l8 :: (0, x, n) :: L) st M) = zEv ph d j nx (l0 :: l1 :: l2 :: l3 :: l4 :: l5 :: l6 :: l7 :: l8 :: (0, x, n) :: L) ((0, x, 0) :: st) M := rfl
theorem k_ll9 {ph : Bool} {d j nx tg : Nat} {cl : Nat → List zV → zM → zO} {L st : List zV} {M : zM} {l0 l1 l2 l3 l4 l5 l6 l7 l8 : zV} {x n : Int} : zcont ph d j (zstep ph cl 3 nx tg [9] (l0 :: l1 :: l2 :: l3 :: l4 :: l5 :: l6 :: l7 :: l8 :: (1, x, n) :: L) st M) = zEv ph d j nx (l0 :: l1 :: l2 :: l3 :: l4 :: l5 :: l6 :: l7 :: l8 :: (1, x, n) :: L) ((1, x, 0) :: st) M := rfl
theorem k_al9 {ph : Bool} {d j nx tg : Nat} {cl : Nat → List zV → zM → zO} {L st : List zV} {M : zM} {l0 l1 l2 l3 l4 l5 l6 l7 l8 : zV} {t x n : Int} (h : 4 ≤ t) : zcont ph d j (zstep ph cl 4 nx tg [9] (l0 :: l1 :: l2 :: l3 :: l4 :: l5 :: l6 :: l7 :: l8 :: (t, x, n) :: L) st M) = zEv ph d j nx (l0 :: l1 :: l2 :: l3 :: l4 :: l5 :: l6 :: l7 :: l8 :: (t, x, n) :: L) ((t, x, n) :: st) M := by simp [zstep, zF0, zF0_al, zr0, znth, zcont, h]
theorem k_is9 {ph : Bool} {d j nx tg : Nat} {cl : Nat → List zV → zM → zO} {L st : List zV} {M : zM} {l0 l1 l2 l3 l4 l5 l6 l7 : zV} {l : zV} {u v w x n : Int} (h : u ≠ 1) : zcont ph d j (zstep ph cl 5 nx tg [9] (l0 :: l1 :: l2 :: l3 :: l4 :: l5 :: l6 :: l7 :: (u, v, w) :: l :: L) ((0, x, n) :: st) M) = zEv ph d j nx (l0 :: l1 :: l2 :: l3 :: l4 :: l5 :: l6 :: l7 :: (u, v, w) :: (0, x, 0) :: L) st M := by simp [zstep, zF0, zF0_is, zF0_as, zF0_ls, zr0, zset, zok, zcont, h]
theorem k_as9 {ph : Bool} {d j nx tg : Nat} {cl : Nat → List zV → zM → zO} {L st : List zV} {M : zM} {l0 l1 l2 l3 l4 l5 l6 l7 : zV} {l : zV} {u v w t x n : Int} (h : u ≠ 1) (h2 : 4 ≤ t) : zcont ph d j (zstep ph cl 7 nx tg [9] (l0 :: l1 :: l2 :: l3 :: l4 :: l5 :: l6 :: l7 :: (u, v, w) :: l :: L) ((t, x, n) :: st) M) = zEv ph d j nx (l0 :: l1 :: l2 :: l3 :: l4 :: l5 :: l6 :: l7 :: (u, v, w) :: (t, x, n) :: L) st M := by simp [zstep, zF0, zF0_is, zF0_as, zF0_ls, zr0, zset, zok, zcont, h, h2]
theorem k_ls9 {ph : Bool} {d j nx tg : Nat} {cl : Nat → List zV → zM → zO} {L st : List zV} {M : zM} {l0 l1 l2 l3 l4 l5 l6 l7 : zV} {l l9 : zV} {u v w x n : Int} (h : u ≠ 1) : zcont ph d j (zstep ph cl 6 nx tg [9] (l0 :: l1 :: l2 :: l3 :: l4 :: l5 :: l6 :: l7 :: (u, v, w) :: l :: l9 :: L) ((1, x, n) :: st) M) = zEv ph d j nx (l0 :: l1 :: l2 :: l3 :: l4 :: l5 :: l6 :: l7 :: (u, v, w) :: (1, x, 0) :: (3, 0, 0) :: L) st M := by simp [zstep, zF0, zF0_is, zF0_as, zF0_ls, zr0, zset, zok, zcont, h]
theorem k_inc9 {ph : Bool} {d j nx tg : Nat} {cl : Nat → List zV → zM → zO} {L st : List zV} {M : zM} {l0 l1 l2 l3 l4 l5 l6 l7 : zV} {u v w x n c : Int} (h : u ≠ 1) : zcont ph d j (zstep ph cl 8 nx tg [9, c] (l0 :: l1 :: l2 :: l3 :: l4 :: l5 :: l6 :: l7 :: (u, v, w) :: (0, x, n) :: L) st M) = zEv ph d j nx (l0 :: l1 :: l2 :: l3 :: l4 :: l5 :: l6 :: l7 :: (u, v, w) :: (0, z32 (x + c), 0) :: L) st M := by simp [zstep, zF0, zF0_inc, zr0, zr1, znth, zset, zok, zcont, h]
theorem k_il10 {ph : Bool} {d j nx tg : Nat} {cl : Nat → List zV → zM → zO} {L st : List zV} {M : zM} {l0 l1 l2 l3 l4 l5 l6 l7 l8 l9 : zV} {x n : Int} : zcont ph d j (zstep ph cl 2 nx tg [10] (l0 :: l1 :: l2 :: l3 :: l4 :: l5 :: l6 :: l7 :: l8 :: l9 :: (0, x, n) :: L) st M) = zEv ph d j nx (l0 :: l1 :: l2 :: l3 :: l4 :: l5 :: l6 :: l7 :: l8 :: l9 :: (0, x, n) :: L) ((0, x, 0) :: st) M := rfl
theorem k_ll10 {ph : Bool} {d j nx tg : Nat} {cl : Nat → List zV → zM → zO} {L st : List zV} {M : zM} {l0 l1 l2 l3 l4 l5 l6 l7 l8 l9 : zV} {x n : Int} : zcont ph d j (zstep ph cl 3 nx tg [10] (l0 :: l1 :: l2 :: l3 :: l4 :: l5 :: l6 :: l7 :: l8 :: l9 :: (1, x, n) :: L) st M) = zEv ph d j nx (l0 :: l1 :: l2 :: l3 :: l4 :: l5 :: l6 :: l7 :: l8 :: l9 :: (1, x, n) :: L) ((1, x, 0) :: st) M := rfl
theorem k_al10 {ph : Bool} {d j nx tg : Nat} {cl : Nat → List zV → zM → zO} {L st : List zV} {M : zM} {l0 l1 l2 l3 l4 l5 l6 l7 l8 l9 : zV} {t x n : Int} (h : 4 ≤ t) : zcont ph d j (zstep ph cl 4 nx tg [10] (l0 :: l1 :: l2 :: l3 :: l4 :: l5 :: l6 :: l7 :: l8 :: l9 :: (t, x, n) :: L) st M) = zEv ph d j nx (l0 :: l1 :: l2 :: l3 :: l4 :: l5 :: l6 :: l7 :: l8 :: l9 :: (t, x, n) :: L) ((t, x, n) :: st) M := by simp [zstep, zF0, zF0_al, zr0, znth, zcont, h]
theorem k_is10 {ph : Bool} {d j nx tg : Nat} {cl : Nat → List zV → zM → zO} {L st : List zV} {M : zM} {l0 l1 l2 l3 l4 l5 l6 l7 l8 : zV} {l : zV} {u v w x n : Int} (h : u ≠ 1) : zcont ph d j (zstep ph cl 5 nx tg [10] (l0 :: l1 :: l2 :: l3 :: l4 :: l5 :: l6 :: l7 :: l8 :: (u, v, w) :: l :: L) ((0, x, n) :: st) M) = zEv ph d j nx (l0 :: l1 :: l2 :: l3 :: l4 :: l5 :: l6 :: l7 :: l8 :: (u, v, w) :: (0, x, 0) :: L) st M := by simp [zstep, zF0, zF0_is, zF0_as, zF0_ls, zr0, zset, zok, zcont, h]
theorem k_as10 {ph : Bool} {d j nx tg : Nat} {cl : Nat → List zV → zM → zO} {L st : List zV} {M : zM} {l0 l1 l2 l3 l4 l5 l6 l7 l8 : zV} {l : zV} {u v w t x n : Int} (h : u ≠ 1) (h2 : 4 ≤ t) : zcont ph d j (zstep ph cl 7 nx tg [10] (l0 :: l1 :: l2 :: l3 :: l4 :: l5 :: l6 :: l7 :: l8 :: (u, v, w) :: l :: L) ((t, x, n) :: st) M) = zEv ph d j nx (l0 :: l1 :: l2 :: l3 :: l4 :: l5 :: l6 :: l7 :: l8 :: (u, v, w) :: (t, x, n) :: L) st M := by simp [zstep, zF0, zF0_is, zF0_as, zF0_ls, zr0, zset, zok, zcont, h, h2]
theorem k_ls10 {ph : Bool} {d j nx tg : Nat} {cl : Nat → List zV → zM → zO} {L st : List zV} {M : zM} {l0 l1 l2 l3 l4 l5 l6 l7 l8 : zV} {l l9 : zV} {u v w x n : Int} (h : u ≠ 1) : zcont ph d j (zstep ph cl 6 nx tg [10] (l0 :: l1 :: l2 :: l3 :: l4 :: l5 :: l6 :: l7 :: l8 :: (u, v, w) :: l :: l9 :: L) ((1, x, n) :: st) M) = zEv ph d j nx (l0 :: l1 :: l2 :: l3 :: l4 :: l5 :: l6 :: l7 :: l8 :: (u, v, w) :: (1, x, 0) :: (3, 0, 0) :: L) st M := by simp [zstep, zF0, zF0_is, zF0_as, zF0_ls, zr0, zset, zok, zcont, h]
theorem k_inc10 {ph : Bool} {d j nx tg : Nat} {cl : Nat → List zV → zM → zO} {L st : List zV} {M : zM} {l0 l1 l2 l3 l4 l5 l6 l7 l8 : zV} {u v w x n c : Int} (h : u ≠ 1) : zcont ph d j (zstep ph cl 8 nx tg [10, c] (l0 :: l1 :: l2 :: l3 :: l4 :: l5 :: l6 :: l7 :: l8 :: (u, v, w) :: (0, x, n) :: L) st M) = zEv ph d j nx (l0 :: l1 :: l2 :: l3 :: l4 :: l5 :: l6 :: l7 :: l8 :: (u, v, w) :: (0, z32 (x + c), 0) :: L) st M := by simp [zstep, zF0, zF0_inc, zr0, zr1, znth, zset, zok, zcont, h]
theorem k_il11 {ph : Bool} {d j nx tg : Nat} {cl : Nat → List zV → zM → zO} {L st : List zV} {M : zM} {l0 l1 l2 l3 l4 l5 l6 l7 l8 l9 l10 : zV} {x n : Int} : zcont ph d j (zstep ph cl 2 nx tg [11] (l0 :: l1 :: l2 :: l3 :: l4 :: l5 :: l6 :: l7 :: l8 :: l9 :: l10 :: (0, x, n) :: L) st M) = zEv ph d j nx (l0 :: l1 :: l2 :: l3 :: l4 :: l5 :: l6 :: l7 :: l8 :: l9 :: l10 :: (0, x, n) :: L) ((0, x, 0) :: st) M := rfl
theorem k_ll11 {ph : Bool} {d j nx tg : Nat} {cl : Nat → List zV → zM → zO} {L st : List zV} {M : zM} {l0 l1 l2 l3 l4 l5 l6 l7 l8 l9 l10 : zV} {x n : Int} : zcont ph d j (zstep ph cl 3 nx tg [11] (l0 :: l1 :: l2 :: l3 :: l4 :: l5 :: l6 :: l7 :: l8 :: l9 :: l10 :: (1, x, n) :: L) st M) = zEv ph d j nx (l0 :: l1 :: l2 :: l3 :: l4 :: l5 :: l6 :: l7 :: l8 :: l9 :: l10 :: (1, x, n) :: L) ((1, x, 0) :: st) M := rfl
theorem k_al11 {ph : Bool} {d j nx tg : Nat} {cl : Nat → List zV → zM → zO} {L st : List zV} {M : zM} {l0 l1 l2 l3 l4 l5 l6 l7 l8 l9 l10 : zV} {t x n : Int} (h : 4 ≤ t) : zcont ph d j (zstep ph cl 4 nx tg [11] (l0 :: l1 :: l2 :: l3 :: l4 :: l5 :: l6 :: l7 :: l8 :: l9 :: l10 :: (t, x, n) :: L) st M) = zEv ph d j nx (l0 :: l1 :: l2 :: l3 :: l4 :: l5 :: l6 :: l7 :: l8 :: l9 :: l10 :: (t, x, n) :: L) ((t, x, n) :: st) M := by simp [zstep, zF0, zF0_al, zr0, znth, zcont, h]
theorem k_is11 {ph : Bool} {d j nx tg : Nat} {cl : Nat → List zV → zM → zO} {L st : List zV} {M : zM} {l0 l1 l2 l3 l4 l5 l6 l7 l8 l9 : zV} {l : zV} {u v w x n : Int} (h : u ≠ 1) : zcont ph d j (zstep ph cl 5 nx tg [11] (l0 :: l1 :: l2 :: l3 :: l4 :: l5 :: l6 :: l7 :: l8 :: l9 :: (u, v, w) :: l :: L) ((0, x, n) :: st) M) = zEv ph d j nx (l0 :: l1 :: l2 :: l3 :: l4 :: l5 :: l6 :: l7 :: l8 :: l9 :: (u, v, w) :: (0, x, 0) :: L) st M := by simp [zstep, zF0, zF0_is, zF0_as, zF0_ls, zr0, zset, zok, zcont, h]
theorem k_as11 {ph : Bool} {d j nx tg : Nat} {cl : Nat → List zV → zM → zO} {L st : List zV} {M : zM} {l0 l1 l2 l3 l4 l5 l6 l7 l8 l9 : zV} {l : zV} {u v w t x n : Int} (h : u ≠ 1) (h2 : 4 ≤ t) : zcont ph d j (zstep ph cl 7 nx tg [11] (l0 :: l1 :: l2 :: l3 :: l4 :: l5 :: l6 :: l7 :: l8 :: l9 :: (u, v, w) :: l :: L) ((t, x, n) :: st) M) = zEv ph d j nx (l0 :: l1 :: l2 :: l3 :: l4 :: l5 :: l6 :: l7 :: l8 :: l9 :: (u, v, w) :: (t, x, n) :: L) st M := by simp [zstep, zF0, zF0_is, zF0_as, zF0_ls, zr0, zset, zok, zcont, h, h2]
theorem k_ls11 {ph : Bool} {d j nx tg : Nat} {cl : Nat → List zV → zM → zO} {L st : List zV} {M : zM} {l0 l1 l2 l3 l4 l5 l6 l7 l8 l9 : zV} {l l9 : zV} {u v w x n : Int} (h : u ≠ 1) : zcont ph d j (zstep ph cl 6 nx tg [11] (l0 :: l1 :: l2 :: l3 :: l4 :: l5 :: l6 :: l7 :: l8 :: l9 :: (u, v, w) :: l :: l9 :: L) ((1, x, n) :: st) M) = zEv ph d j nx (l0 :: l1 :: l2 :: l3 :: l4 :: l5 :: l6 :: l7 :: l8 :: l9 :: (u, v, w) :: (1, x, 0) :: (3, 0, 0) :: L) st M := by simp [zstep, zF0, zF0_is, zF0_as, zF0_ls, zr0, zset, zok, zcont, h]
theorem k_inc11 {ph : Bool} {d j nx tg : Nat} {cl : Nat → List zV → zM → zO} {L st : List zV} {M : zM} {l0 l1 l2 l3 l4 l5 l6 l7 l8 l9 : zV} {u v w x n c : Int} (h : u ≠ 1) : zcont ph d j (zstep ph cl 8 nx tg [11, c] (l0 :: l1 :: l2 :: l3 :: l4 :: l5 :: l6 :: l7 :: l8 :: l9 :: (u, v, w) :: (0, x, n) :: L) st M) = zEv ph d j nx (l0 :: l1 :: l2 :: l3 :: l4 :: l5 :: l6 :: l7 :: l8 :: l9 :: (u, v, w) :: (0, z32 (x + c), 0) :: L) st M := by simp [zstep, zF0, zF0_inc, zr0, zr1, znth, zset, zok, zcont, h]
theorem k_il12 {ph : Bool} {d j nx tg : Nat} {cl : Nat → List zV → zM → zO} {L st : List zV} {M : zM} {l0 l1 l2 l3 l4 l5 l6 l7 l8 l9 l10 l11 : zV} {x n : Int} : zcont ph d j (zstep ph cl 2 nx tg [12] (l0 :: l1 :: l2 :: l3 :: l4 :: l5 :: l6 :: l7 :: l8 :: l9 :: l10 :: l11 :: (0, x, n) :: L) st M) = zEv ph d j nx (l0 :: l1 :: l2 :: l3 :: l4 :: l5 :: l6 :: l7 :: l8 :: l9 :: l10 :: l11 :: (0, x, n) :: L) ((0, x, 0) :: st) M := rfl
theorem k_ll12 {ph : Bool} {d j nx tg : Nat} {cl : Nat → List zV → zM → zO} {L st : List zV} {M : zM} {l0 l1 l2 l3 l4 l5 l6 l7 l8 l9 l10 l11 : zV} {x n : Int} : zcont ph d j (zstep ph cl 3 nx tg [12] (l0 :: l1 :: l2 :: l3 :: l4 :: l5 :: l6 :: l7 :: l8 :: l9 :: l10 :: l11 :: (1, x, n) :: L) st M) = zEv ph d j nx (l0 :: l1 :: l2 :: l3 :: l4 :: l5 :: l6 :: l7 :: l8 :: l9 :: l10 :: l11 :: (1, x, n) :: L) ((1, x, 0) :: st) M := rfl
theorem k_al12 {ph : Bool} {d j nx tg : Nat} {cl : Nat → List zV → zM → zO} {L st : List zV} {M : zM} {l0 l1 l2 l3 l4 l5 l6 l7 l8 l9 l10 l11 : zV} {t x n : Int} (h : 4 ≤ t) : zcont ph d j (zstep ph cl 4 nx tg [12] (l0 :: l1 :: l2 :: l3 :: l4 :: l5 :: l6 :: l7 :: l8 :: l9 :: l10 :: l11 :: (t, x, n) :: L) st M) = zEv ph d j nx (l0 :: l1 :: l2 :: l3 :: l4 :: l5 :: l6 :: l7 :: l8 :: l9 :: l10 :: l11 :: (t, x, n) :: L) ((t, x, n) :: st) M := by simp [zstep, zF0, zF0_al, zr0, znth, zcont, h]
theorem k_is12 {ph : Bool} {d j nx tg : Nat} {cl : Nat → List zV → zM → zO} {L st : List zV} {M : zM} {l0 l1 l2 l3 l4 l5 l6 l7 l8 l9 l10 : zV} {l : zV} {u v w x n : Int} (h : u ≠ 1) : zcont ph d j (zstep ph cl 5 nx tg [12] (l0 :: l1 :: l2 :: l3 :: l4 :: l5 :: l6 :: l7 :: l8 :: l9 :: l10 :: (u, v, w) :: l :: L) ((0, x, n) :: st) M) = zEv ph d j nx (l0 :: l1 :: l2 :: l3 :: l4 :: l5 :: l6 :: l7 :: l8 :: l9 :: l10 :: (u, v, w) :: (0, x, 0) :: L) st M := by simp [zstep, zF0, zF0_is, zF0_as, zF0_ls, zr0, zset, zok, zcont, h]
theorem k_as12 {ph : Bool} {d j nx tg : Nat} {cl : Nat → List zV → zM → zO} {L st : List zV} {M : zM} {l0 l1 l2 l3 l4 l5 l6 l7 l8 l9 l10 : zV} {l : zV} {u v w t x n : Int} (h : u ≠ 1) (h2 : 4 ≤ t) : zcont ph d j (zstep ph cl 7 nx tg [12] (l0 :: l1 :: l2 :: l3 :: l4 :: l5 :: l6 :: l7 :: l8 :: l9 :: l10 :: (u, v, w) :: l :: L) ((t, x, n) :: st) M) = zEv ph d j nx (l0 :: l1 :: l2 :: l3 :: l4 :: l5 :: l6 :: l7 :: l8 :: l9 :: l10 :: (u, v, w) :: (t, x, n) :: L) st M := by simp [zstep, zF0, zF0_is, zF0_as, zF0_ls, zr0, zset, zok, zcont, h, h2]
theorem k_ls12 {ph : Bool} {d j nx tg : Nat} {cl : Nat → List zV → zM → zO} {L st : List zV} {M : zM} {l0 l1 l2 l3 l4 l5 l6 l7 l8 l9 l10 : zV} {l l9 : zV} {u v w x n : Int} (h : u ≠ 1) : zcont ph d j (zstep ph cl 6 nx tg [12] (l0 :: l1 :: l2 :: l3 :: l4 :: l5 :: l6 :: l7 :: l8 :: l9 :: l10 :: (u, v, w) :: l :: l9 :: L) ((1, x, n) :: st) M) = zEv ph d j nx (l0 :: l1 :: l2 :: l3 :: l4 :: l5 :: l6 :: l7 :: l8 :: l9 :: l10 :: (u, v, w) :: (1, x, 0) :: (3, 0, 0) :: L) st M := by simp [zstep, zF0, zF0_is, zF0_as, zF0_ls, zr0, zset, zok, zcont, h]
theorem k_inc12 {ph : Bool} {d j nx tg : Nat} {cl : Nat → List zV → zM → zO} {L st : List zV} {M : zM} {l0 l1 l2 l3 l4 l5 l6 l7 l8 l9 l10 : zV} {u v w x n c : Int} (h : u ≠ 1) : zcont ph d j (zstep ph cl 8 nx tg [12, c] (l0 :: l1 :: l2 :: l3 :: l4 :: l5 :: l6 :: l7 :: l8 :: l9 :: l10 :: (u, v, w) :: (0, x, n) :: L) st M) = zEv ph d j nx (l0 :: l1 :: l2 :: l3 :: l4 :: l5 :: l6 :: l7 :: l8 :: l9 :: l10 :: (u, v, w) :: (0, z32 (x + c), 0) :: L) st M := by simp [zstep, zF0, zF0_inc, zr0, zr1, znth, zset, zok, zcont, h]
theorem k_il13 {ph : Bool} {d j nx tg : Nat} {cl : Nat → List zV → zM → zO} {L st : List zV} {M : zM} {l0 l1 l2 l3 l4 l5 l6 l7 l8 l9 l10 l11 l12 : zV} {x n : Int} : zcont ph d j (zstep ph cl 2 nx tg [13] (l0 :: l1 :: l2 :: l3 :: l4 :: l5 :: l6 :: l7 :: l8 :: l9 :: l10 :: l11 :: l12 :: (0, x, n) :: L) st M) = zEv ph d j nx (l0 :: l1 :: l2 :: l3 :: l4 :: l5 :: l6 :: l7 :: l8 :: l9 :: l10 :: l11 :: l12 :: (0, x, n) :: L) ((0, x, 0) :: st) M := rfl
theorem k_ll13 {ph : Bool} {d j nx tg : Nat} {cl : Nat → List zV → zM → zO} {L st : List zV} {M : zM} {l0 l1 l2 l3 l4 l5 l6 l7 l8 l9 l10 l11 l12 : zV} {x n : Int} : zcont ph d j (zstep ph cl 3 nx tg [13] (l0 :: l1 :: l2 :: l3 :: l4 :: l5 :: l6 :: l7 :: l8 :: l9 :: l10 :: l11 :: l12 :: (1, x, n) :: L) st M) = zEv ph d j nx (l0 :: l1 :: l2 :: l3 :: l4 :: l5 :: l6 :: l7 :: l8 :: l9 :: l10 :: l11 :: l12 :: (1, x, n) :: L) ((1, x, 0) :: st) M := rfl
theorem k_al13 {ph : Bool} {d j nx tg : Nat} {cl : Nat → List zV → zM → zO} {L st : List zV} {M : zM} {l0 l1 l2 l3 l4 l5 l6 l7 l8 l9 l10 l11 l12 : zV} {t x n : Int} (h : 4 ≤ t) : zcont ph d j (zstep ph cl 4 nx tg [13] (l0 :: l1 :: l2 :: l3 :: l4 :: l5 :: l6 :: l7 :: l8 :: l9 :: l10 :: l11 :: l12 :: (t, x, n) :: L) st M) = zEv ph d j nx (l0 :: l1 :: l2 :: l3 :: l4 :: l5 :: l6 :: l7 :: l8 :: l9 :: l10 :: l11 :: l12 :: (t, x, n) :: L) ((t, x, n) :: st) M := by simp [zstep, zF0, zF0_al, zr0, znth, zcont, h]
theorem k_is13 {ph : Bool} {d j nx tg : Nat} {cl : Nat → List zV → zM → zO} {L st : List zV} {M : zM} {l0 l1 l2 l3 l4 l5 l6 l7 l8 l9 l10 l11 : zV} {l : zV} {u v w x n : Int} (h : u ≠ 1) : zcont ph d j (zstep ph cl 5 nx tg [13] (l0 :: l1 :: l2 :: l3 :: l4 :: l5 :: l6 :: l7 :: l8 :: l9 :: l10 :: l11 :: (u, v, w) :: l :: L) ((0, x, n) :: st) M) = zEv ph d j nx (l0 :: l1 :: l2 :: l3 :: l4 :: l5 :: l6 :: l7 :: l8 :: l9 :: l10 :: l11 :: (u, v, w) :: (0, x, 0) :: L) st M := by simp [zstep, zF0, zF0_is, zF0_as, zF0_ls, zr0, zset, zok, zcont, h]
theorem k_as13 {ph : Bool} {d j nx tg : Nat} {cl : Nat → List zV → zM → zO} {L st : List zV} {M : zM} {l0 l1 l2 l3 l4 l5 l6 l7 l8 l9 l10 l11 : zV} {l : zV} {u v w t x n : Int} (h : u ≠ 1) (h2 : 4 ≤ t) : zcont ph d j (zstep ph cl 7 nx tg [13] (l0 :: l1 :: l2 :: l3 :: l4 :: l5 :: l6 :: l7 :: l8 :: l9 :: l10 :: l11 :: (u, v, w) :: l :: L) ((t, x, n) :: st) M) = zEv ph d j nx (l0 :: l1 :: l2 :: l3 :: l4 :: l5 :: l6 :: l7 :: l8 :: l9 :: l10 :: l11 :: (u, v, w) :: (t, x, n) :: L) st M := by simp [zstep, zF0, zF0_is, zF0_as, zF0_ls, zr0, zset, zok, zcont, h, h2]
theorem k_ls13 {ph : Bool} {d j nx tg : Nat} {cl : Nat → List zV → zM → zO} {L st : List zV} {M : zM} {l0 l1 l2 l3 l4 l5 l6 l7 l8 l9 l10 l11 : zV} {l l9 : zV} {u v w x n : Int} (h : u ≠ 1) : zcont ph d j (zstep ph cl 6 nx tg [13] (l0 :: l1 :: l2 :: l3 :: l4 :: l5 :: l6 :: l7 :: l8 :: l9 :: l10 :: l11 :: (u, v, w) :: l :: l9 :: L) ((1, x, n) :: st) M) = zEv ph d j nx (l0 :: l1 :: l2 :: l3 :: l4 :: l5 :: l6 :: l7 :: l8 :: l9 :: l10 :: l11 :: (u, v, w) :: (1, x, 0) :: (3, 0, 0) :: L) st M := by simp [zstep, zF0, zF0_is, zF0_as, zF0_ls, zr0, zset, zok, zcont, h]
theorem k_inc13 {ph : Bool} {d j nx tg : Nat} {cl : Nat → List zV → zM → zO} {L st : List zV} {M : zM} {l0 l1 l2 l3 l4 l5 l6 l7 l8 l9 l10 l11 : zV} {u v w x n c : Int} (h : u ≠ 1) : zcont ph d j (zstep ph cl 8 nx tg [13, c] (l0 :: l1 :: l2 :: l3 :: l4 :: l5 :: l6 :: l7 :: l8 :: l9 :: l10 :: l11 :: (u, v, w) :: (0, x, n) :: L) st M) = zEv ph d j nx (l0 :: l1 :: l2 :: l3 :: l4 :: l5 :: l6 :: l7 :: l8 :: l9 :: l10 :: l11 :: (u, v, w) :: (0, z32 (x + c), 0) :: L) st M := by simp [zstep, zF0, zF0_inc, zr0, zr1, znth, zset, zok, zcont, h]
theorem k_iadd {ph : Bool} {d j nx tg : Nat} {cl : Nat → List zV → zM → zO} {L st : List zV} {M : zM} {r : List Int} {a b x y : Int} : zcont ph d j (zstep ph cl 10 nx tg r L ((0, b, x) :: (0, a, y) :: st) M) = zEv ph d j nx L ((0, z32 (a + b), 0) :: st) M := rfl
theorem k_isub {ph : Bool} {d j nx tg : Nat} {cl : Nat → List zV → zM → zO} {L st : List zV} {M : zM} {r : List Int} {a b x y : Int} : zcont ph d j (zstep ph cl 11 nx tg r L ((0, b, x) :: (0, a, y) :: st) M) = zEv ph d j nx L ((0, z32 (a - b), 0) :: st) M := rfl
theorem k_imul {ph : Bool} {d j nx tg : Nat} {cl : Nat → List zV → zM → zO} {L st : List zV} {M : zM} {r : List Int} {a b x y : Int} : zcont ph d j (zstep ph cl 12 nx tg r L ((0, b, x) :: (0, a, y) :: st) M) = zEv ph d j nx L ((0, z32 (a * b), 0) :: st) M := rfl
theorem k_iand {ph : Bool} {d j nx tg : Nat} {cl : Nat → List zV → zM → zO} {L st : List zV} {M : zM} {r : List Int} {a b x y : Int} : zcont ph d j (zstep ph cl 16 nx tg r L ((0, b, x) :: (0, a, y) :: st) M) = zEv ph d j nx L ((0, zand a b, 0) :: st) M := rfl
theorem k_ior {ph : Bool} {d j nx tg : Nat} {cl : Nat → List zV → zM → zO} {L st : List zV} {M : zM} {r : List Int} {a b x y : Int} : zcont ph d j (zstep ph cl 17 nx tg r L ((0, b, x) :: (0, a, y) :: st) M) = zEv ph d j nx L ((0, zor a b, 0) :: st) M := rfl
theorem k_ixor {ph : Bool} {d j nx tg : Nat} {cl : Nat → List zV → zM → zO} {L st : List zV} {M : zM} {r : List Int} {a b x y : Int} : zcont ph d j (zstep ph cl 18 nx tg r L ((0, b, x) :: (0, a, y) :: st) M) = zEv ph d j nx L ((0, zxor a b, 0) :: st) M := rfl
theorem k_ishl {ph : Bool} {d j nx tg : Nat} {cl : Nat → List zV → zM → zO} {L st : List zV} {M : zM} {r : List Int} {a b x y : Int} : zcont ph d j (zstep ph cl 19 nx tg r L ((0, b, x) :: (0, a, y) :: st) M) = zEv ph d j nx L ((0, zshl a b, 0) :: st) M := rfl
theorem k_ishr {ph : Bool} {d j nx tg : Nat} {cl : Nat → List zV → zM → zO} {L st : List zV} {M : zM} {r : List Int} {a b x y : Int} : zcont ph d j (zstep ph cl 20 nx tg r L ((0, b, x) :: (0, a, y) :: st) M) = zEv ph d j nx L ((0, zshr a b, 0) :: st) M := rfl
theorem k_iushr {ph : Bool} {d j nx tg : Nat} {cl : Nat → List zV → zM → zO} {L st : List zV} {M : zM} {r : List Int} {a b x y : Int} : zcont ph d j (zstep ph cl 21 nx tg r L ((0, b, x) :: (0, a, y) :: st) M) = zEv ph d j nx L ((0, zush a b, 0) :: st) M := rfl
theorem k_idiv {ph : Bool} {d j nx tg : Nat} {cl : Nat → List zV → zM → zO} {L st : List zV} {M : zM} {r : List Int} {a b x y : Int} (h : b ≠ 0) : zcont ph d j (zstep ph cl 13 nx tg r L ((0, b, x) :: (0, a, y) :: st) M) = zEv ph d j nx L ((0, z32 (Int.tdiv a b), 0) :: st) M := by simp [zstep, zF1, zF1_2, zF1_l, zF1_d, zF1_dd, zi2, zl2, zcont, h]
theorem k_irem {ph : Bool} {d j nx tg : Nat} {cl : Nat → List zV → zM → zO} {L st : List zV} {M : zM} {r : List Int} {a b x y : Int} (h : b ≠ 0) : zcont ph d j (zstep ph cl 14 nx tg r L ((0, b, x) :: (0, a, y) :: st) M) = zEv ph d j nx L ((0, zrem a b, 0) :: st) M := by simp [zstep, zF1, zF1_2, zF1_l, zF1_d, zF1_dd, zi2, zl2, zcont, h]
theorem k_ineg {ph : Bool} {d j nx tg : Nat} {cl : Nat → List zV → zM → zO} {L st : List zV} {M : zM} {r : List Int} {a x : Int} : zcont ph d j (zstep ph cl 15 nx tg r L ((0, a, x) :: st) M) = zEv ph d j nx L ((0, z32 (-a), 0) :: st) M := rfl
theorem k_ladd {ph : Bool} {d j nx tg : Nat} {cl : Nat → List zV → zM → zO} {L st : List zV} {M : zM} {r : List Int} {a b x y : Int} : zcont ph d j (zstep ph cl 22 nx tg r L ((1, b, x) :: (1, a, y) :: st) M) = zEv ph d j nx L ((1, z64 (a + b), 0) :: st) M := rfl
theorem k_lsub {ph : Bool} {d j nx tg : Nat} {cl : Nat → List zV → zM → zO} {L st : List zV} {M : zM} {r : List Int} {a b x y : Int} : zcont ph d j (zstep ph cl 23 nx tg r L ((1, b, x) :: (1, a, y) :: st) M) = zEv ph d j nx L ((1, z64 (a - b), 0) :: st) M := rfl
theorem k_lmul {ph : Bool} {d j nx tg : Nat} {cl : Nat → List zV → zM → zO} {L st : List zV} {M : zM} {r : List Int} {a b x y : Int} : zcont ph d j (zstep ph cl 24 nx tg r L ((1, b, x) :: (1, a, y) :: st) M) = zEv ph d j nx L ((1, z64 (a * b), 0) :: st) M := rfl
theorem k_land {ph : Bool} {d j nx tg : Nat} {cl : Nat → List zV → zM → zO} {L st : List zV} {M : zM} {r : List Int} {a b x y : Int} : zcont ph d j (zstep ph cl 32 nx tg r L ((1, b, x) :: (1, a, y) :: st) M) = zEv ph d j nx L ((1, zlan a b, 0) :: st) M := rfl
theorem k_lor {ph : Bool} {d j nx tg : Nat} {cl : Nat → List zV → zM → zO} {L st : List zV} {M : zM} {r : List Int} {a b x y : Int} : zcont ph d j (zstep ph cl 33 nx tg r L ((1, b, x) :: (1, a, y) :: st) M) = zEv ph d j nx L ((1, zlor a b, 0) :: st) M := rfl
theorem k_ldiv {ph : Bool} {d j nx tg : Nat} {cl : Nat → List zV → zM → zO} {L st : List zV} {M : zM} {r : List Int} {a b x y : Int} (h : b ≠ 0) : zcont ph d j (zstep ph cl 25 nx tg r L ((1, b, x) :: (1, a, y) :: st) M) = zEv ph d j nx L ((1, z64 (Int.tdiv a b), 0) :: st) M := by simp [zstep, zF1, zF1_2, zF1_l, zF1_d, zF1_dd, zi2, zl2, zcont, h]
theorem k_lrem {ph : Bool} {d j nx tg : Nat} {cl : Nat → List zV → zM → zO} {L st : List zV} {M : zM} {r : List Int} {a b x y : Int} (h : b ≠ 0) : zcont ph d j (zstep ph cl 26 nx tg r L ((1, b, x) :: (1, a, y) :: st) M) = zEv ph d j nx L ((1, zlrem a b, 0) :: st) M := by simp [zstep, zF1, zF1_2, zF1_l, zF1_d, zF1_dd, zi2, zl2, zcont, h]
theorem k_lcmp {ph : Bool} {d j nx tg : Nat} {cl : Nat → List zV → zM → zO} {L st : List zV} {M : zM} {r : List Int} {a b x y : Int} : zcont ph d j (zstep ph cl 27 nx tg r L ((1, b, x) :: (1, a, y) :: st) M) = zEv ph d j nx L ((0, zcmp a b, 0) :: st) M := rfl
theorem k_i2l {ph : Bool} {d j nx tg : Nat} {cl : Nat → List zV → zM → zO} {L st : List zV} {M : zM} {r : List Int} {a x : Int} : zcont ph d j (zstep ph cl 28 nx tg r L ((0, a, x) :: st) M) = zEv ph d j nx L ((1, a, 0) :: st) M := rfl
theorem k_l2i {ph : Bool} {d j nx tg : Nat} {cl : Nat → List zV → zM → zO} {L st : List zV} {M : zM} {r : List Int} {a x : Int} : zcont ph d j (zstep ph cl 29 nx tg r L ((1, a, x) :: st) M) = zEv ph d j nx L ((0, z32 a, 0) :: st) M := rfl
theorem k_i2c {ph : Bool} {d j nx tg : Nat} {cl : Nat → List zV → zM → zO} {L st : List zV} {M : zM} {r : List Int} {a x : Int} : zcont ph d j (zstep ph cl 30 nx tg r L ((0, a, x) :: st) M) = zEv ph d j nx L ((0, zc16 a, 0) :: st) M := rfl
theorem k_i2b {ph : Bool} {d j nx tg : Nat} {cl : Nat → List zV → zM → zO} {L st : List zV} {M : zM} {r : List Int} {a x : Int} : zcont ph d j (zstep ph cl 31 nx tg r L ((0, a, x) :: st) M) = zEv ph d j nx L ((0, zb8 a, 0) :: st) M := rfl
theorem k_lshl {ph : Bool} {d j nx tg : Nat} {cl : Nat → List zV → zM → zO} {L st : List zV} {M : zM} {r : List Int} {a b x y : Int} : zcont ph d j (zstep ph cl 34 nx tg r L ((0, b, x) :: (1, a, y) :: st) M) = zEv ph d j nx L ((1, zlsl a b, 0) :: st) M := rfl
theorem k_lushr {ph : Bool} {d j nx tg : Nat} {cl : Nat → List zV → zM → zO} {L st : List zV} {M : zM} {r : List Int} {a b x y : Int} : zcont ph d j (zstep ph cl 35 nx tg r L ((0, b, x) :: (1, a, y) :: st) M) = zEv ph d j nx L ((1, zlus a b, 0) :: st) M := rfl
theorem k_dup {ph : Bool} {d j nx tg : Nat} {cl : Nat → List zV → zM → zO} {L st : List zV} {M : zM} {r : List Int} {t a n : Int} (h : t ≠ 1) : zcont ph d j (zstep ph cl 36 nx tg r L ((t, a, n) :: st) M) = zEv ph d j nx L ((t, a, n) :: (t, a, n) :: st) M := by simp [zstep, zF1, zF1_2, zF1_l, zF1_d, zF1_dd, zi2, zl2, zcont, h]
theorem k_dup2 {ph : Bool} {d j nx tg : Nat} {cl : Nat → List zV → zM → zO} {L st : List zV} {M : zM} {r : List Int} {t a n u b k : Int} (h : t ≠ 1) (h2 : u ≠ 1) : zcont ph d j (zstep ph cl 37 nx tg r L ((t, a, n) :: (u, b, k) :: st) M) = zEv ph d j nx L ((t, a, n) :: (u, b, k) :: (t, a, n) :: (u, b, k) :: st) M := by simp [zstep, zF1, zF1_2, zF1_l, zF1_d, zF1_dd, zi2, zl2, zcont, h, h2]
theorem k_dupx {ph : Bool} {d j nx tg : Nat} {cl : Nat → List zV → zM → zO} {L st : List zV} {M : zM} {r : List Int} {t a n u b k : Int} (h : t ≠ 1) (h2 : u ≠ 1) : zcont ph d j (zstep ph cl 39 nx tg r L ((t, a, n) :: (u, b, k) :: st) M) = zEv ph d j nx L ((t, a, n) :: (u, b, k) :: (t, a, n) :: st) M := by simp [zstep, zF1, zF1_2, zF1_l, zF1_d, zF1_dd, zi2, zl2, zcont, h, h2]
theorem k_pop {ph : Bool} {d j nx tg : Nat} {cl : Nat → List zV → zM → zO} {L st : List zV} {M : zM} {r : List Int} {t a n : Int} (h : t ≠ 1) : zcont ph d j (zstep ph cl 38 nx tg r L ((t, a, n) :: st) M) = zEv ph d j nx L st M := by simp [zstep, zF1, zF1_2, zF1_l, zF1_d, zF1_dd, zi2, zl2, zcont, h]
theorem k_ifeq {ph : Bool} {d j nx tg : Nat} {cl : Nat → List zV → zM → zO} {L st : List zV} {M : zM} {r : List Int} {a x : Int} : zcont ph d j (zstep ph cl 40 nx tg r L ((0, a, x) :: st) M) = dite (a = 0) (fun _ => zEv ph d j tg L st M) (fun _ => zEv ph d j nx L st M) := by by_cases h : a = 0 <;> simp [zstep, zF2, zF2_1, zF2_2, zcond, zcont, h]
theorem k_ifne {ph : Bool} {d j nx tg : Nat} {cl : Nat → List zV → zM → zO} {L st : List zV} {M : zM} {r : List Int} {a x : Int} : zcont ph d j (zstep ph cl 41 nx tg r L ((0, a, x) :: st) M) = dite (a ≠ 0) (fun _ => zEv ph d j tg L st M) (fun _ => zEv ph d j nx L st M) := by by_cases h : a ≠ 0 <;> simp [zstep, zF2, zF2_1, zF2_2, zcond, zcont, h]
theorem k_iflt {ph : Bool} {d j nx tg : Nat} {cl : Nat → List zV → zM → zO} {L st : List zV} {M : zM} {r : List Int} {a x : Int} : zcont ph d j (zstep ph cl 42 nx tg r L ((0, a, x) :: st) M) = dite (a < 0) (fun _ => zEv ph d j tg L st M) (fun _ => zEv ph d j nx L st M) := by by_cases h : a < 0 <;> simp [zstep, zF2, zF2_1, zF2_2, zcond, zcont, h]
theorem k_ifge {ph : Bool} {d j nx tg : Nat} {cl : Nat → List zV → zM → zO} {L st : List zV} {M : zM} {r : List Int} {a x : Int} : zcont ph d j (zstep ph cl 43 nx tg r L ((0, a, x) :: st) M) = dite (0 ≤ a) (fun _ => zEv ph d j tg L st M) (fun _ => zEv ph d j nx L st M) := by by_cases h : 0 ≤ a <;> simp [zstep, zF2, zF2_1, zF2_2, zcond, zcont, h]
theorem k_ifgt {ph : Bool} {d j nx tg : Nat} {cl : Nat → List zV → zM → zO} {L st : List zV} {M : zM} {r : List Int} {a x : Int} : zcont ph d j (zstep ph cl 44 nx tg r L ((0, a, x) :: st) M) = dite (0 < a) (fun _ => zEv ph d j tg L st M) (fun _ => zEv ph d j nx L st M) := by by_cases h : 0 < a <;> simp [zstep, zF2, zF2_1, zF2_2, zcond, zcont, h]
theorem k_ifle {ph : Bool} {d j nx tg : Nat} {cl : Nat → List zV → zM → zO} {L st : List zV} {M : zM} {r : List Int} {a x : Int} : zcont ph d j (zstep ph cl 45 nx tg r L ((0, a, x) :: st) M) = dite (a ≤ 0) (fun _ => zEv ph d j tg L st M) (fun _ => zEv ph d j nx L st M) := by by_cases h : a ≤ 0 <;> simp [zstep, zF2, zF2_1, zF2_2, zcond, zcont, h]
theorem k_iceq {ph : Bool} {d j nx tg : Nat} {cl : Nat → List zV → zM → zO} {L st : List zV} {M : zM} {r : List Int} {a b x y : Int} : zcont ph d j (zstep ph cl 46 nx tg r L ((0, b, y) :: (0, a, x) :: st) M) = dite (a = b) (fun _ => zEv ph d j tg L st M) (fun _ => zEv ph d j nx L st M) := by by_cases h : a = b <;> simp [zstep, zF2, zF2_1, zF2_2, zcond, zcont, h]
theorem k_icne {ph : Bool} {d j nx tg : Nat} {cl : Nat → List zV → zM → zO} {L st : List zV} {M : zM} {r : List Int} {a b x y : Int} : zcont ph d j (zstep ph cl 47 nx tg r L ((0, b, y) :: (0, a, x) :: st) M) = dite (a ≠ b) (fun _ => zEv ph d j tg L st M) (fun _ => zEv ph d j nx L st M) := by by_cases h : a ≠ b <;> simp [zstep, zF2, zF2_1, zF2_2, zcond, zcont, h]
theorem k_iclt {ph : Bool} {d j nx tg : Nat} {cl : Nat → List zV → zM → zO} {L st : List zV} {M : zM} {r : List Int} {a b x y : Int} : zcont ph d j (zstep ph cl 48 nx tg r L ((0, b, y) :: (0, a, x) :: st) M) = dite (a < b) (fun _ => zEv ph d j tg L st M) (fun _ => zEv ph d j nx L st M) := by by_cases h : a < b <;> simp [zstep, zF2, zF2_1, zF2_2, zcond, zcont, h]
theorem k_icge {ph : Bool} {d j nx tg : Nat} {cl : Nat → List zV → zM → zO} {L st : List zV} {M : zM} {r : List Int} {a b x y : Int} : zcont ph d j (zstep ph cl 49 nx tg r L ((0, b, y) :: (0, a, x) :: st) M) = dite (b ≤ a) (fun _ => zEv ph d j tg L st M) (fun _ => zEv ph d j nx L st M) := by by_cases h : b ≤ a <;> simp [zstep, zF2, zF2_1, zF2_2, zcond, zcont, h]
theorem k_icgt {ph : Bool} {d j nx tg : Nat} {cl : Nat → List zV → zM → zO} {L st : List zV} {M : zM} {r : List Int} {a b x y : Int} : zcont ph d j (zstep ph cl 50 nx tg r L ((0, b, y) :: (0, a, x) :: st) M) = dite (b < a) (fun _ => zEv ph d j tg L st M) (fun _ => zEv ph d j nx L st M) := by by_cases h : b < a <;> simp [zstep, zF2, zF2_1, zF2_2, zcond, zcont, h]
theorem k_icle {ph : Bool} {d j nx tg : Nat} {cl : Nat → List zV → zM → zO} {L st : List zV} {M : zM} {r : List Int} {a b x y : Int} : zcont ph d j (zstep ph cl 51 nx tg r L ((0, b, y) :: (0, a, x) :: st) M) = dite (a ≤ b) (fun _ => zEv ph d j tg L st M) (fun _ => zEv ph d j nx L st M) := by by_cases h : a ≤ b <;> simp [zstep, zF2, zF2_1, zF2_2, zcond, zcont, h]
theorem k_goto {ph : Bool} {d j nx tg : Nat} {cl : Nat → List zV → zM → zO} {L st : List zV} {M : zM} {r : List Int} : zcont ph d j (zstep ph cl 52 nx tg r L st M) = zEv ph d j tg L st M := rfl
theorem k_aceq {ph : Bool} {d j nx tg : Nat} {cl : Nat → List zV → zM → zO} {L st : List zV} {M : zM} {r : List Int} {a b x y : Int} : zcont ph d j (zstep ph cl 53 nx tg r L ((4, b, y) :: (4, a, x) :: st) M) = dite (a = b) (fun _ => zEv ph d j tg L st M) (fun _ => zEv ph d j nx L st M) := by by_cases h : a = b <;> simp [zstep, zF2, zF2_e, zF2_n, zcond, zcont, h]
theorem k_acne {ph : Bool} {d j nx tg : Nat} {cl : Nat → List zV → zM → zO} {L st : List zV} {M : zM} {r : List Int} {a b x y : Int} : zcont ph d j (zstep ph cl 54 nx tg r L ((4, b, y) :: (4, a, x) :: st) M) = dite (a ≠ b) (fun _ => zEv ph d j tg L st M) (fun _ => zEv ph d j nx L st M) := by by_cases h : a = b <;> simp [zstep, zF2, zF2_e, zF2_n, zcond, zcont, h]
theorem k_ifnn {ph : Bool} {d j nx tg : Nat} {cl : Nat → List zV → zM → zO} {L st : List zV} {M : zM} {r : List Int} {t a x : Int} (h : 4 ≤ t) (h2 : t ≠ 17) : zcont ph d j (zstep ph cl 55 nx tg r L ((t, a, x) :: st) M) = zEv ph d j tg L st M := by simp [zstep, zF2, zF2_e, zF2_n, zcond, zcont, h, h2]
theorem k_tsw {ph : Bool} {d j nx tg : Nat} {cl : Nat → List zV → zM → zO} {L st : List zV} {M : zM} {lo a x : Int} {ts : List Int} : zcont ph d j (zstep ph cl 56 nx tg (lo :: ts) L ((0, a, x) :: st) M) = zEv ph d j (ztsw tg lo ts a) L st M := rfl
theorem k_lsw {ph : Bool} {d j nx tg : Nat} {cl : Nat → List zV → zM → zO} {L st : List zV} {M : zM} {r : List Int} {a x : Int} : zcont ph d j (zstep ph cl 57 nx tg r L ((0, a, x) :: st) M) = zEv ph d j (zlsw tg r a) L st M := rfl
theorem k_gI {ph : Bool} {d j nx tg : Nat} {cl : Nat → List zV → zM → zO} {L st : List zV} {M : zM} {c q a y : Int} : zcont ph d j (zstep ph cl 60 nx tg [c, q] L ((c, a, y) :: st) M) = zEv ph d j nx L ((0, M a q, 0) :: st) M := by simp [zstep, zF3, zF3_g, zF3_p, zF3_s, zin2, zr0, zr1, zr2, zr3, zr4, zcont]
theorem k_gL {ph : Bool} {d j nx tg : Nat} {cl : Nat → List zV → zM → zO} {L st : List zV} {M : zM} {c q a y : Int} : zcont ph d j (zstep ph cl 61 nx tg [c, q] L ((c, a, y) :: st) M) = zEv ph d j nx L ((1, M a q, 0) :: st) M := by simp [zstep, zF3, zF3_g, zF3_p, zF3_s, zin2, zr0, zr1, zr2, zr3, zr4, zcont]
theorem k_gR {d j nx tg : Nat} {cl : Nat → List zV → zM → zO} {L st : List zV} {M : zM} {c q off u n a y : Int} : zcont true d j (zstep true cl 62 nx tg [c, q, off, u, n] L ((c, a, y) :: st) M) = zEv true d j nx L ((u, a + off, n) :: st) M := by simp [zstep, zF3, zF3_g, zF3_p, zF3_s, zin2, zr0, zr1, zr2, zr3, zr4, zcont]
theorem k_gE {ph : Bool} {d j nx tg : Nat} {cl : Nat → List zV → zM → zO} {L st : List zV} {M : zM} {c q a y : Int} (h : 0 < M a q) : zcont ph d j (zstep ph cl 63 nx tg [c, q] L ((c, a, y) :: st) M) = zEv ph d j nx L ((4, M a q, 0) :: st) M := by simp [zstep, zF3, zF3_g, zF3_p, zF3_s, zin2, zr0, zr1, zr2, zr3, zr4, zcont, h]
theorem k_gD {ph : Bool} {d j nx tg : Nat} {cl : Nat → List zV → zM → zO} {L st : List zV} {M : zM} {c q u a y : Int} (h : 0 < M a q) : zcont ph d j (zstep ph cl 64 nx tg [c, q, u] L ((c, a, y) :: st) M) = zEv ph d j nx L ((u, M a q, M a (1000 + q)) :: st) M := by simp [zstep, zF3, zF3_g, zF3_p, zF3_s, zin2, zr0, zr1, zr2, zr3, zr4, zcont, h]
theorem k_pI {ph : Bool} {d j nx tg : Nat} {cl : Nat → List zV → zM → zO} {L st : List zV} {M : zM} {c q v a x y : Int} : zcont ph d j (zstep ph cl 65 nx tg [c, q] L ((0, v, x) :: (c, a, y) :: st) M) = zEv ph d j nx L st (zup M a q v) := by simp [zstep, zF3, zF3_g, zF3_p, zF3_s, zin2, zr0, zr1, zr2, zr3, zr4, zcont]
theorem k_pZ {ph : Bool} {d j nx tg : Nat} {cl : Nat → List zV → zM → zO} {L st : List zV} {M : zM} {c q lo hi v a x y : Int} (h : lo ≤ v) (h2 : v ≤ hi) : zcont ph d j (zstep ph cl 65 nx tg [c, q, lo, hi] L ((0, v, x) :: (c, a, y) :: st) M) = zEv ph d j nx L st (zup M a q v) := by simp [zstep, zF3, zF3_g, zF3_p, zF3_s, zin2, zr0, zr1, zr2, zr3, zr4, zcont, h, h2]
theorem k_pL {ph : Bool} {d j nx tg : Nat} {cl : Nat → List zV → zM → zO} {L st : List zV} {M : zM} {c q v a x y : Int} : zcont ph d j (zstep ph cl 66 nx tg [c, q] L ((1, v, x) :: (c, a, y) :: st) M) = zEv ph d j nx L st (zup M a q v) := by simp [zstep, zF3, zF3_g, zF3_p, zF3_s, zin2, zr0, zr1, zr2, zr3, zr4, zcont]
theorem k_pE {ph : Bool} {d j nx tg : Nat} {cl : Nat → List zV → zM → zO} {L st : List zV} {M : zM} {c q v a x y : Int} : zcont ph d j (zstep ph cl 68 nx tg [c, q] L ((4, v, x) :: (c, a, y) :: st) M) = zEv ph d j nx L st (zup M a q v) := by simp [zstep, zF3, zF3_g, zF3_p, zF3_s, zin2, zr0, zr1, zr2, zr3, zr4, zcont]
theorem k_pD {ph : Bool} {d j nx tg : Nat} {cl : Nat → List zV → zM → zO} {L st : List zV} {M : zM} {c q u b n a y : Int} (h : 0 < b) : zcont ph d j (zstep ph cl 69 nx tg [c, q, u] L ((u, b, n) :: (c, a, y) :: st) M) = zEv ph d j nx L st (zup (zup M a q b) a (1000 + q) n) := by simp [zstep, zF3, zF3_g, zF3_p, zF3_s, zin2, zr0, zr1, zr2, zr3, zr4, zcont, h]
theorem k_sv {ph : Bool} {d j nx tg : Nat} {cl : Nat → List zV → zM → zO} {L st : List zV} {M : zM} {k n : Int} : zcont ph d j (zstep ph cl 98 nx tg [] L ((8, k, n) :: st) M) = zEv ph d j nx L ((9, k, n) :: st) M := by simp [zstep, zF3, zF3_g, zF3_p, zF3_s, zin2, zr0, zr1, zr2, zr3, zr4, zcont]
theorem k_sc {ph : Bool} {d j nx tg : Nat} {cl : Nat → List zV → zM → zO} {L st : List zV} {M : zM} {k n : Int} : zcont ph d j (zstep ph cl 99 nx tg [] L ((8, k, n) :: st) M) = zEv ph d j nx L ((0, 0, 0) :: st) M := by simp [zstep, zF3, zF3_g, zF3_p, zF3_s, zin2, zr0, zr1, zr2, zr3, zr4, zcont]
theorem k_key {ph : Bool} {d j nx tg : Nat} {cl : Nat → List zV → zM → zO} {L st : List zV} {M : zM} {e n : Int} : zcont ph d j (zstep ph cl 100 nx tg [] L ((4, e, n) :: st) M) = zEv ph d j nx L ((1, zkey e, 0) :: st) M := by simp [zstep, zF3, zF3_g, zF3_p, zF3_s, zin2, zr0, zr1, zr2, zr3, zr4, zcont]
/-- behind a call that gives nothing, and one that gives something -/
def zb0 (o : zO) (k : zM → zO) : zO := match o with
  | some (w, M1) => if w.1 = 98 then k M1 else none
  | none => none
def zb1 (o : zO) (k : zV → zM → zO) : zO := match o with
  | some (w, M1) => if w.1 < 98 then k w M1 else none
  | none => none
theorem zb0_some (x n : Int) (M : zM) (k : zM → zO) : zb0 (some ((98, x, n), M)) k = k M := rfl
theorem zb1_some {t x n : Int} {M : zM} {k : zV → zM → zO} (h : t < 98) : zb1 (some ((t, x, n), M)) k = k (t, x, n) M := by simp [zb1, h]
theorem k_s0 {ph : Bool} {d j nx tg : Nat} {cl : Nat → List zV → zM → zO} {L st : List zV} {M : zM} (hz : zroom st = true) : zcont ph d j (zstep ph cl 70 nx tg [0, 0, -1] L st M) = zb0 (cl tg [] M) (fun M1 => zEv ph d j nx L st M1) := by
  show zcont ph d j (Option.map (fun q : List zV × zM => Sum.inl (nx, L, q.1, q.2)) (if zroom st = true ∧ ((-1 : Int) = -1 ∨ (([] : List zV).headD (3, 0, 0)).1 = -1) then (match cl tg [] M with | some (w, M1) => if (0 : Int) = 0 then (if w.1 = 98 then some (st, M1) else none) else if w.1 < 98 then some (w :: st, M1) else none | none => none) else none)) = _
  rw [if_pos ⟨hz, Or.inl rfl⟩]
  cases h : cl tg [] M with
  | none => rfl
  | some q =>
    obtain ⟨w, M1⟩ := q
    unfold zb0
    by_cases hw : w.1 = 98
    · simp [hw, zcont]
    · simp [hw, zcont]
theorem k_s0r {ph : Bool} {d j nx tg : Nat} {cl : Nat → List zV → zM → zO} {L st : List zV} {M : zM} (hz : zroom st = true) : zcont ph d j (zstep ph cl 70 nx tg [0, 1, -1] L st M) = zb1 (cl tg [] M) (fun w M1 => zEv ph d j nx L (w :: st) M1) := by
  show zcont ph d j (Option.map (fun q : List zV × zM => Sum.inl (nx, L, q.1, q.2)) (if zroom st = true ∧ ((-1 : Int) = -1 ∨ (([] : List zV).headD (3, 0, 0)).1 = -1) then (match cl tg [] M with | some (w, M1) => if (1 : Int) = 0 then (if w.1 = 98 then some (st, M1) else none) else if w.1 < 98 then some (w :: st, M1) else none | none => none) else none)) = _
  rw [if_pos ⟨hz, Or.inl rfl⟩]
  cases h : cl tg [] M with
  | none => rfl
  | some q =>
    obtain ⟨w, M1⟩ := q
    unfold zb1
    by_cases hw : w.1 < 98
    · simp [hw, zcont]
    · simp [hw, zcont]
theorem k_s1 {ph : Bool} {d j nx tg : Nat} {cl : Nat → List zV → zM → zO} {L st : List zV} {M : zM} {v0 : zV} (hz : zroom st = true) : zcont ph d j (zstep ph cl 70 nx tg [1, 0, -1] L (v0 :: st) M) = zb0 (cl tg [v0] M) (fun M1 => zEv ph d j nx L st M1) := by
  show zcont ph d j (Option.map (fun q : List zV × zM => Sum.inl (nx, L, q.1, q.2)) (if zroom st = true ∧ ((-1 : Int) = -1 ∨ (([v0] : List zV).headD (3, 0, 0)).1 = -1) then (match cl tg [v0] M with | some (w, M1) => if (0 : Int) = 0 then (if w.1 = 98 then some (st, M1) else none) else if w.1 < 98 then some (w :: st, M1) else none | none => none) else none)) = _
  rw [if_pos ⟨hz, Or.inl rfl⟩]
  cases h : cl tg [v0] M with
  | none => rfl
  | some q =>
    obtain ⟨w, M1⟩ := q
    unfold zb0
    by_cases hw : w.1 = 98
    · simp [hw, zcont]
    · simp [hw, zcont]
theorem k_s1r {ph : Bool} {d j nx tg : Nat} {cl : Nat → List zV → zM → zO} {L st : List zV} {M : zM} {v0 : zV} (hz : zroom st = true) : zcont ph d j (zstep ph cl 70 nx tg [1, 1, -1] L (v0 :: st) M) = zb1 (cl tg [v0] M) (fun w M1 => zEv ph d j nx L (w :: st) M1) := by
  show zcont ph d j (Option.map (fun q : List zV × zM => Sum.inl (nx, L, q.1, q.2)) (if zroom st = true ∧ ((-1 : Int) = -1 ∨ (([v0] : List zV).headD (3, 0, 0)).1 = -1) then (match cl tg [v0] M with | some (w, M1) => if (1 : Int) = 0 then (if w.1 = 98 then some (st, M1) else none) else if w.1 < 98 then some (w :: st, M1) else none | none => none) else none)) = _
  rw [if_pos ⟨hz, Or.inl rfl⟩]
  cases h : cl tg [v0] M with
  | none => rfl
  | some q =>
    obtain ⟨w, M1⟩ := q
    unfold zb1
    by_cases hw : w.1 < 98
    · simp [hw, zcont]
    · simp [hw, zcont]
theorem k_v1 {ph : Bool} {d j nx tg : Nat} {cl : Nat → List zV → zM → zO} {L st : List zV} {M : zM} {t a x : Int} (hz : zroom st = true) : zcont ph d j (zstep ph cl 70 nx tg [1, 0, t] L ((t, a, x) :: st) M) = zb0 (cl tg [(t, a, x)] M) (fun M1 => zEv ph d j nx L st M1) := by
  show zcont ph d j (Option.map (fun q : List zV × zM => Sum.inl (nx, L, q.1, q.2)) (if zroom st = true ∧ ((t : Int) = -1 ∨ (([(t, a, x)] : List zV).headD (3, 0, 0)).1 = t) then (match cl tg [(t, a, x)] M with | some (w, M1) => if (0 : Int) = 0 then (if w.1 = 98 then some (st, M1) else none) else if w.1 < 98 then some (w :: st, M1) else none | none => none) else none)) = _
  rw [if_pos ⟨hz, Or.inr rfl⟩]
  cases h : cl tg [(t, a, x)] M with
  | none => rfl
  | some q =>
    obtain ⟨w, M1⟩ := q
    unfold zb0
    by_cases hw : w.1 = 98
    · simp [hw, zcont]
    · simp [hw, zcont]
theorem k_v1r {ph : Bool} {d j nx tg : Nat} {cl : Nat → List zV → zM → zO} {L st : List zV} {M : zM} {t a x : Int} (hz : zroom st = true) : zcont ph d j (zstep ph cl 70 nx tg [1, 1, t] L ((t, a, x) :: st) M) = zb1 (cl tg [(t, a, x)] M) (fun w M1 => zEv ph d j nx L (w :: st) M1) := by
  show zcont ph d j (Option.map (fun q : List zV × zM => Sum.inl (nx, L, q.1, q.2)) (if zroom st = true ∧ ((t : Int) = -1 ∨ (([(t, a, x)] : List zV).headD (3, 0, 0)).1 = t) then (match cl tg [(t, a, x)] M with | some (w, M1) => if (1 : Int) = 0 then (if w.1 = 98 then some (st, M1) else none) else if w.1 < 98 then some (w :: st, M1) else none | none => none) else none)) = _
  rw [if_pos ⟨hz, Or.inr rfl⟩]
  cases h : cl tg [(t, a, x)] M with
  | none => rfl
  | some q =>
    obtain ⟨w, M1⟩ := q
    unfold zb1
    by_cases hw : w.1 < 98
    · simp [hw, zcont]
    · simp [hw, zcont]
theorem k_s2 {ph : Bool} {d j nx tg : Nat} {cl : Nat → List zV → zM → zO} {L st : List zV} {M : zM} {v0 v1 : zV} (hz : zroom st = true) : zcont ph d j (zstep ph cl 70 nx tg [2, 0, -1] L (v1 :: v0 :: st) M) = zb0 (cl tg [v0, v1] M) (fun M1 => zEv ph d j nx L st M1) := by
  show zcont ph d j (Option.map (fun q : List zV × zM => Sum.inl (nx, L, q.1, q.2)) (if zroom st = true ∧ ((-1 : Int) = -1 ∨ (([v0, v1] : List zV).headD (3, 0, 0)).1 = -1) then (match cl tg [v0, v1] M with | some (w, M1) => if (0 : Int) = 0 then (if w.1 = 98 then some (st, M1) else none) else if w.1 < 98 then some (w :: st, M1) else none | none => none) else none)) = _
  rw [if_pos ⟨hz, Or.inl rfl⟩]
  cases h : cl tg [v0, v1] M with
  | none => rfl
  | some q =>
    obtain ⟨w, M1⟩ := q
    unfold zb0
    by_cases hw : w.1 = 98
    · simp [hw, zcont]
    · simp [hw, zcont]
theorem k_s2r {ph : Bool} {d j nx tg : Nat} {cl : Nat → List zV → zM → zO} {L st : List zV} {M : zM} {v0 v1 : zV} (hz : zroom st = true) : zcont ph d j (zstep ph cl 70 nx tg [2, 1, -1] L (v1 :: v0 :: st) M) = zb1 (cl tg [v0, v1] M) (fun w M1 => zEv ph d j nx L (w :: st) M1) := by
  show zcont ph d j (Option.map (fun q : List zV × zM => Sum.inl (nx, L, q.1, q.2)) (if zroom st = true ∧ ((-1 : Int) = -1 ∨ (([v0, v1] : List zV).headD (3, 0, 0)).1 = -1) then (match cl tg [v0, v1] M with | some (w, M1) => if (1 : Int) = 0 then (if w.1 = 98 then some (st, M1) else none) else if w.1 < 98 then some (w :: st, M1) else none | none => none) else none)) = _
  rw [if_pos ⟨hz, Or.inl rfl⟩]
  cases h : cl tg [v0, v1] M with
  | none => rfl
  | some q =>
    obtain ⟨w, M1⟩ := q
    unfold zb1
    by_cases hw : w.1 < 98
    · simp [hw, zcont]
    · simp [hw, zcont]
theorem k_v2 {ph : Bool} {d j nx tg : Nat} {cl : Nat → List zV → zM → zO} {L st : List zV} {M : zM} {v1 : zV} {t a x : Int} (hz : zroom st = true) : zcont ph d j (zstep ph cl 70 nx tg [2, 0, t] L (v1 :: (t, a, x) :: st) M) = zb0 (cl tg [(t, a, x), v1] M) (fun M1 => zEv ph d j nx L st M1) := by
  show zcont ph d j (Option.map (fun q : List zV × zM => Sum.inl (nx, L, q.1, q.2)) (if zroom st = true ∧ ((t : Int) = -1 ∨ (([(t, a, x), v1] : List zV).headD (3, 0, 0)).1 = t) then (match cl tg [(t, a, x), v1] M with | some (w, M1) => if (0 : Int) = 0 then (if w.1 = 98 then some (st, M1) else none) else if w.1 < 98 then some (w :: st, M1) else none | none => none) else none)) = _
  rw [if_pos ⟨hz, Or.inr rfl⟩]
  cases h : cl tg [(t, a, x), v1] M with
  | none => rfl
  | some q =>
    obtain ⟨w, M1⟩ := q
    unfold zb0
    by_cases hw : w.1 = 98
    · simp [hw, zcont]
    · simp [hw, zcont]
theorem k_v2r {ph : Bool} {d j nx tg : Nat} {cl : Nat → List zV → zM → zO} {L st : List zV} {M : zM} {v1 : zV} {t a x : Int} (hz : zroom st = true) : zcont ph d j (zstep ph cl 70 nx tg [2, 1, t] L (v1 :: (t, a, x) :: st) M) = zb1 (cl tg [(t, a, x), v1] M) (fun w M1 => zEv ph d j nx L (w :: st) M1) := by
  show zcont ph d j (Option.map (fun q : List zV × zM => Sum.inl (nx, L, q.1, q.2)) (if zroom st = true ∧ ((t : Int) = -1 ∨ (([(t, a, x), v1] : List zV).headD (3, 0, 0)).1 = t) then (match cl tg [(t, a, x), v1] M with | some (w, M1) => if (1 : Int) = 0 then (if w.1 = 98 then some (st, M1) else none) else if w.1 < 98 then some (w :: st, M1) else none | none => none) else none)) = _
  rw [if_pos ⟨hz, Or.inr rfl⟩]
  cases h : cl tg [(t, a, x), v1] M with
  | none => rfl
  | some q =>
    obtain ⟨w, M1⟩ := q
    unfold zb1
    by_cases hw : w.1 < 98
    · simp [hw, zcont]
    · simp [hw, zcont]
theorem k_s3 {ph : Bool} {d j nx tg : Nat} {cl : Nat → List zV → zM → zO} {L st : List zV} {M : zM} {v0 v1 v2 : zV} (hz : zroom st = true) : zcont ph d j (zstep ph cl 70 nx tg [3, 0, -1] L (v2 :: v1 :: v0 :: st) M) = zb0 (cl tg [v0, v1, v2] M) (fun M1 => zEv ph d j nx L st M1) := by
  show zcont ph d j (Option.map (fun q : List zV × zM => Sum.inl (nx, L, q.1, q.2)) (if zroom st = true ∧ ((-1 : Int) = -1 ∨ (([v0, v1, v2] : List zV).headD (3, 0, 0)).1 = -1) then (match cl tg [v0, v1, v2] M with | some (w, M1) => if (0 : Int) = 0 then (if w.1 = 98 then some (st, M1) else none) else if w.1 < 98 then some (w :: st, M1) else none | none => none) else none)) = _
  rw [if_pos ⟨hz, Or.inl rfl⟩]
  cases h : cl tg [v0, v1, v2] M with
  | none => rfl
  | some q =>
    obtain ⟨w, M1⟩ := q
    unfold zb0
    by_cases hw : w.1 = 98
    · simp [hw, zcont]
    · simp [hw, zcont]
theorem k_s3r {ph : Bool} {d j nx tg : Nat} {cl : Nat → List zV → zM → zO} {L st : List zV} {M : zM} {v0 v1 v2 : zV} (hz : zroom st = true) : zcont ph d j (zstep ph cl 70 nx tg [3, 1, -1] L (v2 :: v1 :: v0 :: st) M) = zb1 (cl tg [v0, v1, v2] M) (fun w M1 => zEv ph d j nx L (w :: st) M1) := by
  show zcont ph d j (Option.map (fun q : List zV × zM => Sum.inl (nx, L, q.1, q.2)) (if zroom st = true ∧ ((-1 : Int) = -1 ∨ (([v0, v1, v2] : List zV).headD (3, 0, 0)).1 = -1) then (match cl tg [v0, v1, v2] M with | some (w, M1) => if (1 : Int) = 0 then (if w.1 = 98 then some (st, M1) else none) else if w.1 < 98 then some (w :: st, M1) else none | none => none) else none)) = _
  rw [if_pos ⟨hz, Or.inl rfl⟩]
  cases h : cl tg [v0, v1, v2] M with
  | none => rfl
  | some q =>
    obtain ⟨w, M1⟩ := q
    unfold zb1
    by_cases hw : w.1 < 98
    · simp [hw, zcont]
    · simp [hw, zcont]
theorem k_v3 {ph : Bool} {d j nx tg : Nat} {cl : Nat → List zV → zM → zO} {L st : List zV} {M : zM} {v1 v2 : zV} {t a x : Int} (hz : zroom st = true) : zcont ph d j (zstep ph cl 70 nx tg [3, 0, t] L (v2 :: v1 :: (t, a, x) :: st) M) = zb0 (cl tg [(t, a, x), v1, v2] M) (fun M1 => zEv ph d j nx L st M1) := by
  show zcont ph d j (Option.map (fun q : List zV × zM => Sum.inl (nx, L, q.1, q.2)) (if zroom st = true ∧ ((t : Int) = -1 ∨ (([(t, a, x), v1, v2] : List zV).headD (3, 0, 0)).1 = t) then (match cl tg [(t, a, x), v1, v2] M with | some (w, M1) => if (0 : Int) = 0 then (if w.1 = 98 then some (st, M1) else none) else if w.1 < 98 then some (w :: st, M1) else none | none => none) else none)) = _
  rw [if_pos ⟨hz, Or.inr rfl⟩]
  cases h : cl tg [(t, a, x), v1, v2] M with
  | none => rfl
  | some q =>
    obtain ⟨w, M1⟩ := q
    unfold zb0
    by_cases hw : w.1 = 98
    · simp [hw, zcont]
    · simp [hw, zcont]
theorem k_v3r {ph : Bool} {d j nx tg : Nat} {cl : Nat → List zV → zM → zO} {L st : List zV} {M : zM} {v1 v2 : zV} {t a x : Int} (hz : zroom st = true) : zcont ph d j (zstep ph cl 70 nx tg [3, 1, t] L (v2 :: v1 :: (t, a, x) :: st) M) = zb1 (cl tg [(t, a, x), v1, v2] M) (fun w M1 => zEv ph d j nx L (w :: st) M1) := by
  show zcont ph d j (Option.map (fun q : List zV × zM => Sum.inl (nx, L, q.1, q.2)) (if zroom st = true ∧ ((t : Int) = -1 ∨ (([(t, a, x), v1, v2] : List zV).headD (3, 0, 0)).1 = t) then (match cl tg [(t, a, x), v1, v2] M with | some (w, M1) => if (1 : Int) = 0 then (if w.1 = 98 then some (st, M1) else none) else if w.1 < 98 then some (w :: st, M1) else none | none => none) else none)) = _
  rw [if_pos ⟨hz, Or.inr rfl⟩]
  cases h : cl tg [(t, a, x), v1, v2] M with
  | none => rfl
  | some q =>
    obtain ⟨w, M1⟩ := q
    unfold zb1
    by_cases hw : w.1 < 98
    · simp [hw, zcont]
    · simp [hw, zcont]
theorem k_s4 {ph : Bool} {d j nx tg : Nat} {cl : Nat → List zV → zM → zO} {L st : List zV} {M : zM} {v0 v1 v2 v3 : zV} (hz : zroom st = true) : zcont ph d j (zstep ph cl 70 nx tg [4, 0, -1] L (v3 :: v2 :: v1 :: v0 :: st) M) = zb0 (cl tg [v0, v1, v2, v3] M) (fun M1 => zEv ph d j nx L st M1) := by
  show zcont ph d j (Option.map (fun q : List zV × zM => Sum.inl (nx, L, q.1, q.2)) (if zroom st = true ∧ ((-1 : Int) = -1 ∨ (([v0, v1, v2, v3] : List zV).headD (3, 0, 0)).1 = -1) then (match cl tg [v0, v1, v2, v3] M with | some (w, M1) => if (0 : Int) = 0 then (if w.1 = 98 then some (st, M1) else none) else if w.1 < 98 then some (w :: st, M1) else none | none => none) else none)) = _
  rw [if_pos ⟨hz, Or.inl rfl⟩]
  cases h : cl tg [v0, v1, v2, v3] M with
  | none => rfl
  | some q =>
    obtain ⟨w, M1⟩ := q
    unfold zb0
    by_cases hw : w.1 = 98
    · simp [hw, zcont]
    · simp [hw, zcont]
theorem k_s4r {ph : Bool} {d j nx tg : Nat} {cl : Nat → List zV → zM → zO} {L st : List zV} {M : zM} {v0 v1 v2 v3 : zV} (hz : zroom st = true) : zcont ph d j (zstep ph cl 70 nx tg [4, 1, -1] L (v3 :: v2 :: v1 :: v0 :: st) M) = zb1 (cl tg [v0, v1, v2, v3] M) (fun w M1 => zEv ph d j nx L (w :: st) M1) := by
  show zcont ph d j (Option.map (fun q : List zV × zM => Sum.inl (nx, L, q.1, q.2)) (if zroom st = true ∧ ((-1 : Int) = -1 ∨ (([v0, v1, v2, v3] : List zV).headD (3, 0, 0)).1 = -1) then (match cl tg [v0, v1, v2, v3] M with | some (w, M1) => if (1 : Int) = 0 then (if w.1 = 98 then some (st, M1) else none) else if w.1 < 98 then some (w :: st, M1) else none | none => none) else none)) = _
  rw [if_pos ⟨hz, Or.inl rfl⟩]
  cases h : cl tg [v0, v1, v2, v3] M with
  | none => rfl
  | some q =>
    obtain ⟨w, M1⟩ := q
    unfold zb1
    by_cases hw : w.1 < 98
    · simp [hw, zcont]
    · simp [hw, zcont]
theorem k_v4 {ph : Bool} {d j nx tg : Nat} {cl : Nat → List zV → zM → zO} {L st : List zV} {M : zM} {v1 v2 v3 : zV} {t a x : Int} (hz : zroom st = true) : zcont ph d j (zstep ph cl 70 nx tg [4, 0, t] L (v3 :: v2 :: v1 :: (t, a, x) :: st) M) = zb0 (cl tg [(t, a, x), v1, v2, v3] M) (fun M1 => zEv ph d j nx L st M1) := by
  show zcont ph d j (Option.map (fun q : List zV × zM => Sum.inl (nx, L, q.1, q.2)) (if zroom st = true ∧ ((t : Int) = -1 ∨ (([(t, a, x), v1, v2, v3] : List zV).headD (3, 0, 0)).1 = t) then (match cl tg [(t, a, x), v1, v2, v3] M with | some (w, M1) => if (0 : Int) = 0 then (if w.1 = 98 then some (st, M1) else none) else if w.1 < 98 then some (w :: st, M1) else none | none => none) else none)) = _
  rw [if_pos ⟨hz, Or.inr rfl⟩]
  cases h : cl tg [(t, a, x), v1, v2, v3] M with
  | none => rfl
  | some q =>
    obtain ⟨w, M1⟩ := q
    unfold zb0
    by_cases hw : w.1 = 98
    · simp [hw, zcont]
    · simp [hw, zcont]
theorem k_v4r {ph : Bool} {d j nx tg : Nat} {cl : Nat → List zV → zM → zO} {L st : List zV} {M : zM} {v1 v2 v3 : zV} {t a x : Int} (hz : zroom st = true) : zcont ph d j (zstep ph cl 70 nx tg [4, 1, t] L (v3 :: v2 :: v1 :: (t, a, x) :: st) M) = zb1 (cl tg [(t, a, x), v1, v2, v3] M) (fun w M1 => zEv ph d j nx L (w :: st) M1) := by
  show zcont ph d j (Option.map (fun q : List zV × zM => Sum.inl (nx, L, q.1, q.2)) (if zroom st = true ∧ ((t : Int) = -1 ∨ (([(t, a, x), v1, v2, v3] : List zV).headD (3, 0, 0)).1 = t) then (match cl tg [(t, a, x), v1, v2, v3] M with | some (w, M1) => if (1 : Int) = 0 then (if w.1 = 98 then some (st, M1) else none) else if w.1 < 98 then some (w :: st, M1) else none | none => none) else none)) = _
  rw [if_pos ⟨hz, Or.inr rfl⟩]
  cases h : cl tg [(t, a, x), v1, v2, v3] M with
  | none => rfl
  | some q =>
    obtain ⟨w, M1⟩ := q
    unfold zb1
    by_cases hw : w.1 < 98
    · simp [hw, zcont]
    · simp [hw, zcont]
theorem k_s5 {ph : Bool} {d j nx tg : Nat} {cl : Nat → List zV → zM → zO} {L st : List zV} {M : zM} {v0 v1 v2 v3 v4 : zV} (hz : zroom st = true) : zcont ph d j (zstep ph cl 70 nx tg [5, 0, -1] L (v4 :: v3 :: v2 :: v1 :: v0 :: st) M) = zb0 (cl tg [v0, v1, v2, v3, v4] M) (fun M1 => zEv ph d j nx L st M1) := by
  show zcont ph d j (Option.map (fun q : List zV × zM => Sum.inl (nx, L, q.1, q.2)) (if zroom st = true ∧ ((-1 : Int) = -1 ∨ (([v0, v1, v2, v3, v4] : List zV).headD (3, 0, 0)).1 = -1) then (match cl tg [v0, v1, v2, v3, v4] M with | some (w, M1) => if (0 : Int) = 0 then (if w.1 = 98 then some (st, M1) else none) else if w.1 < 98 then some (w :: st, M1) else none | none => none) else none)) = _
  rw [if_pos ⟨hz, Or.inl rfl⟩]
  cases h : cl tg [v0, v1, v2, v3, v4] M with
  | none => rfl
  | some q =>
    obtain ⟨w, M1⟩ := q
    unfold zb0
    by_cases hw : w.1 = 98
    · simp [hw, zcont]
    · simp [hw, zcont]
theorem k_s5r {ph : Bool} {d j nx tg : Nat} {cl : Nat → List zV → zM → zO} {L st : List zV} {M : zM} {v0 v1 v2 v3 v4 : zV} (hz : zroom st = true) : zcont ph d j (zstep ph cl 70 nx tg [5, 1, -1] L (v4 :: v3 :: v2 :: v1 :: v0 :: st) M) = zb1 (cl tg [v0, v1, v2, v3, v4] M) (fun w M1 => zEv ph d j nx L (w :: st) M1) := by
  show zcont ph d j (Option.map (fun q : List zV × zM => Sum.inl (nx, L, q.1, q.2)) (if zroom st = true ∧ ((-1 : Int) = -1 ∨ (([v0, v1, v2, v3, v4] : List zV).headD (3, 0, 0)).1 = -1) then (match cl tg [v0, v1, v2, v3, v4] M with | some (w, M1) => if (1 : Int) = 0 then (if w.1 = 98 then some (st, M1) else none) else if w.1 < 98 then some (w :: st, M1) else none | none => none) else none)) = _
  rw [if_pos ⟨hz, Or.inl rfl⟩]
  cases h : cl tg [v0, v1, v2, v3, v4] M with
  | none => rfl
  | some q =>
    obtain ⟨w, M1⟩ := q
    unfold zb1
    by_cases hw : w.1 < 98
    · simp [hw, zcont]
    · simp [hw, zcont]
theorem k_v5 {ph : Bool} {d j nx tg : Nat} {cl : Nat → List zV → zM → zO} {L st : List zV} {M : zM} {v1 v2 v3 v4 : zV} {t a x : Int} (hz : zroom st = true) : zcont ph d j (zstep ph cl 70 nx tg [5, 0, t] L (v4 :: v3 :: v2 :: v1 :: (t, a, x) :: st) M) = zb0 (cl tg [(t, a, x), v1, v2, v3, v4] M) (fun M1 => zEv ph d j nx L st M1) := by
  show zcont ph d j (Option.map (fun q : List zV × zM => Sum.inl (nx, L, q.1, q.2)) (if zroom st = true ∧ ((t : Int) = -1 ∨ (([(t, a, x), v1, v2, v3, v4] : List zV).headD (3, 0, 0)).1 = t) then (match cl tg [(t, a, x), v1, v2, v3, v4] M with | some (w, M1) => if (0 : Int) = 0 then (if w.1 = 98 then some (st, M1) else none) else if w.1 < 98 then some (w :: st, M1) else none | none => none) else none)) = _
  rw [if_pos ⟨hz, Or.inr rfl⟩]
  cases h : cl tg [(t, a, x), v1, v2, v3, v4] M with
  | none => rfl
  | some q =>
    obtain ⟨w, M1⟩ := q
    unfold zb0
    by_cases hw : w.1 = 98
    · simp [hw, zcont]
    · simp [hw, zcont]
theorem k_v5r {ph : Bool} {d j nx tg : Nat} {cl : Nat → List zV → zM → zO} {L st : List zV} {M : zM} {v1 v2 v3 v4 : zV} {t a x : Int} (hz : zroom st = true) : zcont ph d j (zstep ph cl 70 nx tg [5, 1, t] L (v4 :: v3 :: v2 :: v1 :: (t, a, x) :: st) M) = zb1 (cl tg [(t, a, x), v1, v2, v3, v4] M) (fun w M1 => zEv ph d j nx L (w :: st) M1) := by
  show zcont ph d j (Option.map (fun q : List zV × zM => Sum.inl (nx, L, q.1, q.2)) (if zroom st = true ∧ ((t : Int) = -1 ∨ (([(t, a, x), v1, v2, v3, v4] : List zV).headD (3, 0, 0)).1 = t) then (match cl tg [(t, a, x), v1, v2, v3, v4] M with | some (w, M1) => if (1 : Int) = 0 then (if w.1 = 98 then some (st, M1) else none) else if w.1 < 98 then some (w :: st, M1) else none | none => none) else none)) = _
  rw [if_pos ⟨hz, Or.inr rfl⟩]
  cases h : cl tg [(t, a, x), v1, v2, v3, v4] M with
  | none => rfl
  | some q =>
    obtain ⟨w, M1⟩ := q
    unfold zb1
    by_cases hw : w.1 < 98
    · simp [hw, zcont]
    · simp [hw, zcont]
theorem k_s6 {ph : Bool} {d j nx tg : Nat} {cl : Nat → List zV → zM → zO} {L st : List zV} {M : zM} {v0 v1 v2 v3 v4 v5 : zV} (hz : zroom st = true) : zcont ph d j (zstep ph cl 70 nx tg [6, 0, -1] L (v5 :: v4 :: v3 :: v2 :: v1 :: v0 :: st) M) = zb0 (cl tg [v0, v1, v2, v3, v4, v5] M) (fun M1 => zEv ph d j nx L st M1) := by
  show zcont ph d j (Option.map (fun q : List zV × zM => Sum.inl (nx, L, q.1, q.2)) (if zroom st = true ∧ ((-1 : Int) = -1 ∨ (([v0, v1, v2, v3, v4, v5] : List zV).headD (3, 0, 0)).1 = -1) then (match cl tg [v0, v1, v2, v3, v4, v5] M with | some (w, M1) => if (0 : Int) = 0 then (if w.1 = 98 then some (st, M1) else none) else if w.1 < 98 then some (w :: st, M1) else none | none => none) else none)) = _
  rw [if_pos ⟨hz, Or.inl rfl⟩]
  cases h : cl tg [v0, v1, v2, v3, v4, v5] M with
  | none => rfl
  | some q =>
    obtain ⟨w, M1⟩ := q
    unfold zb0
    by_cases hw : w.1 = 98
    · simp [hw, zcont]
    · simp [hw, zcont]
theorem k_s6r {ph : Bool} {d j nx tg : Nat} {cl : Nat → List zV → zM → zO} {L st : List zV} {M : zM} {v0 v1 v2 v3 v4 v5 : zV} (hz : zroom st = true) : zcont ph d j (zstep ph cl 70 nx tg [6, 1, -1] L (v5 :: v4 :: v3 :: v2 :: v1 :: v0 :: st) M) = zb1 (cl tg [v0, v1, v2, v3, v4, v5] M) (fun w M1 => zEv ph d j nx L (w :: st) M1) := by
  show zcont ph d j (Option.map (fun q : List zV × zM => Sum.inl (nx, L, q.1, q.2)) (if zroom st = true ∧ ((-1 : Int) = -1 ∨ (([v0, v1, v2, v3, v4, v5] : List zV).headD (3, 0, 0)).1 = -1) then (match cl tg [v0, v1, v2, v3, v4, v5] M with | some (w, M1) => if (1 : Int) = 0 then (if w.1 = 98 then some (st, M1) else none) else if w.1 < 98 then some (w :: st, M1) else none | none => none) else none)) = _
  rw [if_pos ⟨hz, Or.inl rfl⟩]
  cases h : cl tg [v0, v1, v2, v3, v4, v5] M with
  | none => rfl
  | some q =>
    obtain ⟨w, M1⟩ := q
    unfold zb1
    by_cases hw : w.1 < 98
    · simp [hw, zcont]
    · simp [hw, zcont]
theorem k_v6 {ph : Bool} {d j nx tg : Nat} {cl : Nat → List zV → zM → zO} {L st : List zV} {M : zM} {v1 v2 v3 v4 v5 : zV} {t a x : Int} (hz : zroom st = true) : zcont ph d j (zstep ph cl 70 nx tg [6, 0, t] L (v5 :: v4 :: v3 :: v2 :: v1 :: (t, a, x) :: st) M) = zb0 (cl tg [(t, a, x), v1, v2, v3, v4, v5] M) (fun M1 => zEv ph d j nx L st M1) := by
  show zcont ph d j (Option.map (fun q : List zV × zM => Sum.inl (nx, L, q.1, q.2)) (if zroom st = true ∧ ((t : Int) = -1 ∨ (([(t, a, x), v1, v2, v3, v4, v5] : List zV).headD (3, 0, 0)).1 = t) then (match cl tg [(t, a, x), v1, v2, v3, v4, v5] M with | some (w, M1) => if (0 : Int) = 0 then (if w.1 = 98 then some (st, M1) else none) else if w.1 < 98 then some (w :: st, M1) else none | none => none) else none)) = _
  rw [if_pos ⟨hz, Or.inr rfl⟩]
  cases h : cl tg [(t, a, x), v1, v2, v3, v4, v5] M with
  | none => rfl
  | some q =>
    obtain ⟨w, M1⟩ := q
    unfold zb0
    by_cases hw : w.1 = 98
    · simp [hw, zcont]
    · simp [hw, zcont]
theorem k_v6r {ph : Bool} {d j nx tg : Nat} {cl : Nat → List zV → zM → zO} {L st : List zV} {M : zM} {v1 v2 v3 v4 v5 : zV} {t a x : Int} (hz : zroom st = true) : zcont ph d j (zstep ph cl 70 nx tg [6, 1, t] L (v5 :: v4 :: v3 :: v2 :: v1 :: (t, a, x) :: st) M) = zb1 (cl tg [(t, a, x), v1, v2, v3, v4, v5] M) (fun w M1 => zEv ph d j nx L (w :: st) M1) := by
  show zcont ph d j (Option.map (fun q : List zV × zM => Sum.inl (nx, L, q.1, q.2)) (if zroom st = true ∧ ((t : Int) = -1 ∨ (([(t, a, x), v1, v2, v3, v4, v5] : List zV).headD (3, 0, 0)).1 = t) then (match cl tg [(t, a, x), v1, v2, v3, v4, v5] M with | some (w, M1) => if (1 : Int) = 0 then (if w.1 = 98 then some (st, M1) else none) else if w.1 < 98 then some (w :: st, M1) else none | none => none) else none)) = _
  rw [if_pos ⟨hz, Or.inr rfl⟩]
  cases h : cl tg [(t, a, x), v1, v2, v3, v4, v5] M with
  | none => rfl
  | some q =>
    obtain ⟨w, M1⟩ := q
    unfold zb1
    by_cases hw : w.1 < 98
    · simp [hw, zcont]
    · simp [hw, zcont]
theorem k_s7 {ph : Bool} {d j nx tg : Nat} {cl : Nat → List zV → zM → zO} {L st : List zV} {M : zM} {v0 v1 v2 v3 v4 v5 v6 : zV} (hz : zroom st = true) : zcont ph d j (zstep ph cl 70 nx tg [7, 0, -1] L (v6 :: v5 :: v4 :: v3 :: v2 :: v1 :: v0 :: st) M) = zb0 (cl tg [v0, v1, v2, v3, v4, v5, v6] M) (fun M1 => zEv ph d j nx L st M1) := by
  show zcont ph d j (Option.map (fun q : List zV × zM => Sum.inl (nx, L, q.1, q.2)) (if zroom st = true ∧ ((-1 : Int) = -1 ∨ (([v0, v1, v2, v3, v4, v5, v6] : List zV).headD (3, 0, 0)).1 = -1) then (match cl tg [v0, v1, v2, v3, v4, v5, v6] M with | some (w, M1) => if (0 : Int) = 0 then (if w.1 = 98 then some (st, M1) else none) else if w.1 < 98 then some (w :: st, M1) else none | none => none) else none)) = _
  rw [if_pos ⟨hz, Or.inl rfl⟩]
  cases h : cl tg [v0, v1, v2, v3, v4, v5, v6] M with
  | none => rfl
  | some q =>
    obtain ⟨w, M1⟩ := q
    unfold zb0
    by_cases hw : w.1 = 98
    · simp [hw, zcont]
    · simp [hw, zcont]
theorem k_s7r {ph : Bool} {d j nx tg : Nat} {cl : Nat → List zV → zM → zO} {L st : List zV} {M : zM} {v0 v1 v2 v3 v4 v5 v6 : zV} (hz : zroom st = true) : zcont ph d j (zstep ph cl 70 nx tg [7, 1, -1] L (v6 :: v5 :: v4 :: v3 :: v2 :: v1 :: v0 :: st) M) = zb1 (cl tg [v0, v1, v2, v3, v4, v5, v6] M) (fun w M1 => zEv ph d j nx L (w :: st) M1) := by
  show zcont ph d j (Option.map (fun q : List zV × zM => Sum.inl (nx, L, q.1, q.2)) (if zroom st = true ∧ ((-1 : Int) = -1 ∨ (([v0, v1, v2, v3, v4, v5, v6] : List zV).headD (3, 0, 0)).1 = -1) then (match cl tg [v0, v1, v2, v3, v4, v5, v6] M with | some (w, M1) => if (1 : Int) = 0 then (if w.1 = 98 then some (st, M1) else none) else if w.1 < 98 then some (w :: st, M1) else none | none => none) else none)) = _
  rw [if_pos ⟨hz, Or.inl rfl⟩]
  cases h : cl tg [v0, v1, v2, v3, v4, v5, v6] M with
  | none => rfl
  | some q =>
    obtain ⟨w, M1⟩ := q
    unfold zb1
    by_cases hw : w.1 < 98
    · simp [hw, zcont]
    · simp [hw, zcont]
theorem k_v7 {ph : Bool} {d j nx tg : Nat} {cl : Nat → List zV → zM → zO} {L st : List zV} {M : zM} {v1 v2 v3 v4 v5 v6 : zV} {t a x : Int} (hz : zroom st = true) : zcont ph d j (zstep ph cl 70 nx tg [7, 0, t] L (v6 :: v5 :: v4 :: v3 :: v2 :: v1 :: (t, a, x) :: st) M) = zb0 (cl tg [(t, a, x), v1, v2, v3, v4, v5, v6] M) (fun M1 => zEv ph d j nx L st M1) := by
  show zcont ph d j (Option.map (fun q : List zV × zM => Sum.inl (nx, L, q.1, q.2)) (if zroom st = true ∧ ((t : Int) = -1 ∨ (([(t, a, x), v1, v2, v3, v4, v5, v6] : List zV).headD (3, 0, 0)).1 = t) then (match cl tg [(t, a, x), v1, v2, v3, v4, v5, v6] M with | some (w, M1) => if (0 : Int) = 0 then (if w.1 = 98 then some (st, M1) else none) else if w.1 < 98 then some (w :: st, M1) else none | none => none) else none)) = _
  rw [if_pos ⟨hz, Or.inr rfl⟩]
  cases h : cl tg [(t, a, x), v1, v2, v3, v4, v5, v6] M with
  | none => rfl
  | some q =>
    obtain ⟨w, M1⟩ := q
    unfold zb0
    by_cases hw : w.1 = 98
    · simp [hw, zcont]
    · simp [hw, zcont]
theorem k_v7r {ph : Bool} {d j nx tg : Nat} {cl : Nat → List zV → zM → zO} {L st : List zV} {M : zM} {v1 v2 v3 v4 v5 v6 : zV} {t a x : Int} (hz : zroom st = true) : zcont ph d j (zstep ph cl 70 nx tg [7, 1, t] L (v6 :: v5 :: v4 :: v3 :: v2 :: v1 :: (t, a, x) :: st) M) = zb1 (cl tg [(t, a, x), v1, v2, v3, v4, v5, v6] M) (fun w M1 => zEv ph d j nx L (w :: st) M1) := by
  show zcont ph d j (Option.map (fun q : List zV × zM => Sum.inl (nx, L, q.1, q.2)) (if zroom st = true ∧ ((t : Int) = -1 ∨ (([(t, a, x), v1, v2, v3, v4, v5, v6] : List zV).headD (3, 0, 0)).1 = t) then (match cl tg [(t, a, x), v1, v2, v3, v4, v5, v6] M with | some (w, M1) => if (1 : Int) = 0 then (if w.1 = 98 then some (st, M1) else none) else if w.1 < 98 then some (w :: st, M1) else none | none => none) else none)) = _
  rw [if_pos ⟨hz, Or.inr rfl⟩]
  cases h : cl tg [(t, a, x), v1, v2, v3, v4, v5, v6] M with
  | none => rfl
  | some q =>
    obtain ⟨w, M1⟩ := q
    unfold zb1
    by_cases hw : w.1 < 98
    · simp [hw, zcont]
    · simp [hw, zcont]
theorem k_s8 {ph : Bool} {d j nx tg : Nat} {cl : Nat → List zV → zM → zO} {L st : List zV} {M : zM} {v0 v1 v2 v3 v4 v5 v6 v7 : zV} (hz : zroom st = true) : zcont ph d j (zstep ph cl 70 nx tg [8, 0, -1] L (v7 :: v6 :: v5 :: v4 :: v3 :: v2 :: v1 :: v0 :: st) M) = zb0 (cl tg [v0, v1, v2, v3, v4, v5, v6, v7] M) (fun M1 => zEv ph d j nx L st M1) := by
  show zcont ph d j (Option.map (fun q : List zV × zM => Sum.inl (nx, L, q.1, q.2)) (if zroom st = true ∧ ((-1 : Int) = -1 ∨ (([v0, v1, v2, v3, v4, v5, v6, v7] : List zV).headD (3, 0, 0)).1 = -1) then (match cl tg [v0, v1, v2, v3, v4, v5, v6, v7] M with | some (w, M1) => if (0 : Int) = 0 then (if w.1 = 98 then some (st, M1) else none) else if w.1 < 98 then some (w :: st, M1) else none | none => none) else none)) = _
  rw [if_pos ⟨hz, Or.inl rfl⟩]
  cases h : cl tg [v0, v1, v2, v3, v4, v5, v6, v7] M with
  | none => rfl
  | some q =>
    obtain ⟨w, M1⟩ := q
    unfold zb0
    by_cases hw : w.1 = 98
    · simp [hw, zcont]
    · simp [hw, zcont]
theorem k_s8r {ph : Bool} {d j nx tg : Nat} {cl : Nat → List zV → zM → zO} {L st : List zV} {M : zM} {v0 v1 v2 v3 v4 v5 v6 v7 : zV} (hz : zroom st = true) : zcont ph d j (zstep ph cl 70 nx tg [8, 1, -1] L (v7 :: v6 :: v5 :: v4 :: v3 :: v2 :: v1 :: v0 :: st) M) = zb1 (cl tg [v0, v1, v2, v3, v4, v5, v6, v7] M) (fun w M1 => zEv ph d j nx L (w :: st) M1) := by
  show zcont ph d j (Option.map (fun q : List zV × zM => Sum.inl (nx, L, q.1, q.2)) (if zroom st = true ∧ ((-1 : Int) = -1 ∨ (([v0, v1, v2, v3, v4, v5, v6, v7] : List zV).headD (3, 0, 0)).1 = -1) then (match cl tg [v0, v1, v2, v3, v4, v5, v6, v7] M with | some (w, M1) => if (1 : Int) = 0 then (if w.1 = 98 then some (st, M1) else none) else if w.1 < 98 then some (w :: st, M1) else none | none => none) else none)) = _
  rw [if_pos ⟨hz, Or.inl rfl⟩]
  cases h : cl tg [v0, v1, v2, v3, v4, v5, v6, v7] M with
  | none => rfl
  | some q =>
    obtain ⟨w, M1⟩ := q
    unfold zb1
    by_cases hw : w.1 < 98
    · simp [hw, zcont]
    · simp [hw, zcont]
theorem k_v8 {ph : Bool} {d j nx tg : Nat} {cl : Nat → List zV → zM → zO} {L st : List zV} {M : zM} {v1 v2 v3 v4 v5 v6 v7 : zV} {t a x : Int} (hz : zroom st = true) : zcont ph d j (zstep ph cl 70 nx tg [8, 0, t] L (v7 :: v6 :: v5 :: v4 :: v3 :: v2 :: v1 :: (t, a, x) :: st) M) = zb0 (cl tg [(t, a, x), v1, v2, v3, v4, v5, v6, v7] M) (fun M1 => zEv ph d j nx L st M1) := by
  show zcont ph d j (Option.map (fun q : List zV × zM => Sum.inl (nx, L, q.1, q.2)) (if zroom st = true ∧ ((t : Int) = -1 ∨ (([(t, a, x), v1, v2, v3, v4, v5, v6, v7] : List zV).headD (3, 0, 0)).1 = t) then (match cl tg [(t, a, x), v1, v2, v3, v4, v5, v6, v7] M with | some (w, M1) => if (0 : Int) = 0 then (if w.1 = 98 then some (st, M1) else none) else if w.1 < 98 then some (w :: st, M1) else none | none => none) else none)) = _
  rw [if_pos ⟨hz, Or.inr rfl⟩]
  cases h : cl tg [(t, a, x), v1, v2, v3, v4, v5, v6, v7] M with
  | none => rfl
  | some q =>
    obtain ⟨w, M1⟩ := q
    unfold zb0
    by_cases hw : w.1 = 98
    · simp [hw, zcont]
    · simp [hw, zcont]
theorem k_v8r {ph : Bool} {d j nx tg : Nat} {cl : Nat → List zV → zM → zO} {L st : List zV} {M : zM} {v1 v2 v3 v4 v5 v6 v7 : zV} {t a x : Int} (hz : zroom st = true) : zcont ph d j (zstep ph cl 70 nx tg [8, 1, t] L (v7 :: v6 :: v5 :: v4 :: v3 :: v2 :: v1 :: (t, a, x) :: st) M) = zb1 (cl tg [(t, a, x), v1, v2, v3, v4, v5, v6, v7] M) (fun w M1 => zEv ph d j nx L (w :: st) M1) := by
  show zcont ph d j (Option.map (fun q : List zV × zM => Sum.inl (nx, L, q.1, q.2)) (if zroom st = true ∧ ((t : Int) = -1 ∨ (([(t, a, x), v1, v2, v3, v4, v5, v6, v7] : List zV).headD (3, 0, 0)).1 = t) then (match cl tg [(t, a, x), v1, v2, v3, v4, v5, v6, v7] M with | some (w, M1) => if (1 : Int) = 0 then (if w.1 = 98 then some (st, M1) else none) else if w.1 < 98 then some (w :: st, M1) else none | none => none) else none)) = _
  rw [if_pos ⟨hz, Or.inr rfl⟩]
  cases h : cl tg [(t, a, x), v1, v2, v3, v4, v5, v6, v7] M with
  | none => rfl
  | some q =>
    obtain ⟨w, M1⟩ := q
    unfold zb1
    by_cases hw : w.1 < 98
    · simp [hw, zcont]
    · simp [hw, zcont]
theorem k_max {ph : Bool} {d j nx tg : Nat} {cl : Nat → List zV → zM → zO} {L st : List zV} {M : zM} {r : List Int} {a b x y : Int} (hz : zroom st = true) : zcont ph d j (zstep ph cl 71 nx tg r L ((0, b, x) :: (0, a, y) :: st) M) = zEv ph d j nx L ((0, if a < b then b else a, 0) :: st) M := by simp [zstep, zF6, zF6_m, zcont, hz]
theorem k_min {ph : Bool} {d j nx tg : Nat} {cl : Nat → List zV → zM → zO} {L st : List zV} {M : zM} {r : List Int} {a b x y : Int} (hz : zroom st = true) : zcont ph d j (zstep ph cl 72 nx tg r L ((0, b, x) :: (0, a, y) :: st) M) = zEv ph d j nx L ((0, if b < a then b else a, 0) :: st) M := by simp [zstep, zF6, zF6_m, zcont, hz]
theorem k_abs {ph : Bool} {d j nx tg : Nat} {cl : Nat → List zV → zM → zO} {L st : List zV} {M : zM} {r : List Int} {a x : Int} (hz : zroom st = true) : zcont ph d j (zstep ph cl 73 nx tg r L ((0, a, x) :: st) M) = zEv ph d j nx L ((0, if 0 ≤ a then a else z32 (0 - a), 0) :: st) M := by simp [zstep, zF6, zF6_a, zcont, hz]
theorem k_cpy {ph : Bool} {d j nx tg : Nat} {cl : Nat → List zV → zM → zO} {L st : List zV} {M : zM} {r : List Int} {t a b i k n dp sp x y z : Int} (hz : zroom st = true) (ht : t = 10 ∨ t = 11 ∨ t = 13) (ha : a ≠ b) (h1 : 0 ≤ sp) (h2 : 0 ≤ dp) (h3 : 0 ≤ n) (h4 : sp + n ≤ i) (h5 : dp + n ≤ k) : zcont ph d j (zstep ph cl 74 nx tg r L ((0, n, x) :: (0, dp, y) :: (t, b, k) :: (0, sp, z) :: (t, a, i) :: st) M) = zEv ph d j nx L st (zcpy M a sp b dp n) := by simp [zstep, zF6, zF6_c, zF6_o, zcont, hz, ht, ha, h1, h2, h3, h4, h5]
theorem k_cpyS {ph : Bool} {d j nx tg : Nat} {cl : Nat → List zV → zM → zO} {L st : List zV} {M : zM} {r : List Int} {a b i k n dp sp x y z : Int} (hz : zroom st = true) (h1 : 0 ≤ sp) (h2 : 0 ≤ dp) (h3 : 0 ≤ n) (h4 : sp + n ≤ i) (h5 : dp + n ≤ k) : zcont ph d j (zstep ph cl 74 nx tg r L ((0, n, x) :: (0, dp, y) :: (13, b, k) :: (0, sp, z) :: (9, a, i) :: st) M) = zEv ph d j nx L st (zcpyS M a sp b dp n) := by simp [zstep, zF6, zF6_c, zF6_o, zcont, hz, h1, h2, h3, h4, h5]
theorem k_oi {ph : Bool} {d j nx tg : Nat} {cl : Nat → List zV → zM → zO} {L st : List zV} {M : zM} {r : List Int} {t a n : Int} (hz : zroom st = true) (h : 20 ≤ t) : zcont ph d j (zstep ph cl 75 nx tg r L ((t, a, n) :: st) M) = zEv ph d j nx L st M := by simp [zstep, zF6, zF6_c, zF6_o, zcont, hz, h]
theorem k_ord {ph : Bool} {d j nx tg : Nat} {cl : Nat → List zV → zM → zO} {L st : List zV} {M : zM} {r : List Int} {e n : Int} (hz : zroom st = true) : zcont ph d j (zstep ph cl 76 nx tg r L ((4, e, n) :: st) M) = zEv ph d j nx L ((0, e - 1, 0) :: st) M := by simp [zstep, zF5, zF5_o, zcont, hz]
theorem k_en {ph : Bool} {d j nx tg : Nat} {cl : Nat → List zV → zM → zO} {L st : List zV} {M : zM} {e : Int} : zcont ph d j (zstep ph cl 77 nx tg [e] L st M) = zEv ph d j nx L ((4, e, 0) :: st) M := rfl
theorem k_sw {ph : Bool} {d j nx tg : Nat} {cl : Nat → List zV → zM → zO} {L st : List zV} {M : zM} {k n : Int} : zcont ph d j (zstep ph cl 78 nx tg [k, n] L st M) = zEv ph d j nx L ((5, k, n) :: st) M := rfl
theorem k_ws {ph : Bool} {d j nx tg : Nat} {cl : Nat → List zV → zM → zO} {L st : List zV} {M : zM} {n : Int} : zcont ph d j (zstep ph cl 79 nx tg [n] L st M) = zEv ph d j nx L ((6, 0, n) :: st) M := rfl
theorem k_str {ph : Bool} {d j nx tg : Nat} {cl : Nat → List zV → zM → zO} {L st : List zV} {M : zM} {k n : Int} : zcont ph d j (zstep ph cl 97 nx tg [k, n] L st M) = zEv ph d j nx L ((8, k, n) :: st) M := rfl
theorem k_dig {ph : Bool} {d j nx tg : Nat} {cl : Nat → List zV → zM → zO} {L st : List zV} {M : zM} {k n : Int} : zcont ph d j (zstep ph cl 102 nx tg [k, n] L st M) = zEv ph d j nx L ((7, k, n) :: st) M := rfl
theorem k_fmt {ph : Bool} {d j nx tg : Nat} {cl : Nat → List zV → zM → zO} {L st : List zV} {M : zM} {r : List Int} : zcont ph d j (zstep ph cl 103 nx tg r L st M) = zEv ph d j nx L ((17, 0, 0) :: st) M := rfl
theorem k_ri {ph : Bool} {d j nx tg : Nat} {cl : Nat → List zV → zM → zO} {L : List zV} {M : zM} {x n : Int} : zcont ph d j (zstep ph cl 80 nx tg [] L [(0, x, n)] M) = some ((0, x, 0), M) := rfl
theorem k_rz {ph : Bool} {d j nx tg : Nat} {cl : Nat → List zV → zM → zO} {L : List zV} {M : zM} {lo hi x n : Int} (h : lo ≤ x) (h2 : x ≤ hi) : zcont ph d j (zstep ph cl 80 nx tg [lo, hi] L [(0, x, n)] M) = some ((0, x, 0), M) := by simp [zstep, zF7, zin, zcont, h, h2]
theorem k_rl {ph : Bool} {d j nx tg : Nat} {cl : Nat → List zV → zM → zO} {L : List zV} {M : zM} {r : List Int} {x n : Int} : zcont ph d j (zstep ph cl 81 nx tg r L [(1, x, n)] M) = some ((1, x, 0), M) := rfl
theorem k_ra {ph : Bool} {d j nx tg : Nat} {cl : Nat → List zV → zM → zO} {L : List zV} {M : zM} {r : List Int} {t x n : Int} (h : 4 ≤ t) (h2 : t < 98) : zcont ph d j (zstep ph cl 82 nx tg r L [(t, x, n)] M) = some ((t, x, n), M) := by simp [zstep, zF7, zcont, h, h2]
theorem k_rv {ph : Bool} {d j nx tg : Nat} {cl : Nat → List zV → zM → zO} {L : List zV} {M : zM} {r : List Int} : zcont ph d j (zstep ph cl 83 nx tg r L [] M) = some ((98, 0, 0), M) := rfl
theorem k_thr {ph : Bool} {d j nx tg : Nat} {cl : Nat → List zV → zM → zO} {L st : List zV} {M : zM} {r : List Int} : zcont ph d j (zstep ph cl 96 nx tg r L st M) = some ((99, 0, 0), zthr M) := rfl
theorem k_len {ph : Bool} {d j nx tg : Nat} {cl : Nat → List zV → zM → zO} {L st : List zV} {M : zM} {r : List Int} {t a n : Int} (h : 5 ≤ t) (h2 : t < 20) (h3 : t ≠ 8) (h4 : t ≠ 17) : zcont ph d j (zstep ph cl 84 nx tg r L ((t, a, n) :: st) M) = zEv ph d j nx L ((0, n, 0) :: st) M := by simp [zstep, zF4, zF4_n, zF4_l, zF4_s, zF4_a, zr0, zr1, zcont, h, h2, h3, h4]
theorem k_ild {ph : Bool} {d j nx tg : Nat} {cl : Nat → List zV → zM → zO} {L st : List zV} {M : zM} {r : List Int} {i x a n : Int} (h : 0 ≤ i) (h2 : i < n) : zcont ph d j (zstep ph cl 85 nx tg r L ((0, i, x) :: (10, a, n) :: st) M) = zEv ph d j nx L ((0, M a i, 0) :: st) M := by simp [zstep, zF4, zF4_n, zF4_l, zF4_s, zF4_a, zr0, zr1, zcont, h, h2]
theorem k_ildS {ph : Bool} {d j nx tg : Nat} {cl : Nat → List zV → zM → zO} {L st : List zV} {M : zM} {r : List Int} {i x a n : Int} (h : 0 ≤ i) (h2 : i < n) : zcont ph d j (zstep ph cl 85 nx tg r L ((0, i, x) :: (16, a, n) :: st) M) = zEv ph d j nx L ((0, M a i, 0) :: st) M := by simp [zstep, zF4, zF4_n, zF4_l, zF4_s, zF4_a, zr0, zr1, zcont, h, h2]
theorem k_ildW {ph : Bool} {d j nx tg : Nat} {cl : Nat → List zV → zM → zO} {L st : List zV} {M : zM} {r : List Int} {i x a n : Int} (h : 0 ≤ i) (h2 : i < n) : zcont ph d j (zstep ph cl 85 nx tg r L ((0, i, x) :: (5, a, n) :: st) M) = zEv ph d j nx L ((0, zsta 5 a i, 0) :: st) M := by simp [zstep, zF4, zF4_n, zF4_l, zF4_s, zF4_a, zr0, zr1, zcont, h, h2]
theorem k_lld {ph : Bool} {d j nx tg : Nat} {cl : Nat → List zV → zM → zO} {L st : List zV} {M : zM} {r : List Int} {i x a n : Int} (h : 0 ≤ i) (h2 : i < n) : zcont ph d j (zstep ph cl 86 nx tg r L ((0, i, x) :: (11, a, n) :: st) M) = zEv ph d j nx L ((1, M a i, 0) :: st) M := by simp [zstep, zF4, zF4_n, zF4_l, zF4_s, zF4_a, zr0, zr1, zcont, h, h2]
theorem k_bldZ {ph : Bool} {d j nx tg : Nat} {cl : Nat → List zV → zM → zO} {L st : List zV} {M : zM} {r : List Int} {i x a n : Int} (h : 0 ≤ i) (h2 : i < n) : zcont ph d j (zstep ph cl 87 nx tg r L ((0, i, x) :: (12, a, n) :: st) M) = zEv ph d j nx L ((0, M a i, 0) :: st) M := by simp [zstep, zF4, zF4_n, zF4_l, zF4_s, zF4_a, zr0, zr1, zcont, h, h2]
theorem k_bldB {ph : Bool} {d j nx tg : Nat} {cl : Nat → List zV → zM → zO} {L st : List zV} {M : zM} {r : List Int} {i x a n : Int} (h : 0 ≤ i) (h2 : i < n) : zcont ph d j (zstep ph cl 87 nx tg r L ((0, i, x) :: (13, a, n) :: st) M) = zEv ph d j nx L ((0, M a i, 0) :: st) M := by simp [zstep, zF4, zF4_n, zF4_l, zF4_s, zF4_a, zr0, zr1, zcont, h, h2]
theorem k_bldD {ph : Bool} {d j nx tg : Nat} {cl : Nat → List zV → zM → zO} {L st : List zV} {M : zM} {r : List Int} {i x a n : Int} (h : 0 ≤ i) (h2 : i < n) : zcont ph d j (zstep ph cl 87 nx tg r L ((0, i, x) :: (7, a, n) :: st) M) = zEv ph d j nx L ((0, zsta 7 a i, 0) :: st) M := by simp [zstep, zF4, zF4_n, zF4_l, zF4_s, zF4_a, zr0, zr1, zcont, h, h2]
theorem k_bldT {ph : Bool} {d j nx tg : Nat} {cl : Nat → List zV → zM → zO} {L st : List zV} {M : zM} {r : List Int} {i x a n : Int} (h : 0 ≤ i) (h2 : i < n) : zcont ph d j (zstep ph cl 87 nx tg r L ((0, i, x) :: (9, a, n) :: st) M) = zEv ph d j nx L ((0, zsta 9 a i, 0) :: st) M := by simp [zstep, zF4, zF4_n, zF4_l, zF4_s, zF4_a, zr0, zr1, zcont, h, h2]
theorem k_aldS {ph : Bool} {d j nx tg : Nat} {cl : Nat → List zV → zM → zO} {L st : List zV} {M : zM} {r : List Int} {i x a n : Int} (h : 0 ≤ i) (h2 : i < n) (h3 : 0 < M a i) : zcont ph d j (zstep ph cl 88 nx tg r L ((0, i, x) :: (14, a, n) :: st) M) = zEv ph d j nx L ((26, M a i, 0) :: st) M := by simp [zstep, zF4, zF4_n, zF4_l, zF4_s, zF4_a, zr0, zr1, zcont, h, h2, h3]
theorem k_aldI {ph : Bool} {d j nx tg : Nat} {cl : Nat → List zV → zM → zO} {L st : List zV} {M : zM} {r : List Int} {i x a n : Int} (h : 0 ≤ i) (h2 : i < n) (h3 : 0 < M a i) : zcont ph d j (zstep ph cl 88 nx tg r L ((0, i, x) :: (15, a, n) :: st) M) = zEv ph d j nx L ((21, M a i, 0) :: st) M := by simp [zstep, zF4, zF4_n, zF4_l, zF4_s, zF4_a, zr0, zr1, zcont, h, h2, h3]
theorem k_aldW {ph : Bool} {d j nx tg : Nat} {cl : Nat → List zV → zM → zO} {L st : List zV} {M : zM} {r : List Int} {i x a n : Int} (h : 0 ≤ i) (h2 : i < n) : zcont ph d j (zstep ph cl 88 nx tg r L ((0, i, x) :: (6, a, n) :: st) M) = zEv ph d j nx L ((4, i + 1, 0) :: st) M := by simp [zstep, zF4, zF4_n, zF4_l, zF4_s, zF4_a, zr0, zr1, zcont, h, h2]
theorem k_ist {ph : Bool} {d j nx tg : Nat} {cl : Nat → List zV → zM → zO} {L st : List zV} {M : zM} {r : List Int} {i x a n v y : Int} (h : 0 ≤ i) (h2 : i < n) : zcont ph d j (zstep ph cl 89 nx tg r L ((0, v, y) :: (0, i, x) :: (10, a, n) :: st) M) = zEv ph d j nx L st (zup M a i v) := by simp [zstep, zF4, zF4_n, zF4_l, zF4_s, zF4_a, zr0, zr1, zcont, h, h2]
theorem k_lst {ph : Bool} {d j nx tg : Nat} {cl : Nat → List zV → zM → zO} {L st : List zV} {M : zM} {r : List Int} {i x a n v y : Int} (h : 0 ≤ i) (h2 : i < n) : zcont ph d j (zstep ph cl 90 nx tg r L ((1, v, y) :: (0, i, x) :: (11, a, n) :: st) M) = zEv ph d j nx L st (zup M a i v) := by simp [zstep, zF4, zF4_n, zF4_l, zF4_s, zF4_a, zr0, zr1, zcont, h, h2]
theorem k_bstZ {ph : Bool} {d j nx tg : Nat} {cl : Nat → List zV → zM → zO} {L st : List zV} {M : zM} {r : List Int} {i x a n v y : Int} (h : 0 ≤ i) (h2 : i < n) (h3 : 0 ≤ v) (h4 : v ≤ 1) : zcont ph d j (zstep ph cl 91 nx tg r L ((0, v, y) :: (0, i, x) :: (12, a, n) :: st) M) = zEv ph d j nx L st (zup M a i v) := by simp [zstep, zF4, zF4_n, zF4_l, zF4_s, zF4_a, zr0, zr1, zcont, h, h2, h3, h4]
theorem k_bstB {ph : Bool} {d j nx tg : Nat} {cl : Nat → List zV → zM → zO} {L st : List zV} {M : zM} {r : List Int} {i x a n v y : Int} (h : 0 ≤ i) (h2 : i < n) (h3 : -128 ≤ v) (h4 : v < 128) : zcont ph d j (zstep ph cl 91 nx tg r L ((0, v, y) :: (0, i, x) :: (13, a, n) :: st) M) = zEv ph d j nx L st (zup M a i v) := by simp [zstep, zF4, zF4_n, zF4_l, zF4_s, zF4_a, zr0, zr1, zcont, h, h2, h3, h4]
theorem k_ast {ph : Bool} {d j nx tg : Nat} {cl : Nat → List zV → zM → zO} {L st : List zV} {M : zM} {r : List Int} {i x a n b y : Int} (h : 0 ≤ i) (h2 : i < n) (h3 : 0 < b) : zcont ph d j (zstep ph cl 92 nx tg r L ((26, b, y) :: (0, i, x) :: (14, a, n) :: st) M) = zEv ph d j nx L st (zup M a i b) := by simp [zstep, zF4, zF4_n, zF4_l, zF4_s, zF4_a, zr0, zr1, zcont, h, h2, h3]
theorem k_na {ph : Bool} {d j nx tg : Nat} {cl : Nat → List zV → zM → zO} {L st : List zV} {M : zM} {u n x : Int} (h : 0 ≤ n) (h2 : n ≤ 4096) : zcont ph d j (zstep ph cl 93 nx tg [u] L ((0, n, x) :: st) M) = zEv ph d j nx L ((u, M (-1) 0, n) :: st) (znew M n) := by simp [zstep, zF4, zF4_n, zF4_l, zF4_s, zF4_a, zr0, zr1, zcont, h, h2]
