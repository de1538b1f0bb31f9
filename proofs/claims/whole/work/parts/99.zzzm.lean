/-! the construction, computed: a memory as numbers and a list of what was written -/
abbrev cS : Type := Int × Int × Int × List (Int × Int × Int)
def clk : List (Int × Int × Int) → Int → Int → Int
  | [], _, _ => 0
  | (a, k, v) :: l, x, y => if x = a ∧ y = k then v else clk l x y
def cmem (f : Int → Int) (q : cS) : zM := fun x y => if x = -1 then (if y = 0 then q.1 else if y = 1 then q.2.1 else if y = 2 then q.2.2.1 else 0) else if x = -2 then f y else clk q.2.2.2 x y
def cok (q : cS) : Prop := 0 ≤ q.1 ∧ ∀ w ∈ q.2.2.2, w.1 < q.1
def cput (q : cS) (a k v : Int) : cS := (q.1, q.2.1, q.2.2.1, (a, k, v) :: q.2.2.2)
def cnew (q : cS) (n : Int) : cS := (q.1 + 1, q.2.1 + 1, q.2.2.1 + n, q.2.2.2)
theorem clk_new {l : List (Int × Int × Int)} {n : Int} (h : ∀ w ∈ l, w.1 < n) : ∀ y, clk l n y = 0 := by
  induction l with
  | nil => intro y; rfl
  | cons w l ih =>
    intro y
    obtain ⟨a, k, v⟩ := w
    have h1 : a < n := h _ List.mem_cons_self
    unfold clk
    rw [if_neg (by omega)]
    exact ih (fun w hw => h w (List.mem_cons_of_mem _ hw)) y
theorem cmem_put {f : Int → Int} {q : cS} {a k v : Int} (ha : 0 ≤ a) : cmem f (cput q a k v) = zup (cmem f q) a k v := by
  funext x y
  unfold cmem cput zup
  dsimp only
  by_cases c1 : x = -1
  · rw [if_neg (show ¬ (x = a ∧ y = k ∧ x ≠ -1) from fun z => z.2.2 c1), if_pos c1, if_pos c1]
  rw [if_neg c1, if_neg c1]
  by_cases c2 : x = -2
  · rw [if_neg (show ¬ (x = a ∧ y = k ∧ x ≠ -1) from fun z => by omega), if_pos c2, if_pos c2]
  rw [if_neg c2, if_neg c2]
  show (if x = a ∧ y = k then v else clk q.2.2.2 x y) = _
  by_cases c3 : x = a ∧ y = k
  · rw [if_pos c3, if_pos ⟨c3.1, c3.2, c1⟩]
  · rw [if_neg c3, if_neg (fun z => c3 ⟨z.1, z.2.1⟩)]
theorem cmem_new {f : Int → Int} {q : cS} {n : Int} (hq : cok q) : cmem f (cnew q n) = znew (cmem f q) n := by
  have h0 : cmem f q (-1) 0 = q.1 := rfl
  have h1 : cmem f q (-1) 1 = q.2.1 := rfl
  have h2 : cmem f q (-1) 2 = q.2.2.1 := rfl
  funext x y
  unfold znew
  rw [h0, h1, h2]
  by_cases c1 : x = -1
  · subst c1
    rw [if_pos rfl]
    unfold cmem cnew
    dsimp only
    rw [if_pos rfl]
    by_cases y0 : y = 0
    · rw [if_pos y0, if_pos y0]
    rw [if_neg y0, if_neg y0]
    by_cases y1 : y = 1
    · rw [if_pos y1, if_pos y1]
    rw [if_neg y1, if_neg y1]
    by_cases y2 : y = 2
    · rw [if_pos y2, if_pos y2]
    rw [if_neg y2, if_neg y2, if_pos rfl, if_neg y0, if_neg y1, if_neg y2]
  · rw [if_neg c1]
    by_cases c3 : x = q.1
    · rw [if_pos c3]
      unfold cmem cnew
      dsimp only
      have := hq.1
      rw [if_neg c1, if_neg (by omega), c3]
      exact clk_new hq.2 y
    · rw [if_neg c3]
      unfold cmem cnew
      rw [if_neg c1, if_neg c1]
theorem cok_put {q : cS} {a k v : Int} (h : cok q) (ha : a < q.1) : cok (cput q a k v) := ⟨h.1, fun w hw => by
  rcases List.mem_cons.mp hw with rfl | hw
  · exact ha
  · exact h.2 w hw⟩
theorem cok_new {q : cS} {n : Int} (h : cok q) : cok (cnew q n) := ⟨by have := h.1; show 0 ≤ q.1 + 1; omega, fun w hw => by have := h.2 w hw; show w.1 < q.1 + 1; omega⟩
/-- one step, computed -/
def cstep (cl : Nat → List zV → cS → Option (zV × cS)) (op nx tg : Nat) (r : List Int) (L st : List zV) (q : cS) : Option ((Nat × List zV × List zV × cS) ⊕ (zV × cS)) :=
  if op < 10 then (zF0 op r L st).map fun w => .inl (nx, w.1, w.2, q)
  else if op < 40 then (zF1 op st).map fun w => .inl (nx, L, w, q)
  else if op < 60 then (zF2 op nx tg r st).map fun w => .inl (w.1, L, w.2, q)
  else if op = 62 then (match st with
    | (t, a, _) :: s => if t = zr0 r ∧ 0 ≤ a ∧ clk q.2.2.2 a (zr1 r) = 1 then some (.inl (nx, L, (zr3 r, a + zr2 r, zr4 r) :: s, q)) else none
    | _ => none)
  else if op = 65 then (match st with
    | (u, v, _) :: (t, a, _) :: s => if t = zr0 r ∧ u = 0 ∧ zin2 r v = true ∧ 0 ≤ a ∧ a < q.1 then some (.inl (nx, L, s, cput q a (zr1 r) v)) else none
    | _ => none)
  else if op = 67 then (match st with
    | (u, v, k) :: (t, a, _) :: s => if t = zr0 r ∧ u = zr3 r ∧ v = a + zr2 r ∧ k = zr4 r ∧ 0 ≤ a ∧ a < q.1 then some (.inl (nx, L, s, cput q a (zr1 r) 1)) else none
    | _ => none)
  else if op = 68 then (match st with
    | (u, v, _) :: (t, a, _) :: s => if t = zr0 r ∧ u = 4 ∧ 0 ≤ a ∧ a < q.1 then some (.inl (nx, L, s, cput q a (zr1 r) v)) else none
    | _ => none)
  else if op = 69 then (match st with
    | (u, v, k) :: (t, a, _) :: s => if t = zr0 r ∧ u = zr2 r ∧ 0 < v ∧ 0 ≤ a ∧ a < q.1 then some (.inl (nx, L, s, cput (cput q a (zr1 r) v) a (1000 + zr1 r) k)) else none
    | _ => none)
  else if op = 70 then (match r with
    | [n, v, t] => (match zargs n.toNat [] st with
      | some (as, s) => if zroom s = true ∧ (t = -1 ∨ (as.headD (3, 0, 0)).1 = t) then (match cl tg as q with
        | some (w, q1) => if v = 0 then (if w.1 = 98 then some (.inl (nx, L, s, q1)) else none) else if w.1 < 98 then some (.inl (nx, L, w :: s, q1)) else none
        | none => none) else none
      | none => none)
    | _ => none)
  else if op = 75 then (zF6_o st).map fun w => .inl (nx, L, w, q)
  else if op = 77 then (zF5 op r st).map fun w => .inl (nx, L, w, q)
  else if op < 80 then none
  else if op < 84 then (zF7 op r st).map fun v => .inr (v, q)
  else if op = 84 then (zF4_n st).map fun w => .inl (nx, L, w, q)
  else if op = 85 then (match st with
    | (b, i, _) :: (t, a, n) :: s => if b = 0 ∧ 0 ≤ i ∧ i < n ∧ t = 10 ∧ 0 ≤ a then some (.inl (nx, L, (0, clk q.2.2.2 a i, 0) :: s, q)) else none
    | _ => none)
  else if op = 89 then (match st with
    | (u, v, _) :: (b, i, _) :: (t, a, n) :: s => if b = 0 ∧ 0 ≤ i ∧ i < n ∧ t = 10 ∧ u = 0 ∧ 0 ≤ a ∧ a < q.1 then some (.inl (nx, L, s, cput q a i v)) else none
    | _ => none)
  else if op = 92 then (match st with
    | (u, v, _) :: (b, i, _) :: (t, a, n) :: s => if b = 0 ∧ 0 ≤ i ∧ i < n ∧ (t = 14 ∧ u = 26 ∨ t = 15 ∧ u = 21) ∧ 0 < v ∧ 0 ≤ a ∧ a < q.1 then some (.inl (nx, L, s, cput q a i v)) else none
    | _ => none)
  else if op < 93 then none
  else if op < 95 then (match st with
    | (b, n, _) :: s => if b = 0 ∧ 0 ≤ n ∧ n ≤ 4096 then some (.inl (nx, L, (zr0 r, q.1, n) :: s, cnew q n)) else none
    | _ => none)
  else if op = 95 then (if 0 ≤ zr1 r then some (.inl (nx, L, (zr0 r, q.1, 0) :: st, cnew q (zr1 r))) else none)
  else none
def cexec (cl : Nat → List zV → cS → Option (zV × cS)) (j : Nat) : Nat → Nat → List zV → List zV → cS → Option (zV × cS)
  | 0, _, _, _, _ => none
  | n + 1, pc, L, st, q => match zfetch j pc with
    | none => none
    | some (op, nx, tg, r) => match cstep cl op nx tg r L st q with
      | none => none
      | some (.inl c) => cexec cl j n c.1 c.2.1 c.2.2.1 c.2.2.2
      | some (.inr o) => some o
def cEm (fuel : Nat) : Nat → Nat → List zV → cS → Option (zV × cS)
  | 0 => fun _ _ _ => none
  | d + 1 => fun j as q => if j < 372 then (match zinit (zml j) as with
    | some L => cexec (cEm fuel d) j fuel 0 L [] q
    | none => none) else none
def cSnd (f : Int → Int) (cl : Nat → List zV → cS → Option (zV × cS)) (cz : Nat → List zV → zM → zO) : Prop := ∀ j as q v q', cok q → cl j as q = some (v, q') → cok q' ∧ cz j as (cmem f q) = some (v, cmem f q')
set_option maxHeartbeats 4000000 in
theorem cstep_inl {f : Int → Int} {cl : Nat → List zV → cS → Option (zV × cS)} {cz : Nat → List zV → zM → zO} (hs : cSnd f cl cz) {op nx tg : Nat} {r : List Int} {L st : List zV} {q : cS} {x : Nat × List zV × List zV × cS} (hq : cok q) (h : cstep cl op nx tg r L st q = some (.inl x)) : cok x.2.2.2 ∧ zstep false cz op nx tg r L st (cmem f q) = some (.inl (x.1, x.2.1, x.2.2.1, cmem f x.2.2.2)) := by
  have rd : ∀ a k, 0 ≤ a → cmem f q a k = clk q.2.2.2 a k := fun a k ha => by
    unfold cmem
    rw [if_neg (by omega), if_neg (by omega)]
  have r0 : cmem f q (-1) 0 = q.1 := rfl
  unfold cstep at h
  by_cases c10 : op < 10
  · rw [if_pos c10] at h
    obtain ⟨w, hw, h2⟩ := Option.map_eq_some_iff.mp h
    cases h2
    unfold zstep
    rw [if_pos c10, hw]
    exact ⟨hq, rfl⟩
  rw [if_neg c10] at h
  by_cases c40 : op < 40
  · rw [if_pos c40] at h
    obtain ⟨w, hw, h2⟩ := Option.map_eq_some_iff.mp h
    cases h2
    unfold zstep
    rw [if_neg c10, if_pos c40, hw]
    exact ⟨hq, rfl⟩
  rw [if_neg c40] at h
  by_cases c60 : op < 60
  · rw [if_pos c60] at h
    obtain ⟨w, hw, h2⟩ := Option.map_eq_some_iff.mp h
    cases h2
    unfold zstep
    rw [if_neg c10, if_neg c40, if_pos c60, hw]
    exact ⟨hq, rfl⟩
  rw [if_neg c60] at h
  by_cases c62 : op = 62
  · subst c62
    rw [if_pos rfl] at h
    split at h
    · rename_i t a n s
      split at h
      · rename_i hc
        cases h
        refine ⟨hq, ?_⟩
        show ((zF3 false 62 r ((t, a, n) :: s) (cmem f q)).map fun q => (Sum.inl (nx, L, q.1, q.2) : zC ⊕ (zV × zM))) = _
        rw [show zF3 false 62 r ((t, a, n) :: s) (cmem f q) = zF3_g false 62 r ((t, a, n) :: s) (cmem f q) from rfl]
        unfold zF3_g
        dsimp only
        rw [if_pos hc.1, if_neg (by decide), if_neg (by decide), if_pos rfl, if_pos (Or.inr (by rw [rd _ _ hc.2.1]; exact hc.2.2))]
        rfl
      · cases h
    · cases h
  rw [if_neg c62] at h
  by_cases c65 : op = 65
  · subst c65
    rw [if_pos rfl] at h
    split at h
    · rename_i u v k t a n s
      split at h
      · rename_i hc
        cases h
        refine ⟨cok_put hq hc.2.2.2.2, ?_⟩
        show ((zF3 false 65 r ((u, v, k) :: (t, a, n) :: s) (cmem f q)).map fun q => (Sum.inl (nx, L, q.1, q.2) : zC ⊕ (zV × zM))) = _
        rw [show zF3 false 65 r ((u, v, k) :: (t, a, n) :: s) (cmem f q) = zF3_p false 65 r ((u, v, k) :: (t, a, n) :: s) (cmem f q) from rfl]
        unfold zF3_p
        dsimp only
        rw [if_pos hc.1, if_pos rfl, if_pos ⟨hc.2.1, hc.2.2.1⟩, cmem_put hc.2.2.2.1]
        rfl
      · cases h
    · cases h
  rw [if_neg c65] at h
  by_cases c67 : op = 67
  · subst c67
    rw [if_pos rfl] at h
    split at h
    · rename_i u v k t a n s
      split at h
      · rename_i hc
        cases h
        refine ⟨cok_put hq hc.2.2.2.2.2, ?_⟩
        show ((zF3 false 67 r ((u, v, k) :: (t, a, n) :: s) (cmem f q)).map fun q => (Sum.inl (nx, L, q.1, q.2) : zC ⊕ (zV × zM))) = _
        rw [show zF3 false 67 r ((u, v, k) :: (t, a, n) :: s) (cmem f q) = zF3_p false 67 r ((u, v, k) :: (t, a, n) :: s) (cmem f q) from rfl]
        unfold zF3_p
        dsimp only
        rw [if_pos hc.1, if_neg (by decide), if_neg (by decide), if_pos rfl, if_pos ⟨rfl, hc.2.1, hc.2.2.1, hc.2.2.2.1⟩, cmem_put hc.2.2.2.2.1]
        rfl
      · cases h
    · cases h
  rw [if_neg c67] at h
  by_cases c68 : op = 68
  · subst c68
    rw [if_pos rfl] at h
    split at h
    · rename_i u v k t a n s
      split at h
      · rename_i hc
        cases h
        refine ⟨cok_put hq hc.2.2.2, ?_⟩
        show ((zF3 false 68 r ((u, v, k) :: (t, a, n) :: s) (cmem f q)).map fun q => (Sum.inl (nx, L, q.1, q.2) : zC ⊕ (zV × zM))) = _
        rw [show zF3 false 68 r ((u, v, k) :: (t, a, n) :: s) (cmem f q) = zF3_p false 68 r ((u, v, k) :: (t, a, n) :: s) (cmem f q) from rfl]
        unfold zF3_p
        dsimp only
        rw [if_pos hc.1, if_neg (by decide), if_neg (by decide), if_neg (by decide), if_pos rfl, if_pos hc.2.1, cmem_put hc.2.2.1]
        rfl
      · cases h
    · cases h
  rw [if_neg c68] at h
  by_cases c69 : op = 69
  · subst c69
    rw [if_pos rfl] at h
    split at h
    · rename_i u v k t a n s
      split at h
      · rename_i hc
        cases h
        refine ⟨cok_put (cok_put hq hc.2.2.2.2) hc.2.2.2.2, ?_⟩
        show ((zF3 false 69 r ((u, v, k) :: (t, a, n) :: s) (cmem f q)).map fun q => (Sum.inl (nx, L, q.1, q.2) : zC ⊕ (zV × zM))) = _
        rw [show zF3 false 69 r ((u, v, k) :: (t, a, n) :: s) (cmem f q) = zF3_p false 69 r ((u, v, k) :: (t, a, n) :: s) (cmem f q) from rfl]
        unfold zF3_p
        dsimp only
        rw [if_pos hc.1, if_neg (by decide), if_neg (by decide), if_neg (by decide), if_neg (by decide), if_pos ⟨hc.2.1, hc.2.2.1⟩, cmem_put hc.2.2.2.1, cmem_put hc.2.2.2.1]
        rfl
      · cases h
    · cases h
  rw [if_neg c69] at h
  by_cases c70 : op = 70
  · subst c70
    rw [if_pos rfl] at h
    split at h
    · rename_i n v t
      split at h
      · rename_i as s hargs
        split at h
        · rename_i hz
          split at h
          · rename_i w q1 hcl
            obtain ⟨k1, k2⟩ := hs _ _ _ _ _ hq hcl
            have e : zF8 cz tg [n, v, t] st (cmem f q) = if v = 0 then (if w.1 = 98 then some (s, cmem f q1) else none) else if w.1 < 98 then some (w :: s, cmem f q1) else none := by
              unfold zF8
              dsimp only
              rw [hargs]
              dsimp only
              rw [if_pos hz, k2]
            show cok x.2.2.2 ∧ ((zF8 cz tg [n, v, t] st (cmem f q)).map fun q => (Sum.inl (nx, L, q.1, q.2) : zC ⊕ (zV × zM))) = _
            rw [e]
            split at h
            · rename_i hv
              split at h
              · rename_i h98
                cases h
                rw [if_pos hv, if_pos h98]
                exact ⟨k1, rfl⟩
              · cases h
            · rename_i hv
              split at h
              · rename_i h98
                cases h
                rw [if_neg hv, if_pos h98]
                exact ⟨k1, rfl⟩
              · cases h
          · cases h
        · cases h
      · cases h
    · cases h
  rw [if_neg c70] at h
  by_cases c75 : op = 75
  · subst c75
    rw [if_pos rfl] at h
    obtain ⟨w, hw, h2⟩ := Option.map_eq_some_iff.mp h
    cases h2
    refine ⟨hq, ?_⟩
    show (((zF6_o st).map fun w => (w, cmem f q)).map fun q => (Sum.inl (nx, L, q.1, q.2) : zC ⊕ (zV × zM))) = _
    rw [hw]
    rfl
  rw [if_neg c75] at h
  by_cases c77 : op = 77
  · subst c77
    rw [if_pos rfl] at h
    obtain ⟨w, hw, h2⟩ := Option.map_eq_some_iff.mp h
    cases h2
    refine ⟨hq, ?_⟩
    show ((zF5 77 r st).map fun q' => (Sum.inl (nx, L, q', cmem f q) : zC ⊕ (zV × zM))) = _
    rw [hw]
    rfl
  rw [if_neg c77] at h
  by_cases c80 : op < 80
  · rw [if_pos c80] at h; cases h
  rw [if_neg c80] at h
  by_cases c84 : op < 84
  · rw [if_pos c84] at h
    obtain ⟨w, hw, h2⟩ := Option.map_eq_some_iff.mp h
    cases h2
  rw [if_neg c84] at h
  by_cases d84 : op = 84
  · subst d84
    rw [if_pos rfl] at h
    obtain ⟨w, hw, h2⟩ := Option.map_eq_some_iff.mp h
    cases h2
    refine ⟨hq, ?_⟩
    show (((zF4_n st).map fun w => (w, cmem f q)).map fun q => (Sum.inl (nx, L, q.1, q.2) : zC ⊕ (zV × zM))) = _
    rw [hw]
    rfl
  rw [if_neg d84] at h
  by_cases c85 : op = 85
  · subst c85
    rw [if_pos rfl] at h
    split at h
    · rename_i b i y t a n s
      split at h
      · rename_i hc
        obtain ⟨rfl, h1, h2, rfl, h4⟩ := hc
        cases h
        refine ⟨hq, ?_⟩
        show (((zF4_l 85 ((0, i, y) :: (10, a, n) :: s) (cmem f q)).map fun w => (w, cmem f q)).map fun q => (Sum.inl (nx, L, q.1, q.2) : zC ⊕ (zV × zM))) = _
        have e : zF4_l 85 ((0, i, y) :: (10, a, n) :: s) (cmem f q) = some ((0, clk q.2.2.2 a i, 0) :: s) := by
          simp [zF4_l, h1, h2, rd a i h4]
        rw [e]
        rfl
      · cases h
    · cases h
  rw [if_neg c85] at h
  by_cases c89 : op = 89
  · subst c89
    rw [if_pos rfl] at h
    split at h
    · rename_i u v k b i y t a n s
      split at h
      · rename_i hc
        obtain ⟨rfl, h1, h2, rfl, rfl, h4, h5⟩ := hc
        cases h
        refine ⟨cok_put hq h5, ?_⟩
        show ((zF4_s 89 ((0, v, k) :: (0, i, y) :: (10, a, n) :: s) (cmem f q)).map fun q => (Sum.inl (nx, L, q.1, q.2) : zC ⊕ (zV × zM))) = _
        have e : zF4_s 89 ((0, v, k) :: (0, i, y) :: (10, a, n) :: s) (cmem f q) = some (s, zup (cmem f q) a i v) := by
          simp [zF4_s, h1, h2]
        rw [e, ← cmem_put h4]
        rfl
      · cases h
    · cases h
  rw [if_neg c89] at h
  by_cases c92 : op = 92
  · subst c92
    rw [if_pos rfl] at h
    split at h
    · rename_i u v k b i y t a n s
      split at h
      · rename_i hc
        obtain ⟨rfl, h1, h2, h3, h6, h4, h5⟩ := hc
        cases h
        refine ⟨cok_put hq h5, ?_⟩
        show ((zF4_s 92 ((u, v, k) :: (0, i, y) :: (t, a, n) :: s) (cmem f q)).map fun q => (Sum.inl (nx, L, q.1, q.2) : zC ⊕ (zV × zM))) = _
        have e : zF4_s 92 ((u, v, k) :: (0, i, y) :: (t, a, n) :: s) (cmem f q) = some (s, zup (cmem f q) a i v) := by
          simp [zF4_s, h1, h2, h3, h6]
        rw [e, ← cmem_put h4]
        rfl
      · cases h
    · cases h
  rw [if_neg c92] at h
  by_cases c93 : op < 93
  · rw [if_pos c93] at h; cases h
  rw [if_neg c93] at h
  by_cases c95 : op < 95
  · rw [if_pos c95] at h
    split at h
    · rename_i b n y s
      split at h
      · rename_i hc
        obtain ⟨rfl, h1, h2⟩ := hc
        cases h
        refine ⟨cok_new hq, ?_⟩
        have e2 : zF4 false op r ((0, n, y) :: s) (cmem f q) = some ((zr0 r, q.1, n) :: s, znew (cmem f q) n) := by
          unfold zF4
          rw [if_neg d84, if_neg (by omega), if_neg (by omega), if_pos c95]
          show (if 0 ≤ n ∧ n ≤ 4096 then some ((zr0 r, cmem f q (-1) 0, n) :: s, znew (cmem f q) n) else none) = _
          rw [if_pos ⟨h1, h2⟩, r0]
        unfold zstep
        rw [if_neg c10, if_neg c40, if_neg c60, if_neg (by omega), if_neg c70, if_neg (by omega), if_neg (by omega), if_neg c84, if_neg (by omega), e2, ← cmem_new hq]
        rfl
      · cases h
    · cases h
  rw [if_neg c95] at h
  by_cases d95 : op = 95
  · subst d95
    rw [if_pos rfl] at h
    split at h
    · rename_i hr
      cases h
      refine ⟨cok_new hq, ?_⟩
      show ((zF4 false 95 r st (cmem f q)).map fun q => (Sum.inl (nx, L, q.1, q.2) : zC ⊕ (zV × zM))) = _
      have e2 : zF4 false 95 r st (cmem f q) = some ((zr0 r, q.1, 0) :: st, znew (cmem f q) (zr1 r)) := by
        show (if false = false ∧ 0 ≤ zr1 r then some ((zr0 r, cmem f q (-1) 0, 0) :: st, znew (cmem f q) (zr1 r)) else none) = _
        rw [if_pos ⟨rfl, hr⟩, r0]
      rw [e2, ← cmem_new hq]
      rfl
    · cases h
  rw [if_neg d95] at h
  cases h
theorem cstep_inr {f : Int → Int} {cl : Nat → List zV → cS → Option (zV × cS)} {cz : Nat → List zV → zM → zO} {op nx tg : Nat} {r : List Int} {L st : List zV} {q : cS} {o : zV × cS} (h : cstep cl op nx tg r L st q = some (.inr o)) : o.2 = q ∧ zstep false cz op nx tg r L st (cmem f q) = some (.inr (o.1, cmem f q)) := by
  have key : (80 ≤ op ∧ op < 84) ∧ zF7 op r st = some o.1 ∧ o.2 = q := by
    unfold cstep at h
    by_cases c0 : op < 10
    · rw [if_pos c0] at h
      obtain ⟨w, hw, h2⟩ := Option.map_eq_some_iff.mp h; cases h2
    rw [if_neg c0] at h
    by_cases c1 : op < 40
    · rw [if_pos c1] at h
      obtain ⟨w, hw, h2⟩ := Option.map_eq_some_iff.mp h; cases h2
    rw [if_neg c1] at h
    by_cases c2 : op < 60
    · rw [if_pos c2] at h
      obtain ⟨w, hw, h2⟩ := Option.map_eq_some_iff.mp h; cases h2
    rw [if_neg c2] at h
    by_cases c3 : op = 62
    · rw [if_pos c3] at h
      repeat' split at h
      all_goals cases h
    rw [if_neg c3] at h
    by_cases c4 : op = 65
    · rw [if_pos c4] at h
      repeat' split at h
      all_goals cases h
    rw [if_neg c4] at h
    by_cases c5 : op = 67
    · rw [if_pos c5] at h
      repeat' split at h
      all_goals cases h
    rw [if_neg c5] at h
    by_cases c6 : op = 68
    · rw [if_pos c6] at h
      repeat' split at h
      all_goals cases h
    rw [if_neg c6] at h
    by_cases c7 : op = 69
    · rw [if_pos c7] at h
      repeat' split at h
      all_goals cases h
    rw [if_neg c7] at h
    by_cases c8 : op = 70
    · rw [if_pos c8] at h
      repeat' split at h
      all_goals cases h
    rw [if_neg c8] at h
    by_cases c9 : op = 75
    · rw [if_pos c9] at h
      obtain ⟨w, hw, h2⟩ := Option.map_eq_some_iff.mp h; cases h2
    rw [if_neg c9] at h
    by_cases c10 : op = 77
    · rw [if_pos c10] at h
      obtain ⟨w, hw, h2⟩ := Option.map_eq_some_iff.mp h; cases h2
    rw [if_neg c10] at h
    by_cases c11 : op < 80
    · rw [if_pos c11] at h
      cases h
    rw [if_neg c11] at h
    by_cases c12 : op < 84
    · rw [if_pos c12] at h
      obtain ⟨w, hw, h2⟩ := Option.map_eq_some_iff.mp h
      cases h2
      exact ⟨⟨by omega, c12⟩, hw, rfl⟩
    rw [if_neg c12] at h
    by_cases c13 : op = 84
    · rw [if_pos c13] at h
      obtain ⟨w, hw, h2⟩ := Option.map_eq_some_iff.mp h; cases h2
    rw [if_neg c13] at h
    by_cases c14 : op = 85
    · rw [if_pos c14] at h
      repeat' split at h
      all_goals cases h
    rw [if_neg c14] at h
    by_cases c15 : op = 89
    · rw [if_pos c15] at h
      repeat' split at h
      all_goals cases h
    rw [if_neg c15] at h
    by_cases c16 : op = 92
    · rw [if_pos c16] at h
      repeat' split at h
      all_goals cases h
    rw [if_neg c16] at h
    by_cases c17 : op < 93
    · rw [if_pos c17] at h
      cases h
    rw [if_neg c17] at h
    by_cases c18 : op < 95
    · rw [if_pos c18] at h
      repeat' split at h
      all_goals cases h
    rw [if_neg c18] at h
    by_cases c19 : op = 95
    · rw [if_pos c19] at h
      repeat' split at h
      all_goals cases h
    rw [if_neg c19] at h
    cases h
  obtain ⟨⟨h80, h84⟩, hz, he⟩ := key
  refine ⟨he, ?_⟩
  unfold zstep
  rw [if_neg (by omega), if_neg (by omega), if_neg (by omega), if_neg (by omega), if_neg (by omega), if_neg (by omega), if_neg (by omega), if_pos h84, hz]
  rfl
theorem cexec_ok {f : Int → Int} {cl : Nat → List zV → cS → Option (zV × cS)} {cz : Nat → List zV → zM → zO} (hs : cSnd f cl cz) {j : Nat} : ∀ (n pc : Nat) (L st : List zV) (q : cS) (v : zV) (q' : cS), cok q → cexec cl j n pc L st q = some (v, q') → cok q' ∧ zexec false cz j n pc L st (cmem f q) = some (v, cmem f q')
  | 0, _, _, _, _, _, _, _, h => by cases h
  | n + 1, pc, L, st, q, v, q', hq, h => by
    unfold cexec at h
    unfold zexec
    split at h
    · cases h
    · rename_i op nx tg r hf
      rw [hf]
      dsimp only
      split at h
      · cases h
      · rename_i c hc
        obtain ⟨k1, k2⟩ := cstep_inl hs hq hc
        rw [k2]
        exact cexec_ok hs n _ _ _ _ _ _ k1 h
      · rename_i o hc
        cases h
        obtain ⟨k1, k2⟩ := cstep_inr (f := f) (cz := cz) hc
        rw [k2]
        dsimp only at k1
        rw [k1]
        exact ⟨hq, rfl⟩
theorem cEm_ok {f : Int → Int} {fuel : Nat} : ∀ d : Nat, cSnd f (cEm fuel d) (zEm false d)
  | 0 => fun j as q v q' _ h => by cases h
  | d + 1 => fun j as q v q' hq h => by
    unfold cEm at h
    split at h
    · rename_i hj
      split at h
      · rename_i L hL
        obtain ⟨k1, k2⟩ := cexec_ok (cEm_ok (f := f) (fuel := fuel) d) fuel 0 L [] q v q' hq h
        refine ⟨k1, ?_⟩
        rw [show zEm false (d + 1) j as (cmem f q) = (if j = 373 then zhelp (zEm false d) 5 as (cmem f q) else if j = 374 then zhelp (zEm false d) 7 as (cmem f q) else match zinit (zml j) as with
          | some L => zlim (fun n => zexec false (zEm false d) j n 0 L [] (cmem f q))
          | none => none) from rfl, if_neg (by omega), if_neg (by omega), hL]
        exact zlim_some (fun n k o => zexec_mono n k 0 L [] (cmem f q) o) k2
      · cases h
    · cases h
