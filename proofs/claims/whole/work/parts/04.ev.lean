/-! what a method's code comes to -/
def zspr : List zV → List zV
  | [] => []
  | (1, x, n) :: l => (1, x, n) :: (3, 0, 0) :: zspr l
  | v :: l => v :: zspr l
def zinit (n : Nat) (as : List zV) : Option (List zV) := if (zspr as).length ≤ n then some (zspr as ++ List.replicate (n - (zspr as).length) (3, 0, 0)) else none
def zexec (ph : Bool) (cl : Nat → List zV → zM → zO) (j : Nat) : Nat → Nat → List zV → List zV → zM → zO
  | 0, _, _, _, _ => none
  | n + 1, pc, L, st, M => match zfetch j pc with
    | none => none
    | some (op, nx, tg, r) => match zstep ph cl op nx tg r L st M with
      | none => none
      | some (.inl c) => zexec ph cl j n c.1 c.2.1 c.2.2.1 c.2.2.2
      | some (.inr o) => some o
/-- a call that is caught: 373 and 374 are the law's two helpers -/
def zhelp (cl : Nat → List zV → zM → zO) (c : Nat) (as : List zV) (M : zM) : zO :=
  match as with
  | [x, p0, p1, (11, o, n)] => match cl c [x, p0, p1] M with
    | some ((0, v, _), M1) => if 0 < n then some ((0, 0, 0), zup M1 o 0 v) else none
    | some ((99, _, _), M1) => some ((0, 1, 0), M1)
    | _ => none
  | _ => none
noncomputable def zlim (f : Nat → zO) : zO := @dite _ (∃ o, ∃ n, f n = some o) (Classical.propDecidable _) (fun h => some (Classical.choose h)) (fun _ => none)
noncomputable def zEm (ph : Bool) : Nat → Nat → List zV → zM → zO
  | 0 => fun _ _ _ => none
  | d + 1 => fun j as M =>
    if j = 373 then zhelp (zEm ph d) 5 as M else if j = 374 then zhelp (zEm ph d) 7 as M
    else match zinit (zml j) as with
      | some L => zlim (fun n => zexec ph (zEm ph d) j n 0 L [] M)
      | none => none
noncomputable def zEv (ph : Bool) (d j pc : Nat) (L st : List zV) (M : zM) : zO := zlim (fun n => zexec ph (zEm ph d) j n pc L st M)
noncomputable def zcont (ph : Bool) (d j : Nat) (s : zS) : zO :=
  match s with
  | none => none
  | some (.inl c) => zEv ph d j c.1 c.2.1 c.2.2.1 c.2.2.2
  | some (.inr o) => some o
theorem zexec_mono {ph : Bool} {cl : Nat → List zV → zM → zO} {j : Nat} : ∀ (n k pc : Nat) (L st : List zV) (M : zM) (o : zV × zM), zexec ph cl j n pc L st M = some o → zexec ph cl j (n + k) pc L st M = some o := by
  intro n
  induction n with
  | zero => intro k pc L st M o h; simp [zexec] at h
  | succ n ih =>
    intro k pc L st M o h
    rw [show n + 1 + k = (n + k) + 1 by omega]
    simp only [zexec] at h ⊢
    cases hf : zfetch j pc with
    | none => rw [hf] at h; simp at h
    | some e =>
      obtain ⟨op, nx, tg, r⟩ := e
      rw [hf] at h
      simp only at h ⊢
      cases hs : zstep ph cl op nx tg r L st M with
      | none => rw [hs] at h; simp at h
      | some q =>
        rw [hs] at h
        cases q with
        | inl c => exact ih k _ _ _ _ _ h
        | inr o' => exact h
theorem zlim_some {f : Nat → zO} (hm : ∀ n k o, f n = some o → f (n + k) = some o) {n : Nat} {o : zV × zM} (h : f n = some o) : zlim f = some o := by
  have he : ∃ o, ∃ n, f n = some o := ⟨o, n, h⟩
  unfold zlim
  rw [dif_pos he]
  obtain ⟨k, hk⟩ := Classical.choose_spec he
  have h1 := hm n k o h
  have h2 := hm k n _ hk
  rw [Nat.add_comm] at h2
  rw [h1] at h2
  rw [Option.some.inj h2]
theorem zlim_ex {f : Nat → zO} {o : zV × zM} (h : zlim f = some o) : ∃ n, f n = some o := by
  unfold zlim at h
  by_cases he : ∃ o, ∃ n, f n = some o
  · rw [dif_pos he] at h
    obtain ⟨k, hk⟩ := Classical.choose_spec he
    exact ⟨k, by rw [hk, h]⟩
  · rw [dif_neg he] at h
    cases h
theorem zlim_none {f : Nat → zO} (h : ∀ n, f n = none) : zlim f = none := by
  unfold zlim
  rw [dif_neg]
  rintro ⟨o, n, hn⟩
  rw [h n] at hn
  cases hn
theorem zEv_step {ph : Bool} {d j pc op nx tg : Nat} {r : List Int} {L st : List zV} {M : zM} (h : zfetch j pc = some (op, nx, tg, r)) :
    zEv ph d j pc L st M = zcont ph d j (zstep ph (zEm ph d) op nx tg r L st M) := by
  have key : ∀ n, zexec ph (zEm ph d) j (n + 1) pc L st M = match zstep ph (zEm ph d) op nx tg r L st M with
      | none => none
      | some (.inl c) => zexec ph (zEm ph d) j n c.1 c.2.1 c.2.2.1 c.2.2.2
      | some (.inr o) => some o := by
    intro n
    simp only [zexec, h]
  have hm : ∀ n k o, zexec ph (zEm ph d) j n pc L st M = some o → zexec ph (zEm ph d) j (n + k) pc L st M = some o := fun n k o => zexec_mono n k pc L st M o
  unfold zEv zcont
  cases hs : zstep ph (zEm ph d) op nx tg r L st M with
  | none =>
    refine zlim_none fun n => ?_
    cases n with
    | zero => rfl
    | succ n => rw [key n, hs]
  | some q =>
    cases q with
    | inr o => exact zlim_some hm (n := 1) (by rw [key 0, hs])
    | inl c =>
      show zlim _ = zEv ph d j c.1 c.2.1 c.2.2.1 c.2.2.2
      unfold zEv
      cases hl : zlim (fun n => zexec ph (zEm ph d) j n c.1 c.2.1 c.2.2.1 c.2.2.2) with
      | none =>
        refine zlim_none fun n => ?_
        cases n with
        | zero => rfl
        | succ n =>
          rw [key n, hs]
          cases hx : zexec ph (zEm ph d) j n c.1 c.2.1 c.2.2.1 c.2.2.2 with
          | none => exact hx
          | some o =>
            have := zlim_some (f := fun n => zexec ph (zEm ph d) j n c.1 c.2.1 c.2.2.1 c.2.2.2) (fun n k o => zexec_mono n k _ _ _ _ o) hx
            rw [hl] at this
            cases this
      | some o =>
        obtain ⟨n, hn⟩ := zlim_ex hl
        exact zlim_some hm (n := n + 1) (by rw [key n, hs]; exact hn)
/-- what follows a call -/
def zbind (o : zO) (k : zV → zM → zO) : zO := match o with
  | some (v, M) => k v M
  | none => none
theorem zbind_some (v : zV) (M : zM) (k : zV → zM → zO) : zbind (some (v, M)) k = k v M := rfl
theorem zEm_succ {ph : Bool} {d j : Nat} {as : List zV} {M : zM} (h1 : j ≠ 373) (h2 : j ≠ 374) {L : List zV} (h : zinit (zml j) as = some L) : zEm ph (d + 1) j as M = zEv ph d j 0 L [] M := by
  show (if j = 373 then _ else _) = _
  rw [if_neg h1, if_neg h2, h]
  rfl
