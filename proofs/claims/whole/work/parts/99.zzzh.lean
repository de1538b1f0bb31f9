/-! the law's two helpers: their contract -/
theorem zcont_ev {ph : Bool} {d j : Nat} {z : zS} {o : zV × zM} (h : zcont ph d j z = some o) : (∃ x : zC, z = some (.inl x) ∧ zEv ph d j x.1 x.2.1 x.2.2.1 x.2.2.2 = some o) ∨ z = some (.inr o) := by
  unfold zcont at h
  split at h
  · cases h
  · exact Or.inl ⟨_, rfl, h⟩
  · cases h; exact Or.inr rfl
theorem zev_al {ph : Bool} {d j pc nx tg k : Nat} {L st : List zV} {M : zM} {o : zV × zM} (hf : zfetch j pc = some (4, nx, tg, [(k : Int)])) (h : zEv ph d j pc L st M = some o) : 4 ≤ (znth L k).1 ∧ zEv ph d j nx L (znth L k :: st) M = some o := by
  rw [zEv_step hf] at h
  rcases zcont_ev h with ⟨x, hx, h2⟩ | hx
  · obtain ⟨w, hw, e⟩ := zmap_inl (o := zF0 4 [(k : Int)] L st) (f := fun q => (nx, q.1, q.2, M)) hx
    subst e
    have hw : zF0_al k L st = some w := hw
    unfold zF0_al at hw
    split at hw
    · rename_i t x n hn
      split at hw
      · rename_i h4
        cases hw
        rw [hn]
        exact ⟨h4, h2⟩
      · cases hw
  · obtain ⟨w, -, h2⟩ := Option.map_eq_some_iff.mp (show (zF0 4 [(k : Int)] L st).map (fun q => (Sum.inl (nx, q.1, q.2, M) : zC ⊕ (zV × zM))) = some (.inr o) from hx); cases h2
theorem zev_il {ph : Bool} {d j pc nx tg k : Nat} {L st : List zV} {M : zM} {o : zV × zM} (hf : zfetch j pc = some (2, nx, tg, [(k : Int)])) (h : zEv ph d j pc L st M = some o) : (znth L k).1 = 0 ∧ zEv ph d j nx L ((0, (znth L k).2.1, 0) :: st) M = some o := by
  rw [zEv_step hf] at h
  rcases zcont_ev h with ⟨x, hx, h2⟩ | hx
  · obtain ⟨w, hw, e⟩ := zmap_inl (o := zF0 2 [(k : Int)] L st) (f := fun q => (nx, q.1, q.2, M)) hx
    subst e
    have hw : zF0_il k L st = some w := hw
    unfold zF0_il at hw
    split at hw
    · rename_i x n hn
      cases hw
      rw [hn]
      exact ⟨rfl, h2⟩
    · cases hw
  · obtain ⟨w, -, h2⟩ := Option.map_eq_some_iff.mp (show (zF0 2 [(k : Int)] L st).map (fun q => (Sum.inl (nx, q.1, q.2, M) : zC ⊕ (zV × zM))) = some (.inr o) from hx); cases h2
theorem zev_c2 {ph : Bool} {d j pc nx tg : Nat} {t : Int} {L st : List zV} {a b : zV} {M : zM} {o : zV × zM} (hf : zfetch j pc = some (70, nx, tg, [2, 1, t])) (ht : t ≠ -1) (h : zEv ph d j pc L (a :: b :: st) M = some o) : b.1 = t := by
  rw [zEv_step hf] at h
  have key : ∀ q, zF8 (zEm ph d) tg [2, 1, t] (a :: b :: st) M = some q → b.1 = t := by
    intro q hq
    unfold zF8 at hq
    dsimp only at hq
    rw [show zargs (2 : Int).toNat [] (a :: b :: st) = some ([b, a], st) from rfl] at hq
    dsimp only at hq
    split at hq
    · rename_i hz
      rcases hz.2 with h9 | h9
      · exact absurd h9 ht
      · exact h9
    · cases hq
  rcases zcont_ev h with ⟨x, hx, -⟩ | hx
  · obtain ⟨w, hw, -⟩ := zmap_inl (o := zF8 (zEm ph d) tg [2, 1, t] (a :: b :: st) M) (f := fun q => (nx, L, q.1, q.2)) hx
    exact key w hw
  · obtain ⟨w, hw, h2⟩ := Option.map_eq_some_iff.mp (show (zF8 (zEm ph d) tg [2, 1, t] (a :: b :: st) M).map (fun q => (Sum.inl (nx, L, q.1, q.2) : zC ⊕ (zV × zM))) = some (.inr o) from hx); cases h2
theorem zspr_n {v : zV} {l : List zV} (h : v.1 ≠ 1) : zspr (v :: l) = v :: zspr l := by
  obtain ⟨t, y, n⟩ := v
  rw [zspr]
  intro z w e
  cases e
  exact h rfl
theorem zspr_l1 {v : zV} {l : List zV} (h : v.1 = 1) : zspr (v :: l) = v :: (3, 0, 0) :: zspr l := by
  obtain ⟨t, y, n⟩ := v
  have h : t = 1 := h
  subst h
  simp [zspr]
theorem zspr_3 {x p0 p1 : zV} (h : (zspr [x, p0, p1]).length ≤ 3) : x.1 ≠ 1 ∧ p0.1 ≠ 1 ∧ p1.1 ≠ 1 := by
  have key : ∀ (v : zV) (l : List zV), (zspr l).length + 1 ≤ (zspr (v :: l)).length ∧ (v.1 = 1 → (zspr l).length + 2 ≤ (zspr (v :: l)).length) := by
    intro v l
    by_cases hv : v.1 = 1
    · rw [zspr_l1 hv]
      exact ⟨by simp only [List.length_cons]; omega, fun _ => by simp only [List.length_cons]; omega⟩
    · rw [zspr_n hv]
      exact ⟨by simp only [List.length_cons]; omega, fun z => absurd z hv⟩
  have h1 := key x [p0, p1]
  have h2 := key p0 [p1]
  have h3 := key p1 []
  have h4 : (zspr []).length = 0 := rfl
  refine ⟨fun z => ?_, fun z => ?_, fun z => ?_⟩
  · have := h1.2 z; omega
  · have := h2.2 z; omega
  · have := h3.2 z; omega
theorem zh_in {ph : Bool} {d j : Nat} {x p0 p1 : zV} {M : zM} {o : zV × zM} (hj : j = 5 ∨ j = 7) (h : zEm ph (d + 1) j [x, p0, p1] M = some o) : x.1 = 29 ∧ p0.1 = 0 ∧ p1.1 ≠ 1 := by
  have hml : zml j = 3 := by rcases hj with rfl | rfl <;> rfl
  rw [show zEm ph (d + 1) j [x, p0, p1] M = (if j = 373 then zhelp (zEm ph d) 5 [x, p0, p1] M else if j = 374 then zhelp (zEm ph d) 7 [x, p0, p1] M else match zinit (zml j) [x, p0, p1] with
    | some L => zEv ph d j 0 L [] M
    | none => none) from rfl, if_neg (by omega), if_neg (by omega), hml] at h
  split at h
  · rename_i L hL
    unfold zinit at hL
    split at hL
    · rename_i h3
      obtain ⟨a1, a2, a3⟩ := zspr_3 h3
      have e : zspr [x, p0, p1] = [x, p0, p1] := by rw [zspr_n a1, zspr_n a2, zspr_n a3]; rfl
      rw [e] at hL
      cases hL
      have q : ∃ tg : Nat, zfetch j 0 = some (4, 1, 0, [((0 : Nat) : Int)]) ∧ zfetch j 1 = some (2, 2, 0, [((1 : Nat) : Int)]) ∧ zfetch j 2 = some (70, 5, tg, [2, 1, 29]) := by
        rcases hj with rfl | rfl
        · exact ⟨_, rfl, rfl, rfl⟩
        · exact ⟨_, rfl, rfl, rfl⟩
      obtain ⟨tg, f0, f1, f2⟩ := q
      obtain ⟨b1, h1⟩ := zev_al f0 h
      obtain ⟨b2, h2⟩ := zev_il f1 h1
      have b3 := zev_c2 f2 (by decide) h2
      exact ⟨b3, b2, a3⟩
    · cases hL
  · cases h
