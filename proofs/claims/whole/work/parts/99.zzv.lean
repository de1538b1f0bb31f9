/-! nobody writes the script -/
def zposv (v : zV) : Prop := 10 ≤ v.1 → v.1 ≠ 16 → v.1 ≠ 17 → v.1 < 98 → 0 ≤ v.2.1
def zposl (l : List zV) : Prop := ∀ v ∈ l, zposv v
def zposM (M M' : zM) : Prop := 0 ≤ M' (-1) 0 ∧ ∀ y, M' (-2) y = M (-2) y
theorem zposv_lt {t x n : Int} (h : t < 10) : zposv (t, x, n) := fun h1 => absurd h1 (by show ¬ 10 ≤ t; omega)
theorem zposv_ge {t x n : Int} (h : 0 ≤ x) : zposv (t, x, n) := fun _ _ _ _ => h
theorem zposl_nil : zposl [] := fun v h => by cases h
theorem zposl_c {a : zV} {l : List zV} : zposl (a :: l) ↔ zposv a ∧ zposl l := by
  unfold zposl
  constructor
  · intro h
    exact ⟨h a List.mem_cons_self, fun v hv => h v (List.mem_cons_of_mem _ hv)⟩
  · rintro ⟨h1, h2⟩ v hv
    rcases List.mem_cons.mp hv with rfl | hv
    · exact h1
    · exact h2 v hv
theorem zposM_r {M : zM} (h : 0 ≤ M (-1) 0) : zposM M M := ⟨h, fun _ => rfl⟩
theorem zposM_t {A B C : zM} (h : zposM A B) (k : zposM B C) : zposM A C := ⟨k.1, fun y => (k.2 y).trans (h.2 y)⟩
theorem zposM_up {M : zM} {a j v : Int} (h : 0 ≤ M (-1) 0) (ha : 0 ≤ a) : zposM M (zup M a j v) := ⟨by rw [zup_a (by omega)]; exact h, fun y => zup_a (by omega)⟩
theorem zposM_new {M : zM} {n : Int} (h : 0 ≤ M (-1) 0) : zposM M (znew M n) := by
  refine ⟨?_, fun y => ?_⟩
  · show 0 ≤ M (-1) 0 + 1
    omega
  · unfold znew
    rw [if_neg (by omega), if_neg (by omega)]
theorem znth_k {L : List zV} (h : zposl L) : ∀ k, zposv (znth L k) := by
  induction L with
  | nil => intro k; exact zposv_lt (by omega)
  | cons a l ih =>
    intro k
    rw [zposl_c] at h
    cases k with
    | zero => exact h.1
    | succ k => exact ih h.2 k
theorem zset_k {v : zV} (hv : zposv v) : ∀ {L : List zV} (_ : zposl L) (k : Nat), zposl (zset L k v)
  | [], _, _ => zposl_nil
  | a :: l, h, 0 => by
    rw [zposl_c] at h
    exact zposl_c.mpr ⟨hv, h.2⟩
  | a :: l, h, k + 1 => by
    rw [zposl_c] at h
    exact zposl_c.mpr ⟨h.1, zset_k hv h.2 k⟩
theorem zF0_k {op : Nat} {r : List Int} {L st : List zV} {q : List zV × List zV} (hL : zposl L) (hs : zposl st) (h : zF0 op r L st = some q) : zposl q.1 ∧ zposl q.2 := by
  unfold zF0 at h
  split at h
  · cases h; exact ⟨hL, zposl_c.mpr ⟨zposv_lt (by omega), hs⟩⟩
  split at h
  · cases h; exact ⟨hL, zposl_c.mpr ⟨zposv_lt (by omega), hs⟩⟩
  split at h
  · unfold zF0_il at h
    split at h
    · cases h; exact ⟨hL, zposl_c.mpr ⟨zposv_lt (by omega), hs⟩⟩
    · cases h
  split at h
  · unfold zF0_ll at h
    split at h
    · cases h; exact ⟨hL, zposl_c.mpr ⟨zposv_lt (by omega), hs⟩⟩
    · cases h
  split at h
  · unfold zF0_al at h
    have hn := znth_k hL (zr0 r).toNat
    split at h
    rename_i t x n hx
    rw [hx] at hn
    split at h
    · cases h; exact ⟨hL, zposl_c.mpr ⟨hn, hs⟩⟩
    · cases h
  split at h
  · unfold zF0_is at h
    split at h
    · rw [zposl_c] at hs
      split at h
      · cases h; exact ⟨zset_k (zposv_lt (by omega)) hL _, hs.2⟩
      · cases h
    · cases h
  split at h
  · unfold zF0_ls at h
    split at h
    · rw [zposl_c] at hs
      split at h
      · cases h; exact ⟨zset_k (zposv_lt (by omega)) (zset_k (zposv_lt (by omega)) hL _) _, hs.2⟩
      · cases h
    · cases h
  split at h
  · unfold zF0_as at h
    split at h
    · rw [zposl_c] at hs
      split at h
      · cases h; exact ⟨zset_k hs.1 hL _, hs.2⟩
      · cases h
    · cases h
  · unfold zF0_inc at h
    split at h
    · split at h
      · cases h; exact ⟨zset_k (zposv_lt (by omega)) hL _, hs⟩
      · cases h
    · cases h
theorem zF1_k {op : Nat} {st q : List zV} (hs : zposl st) (h : zF1 op st = some q) : zposl q := by
  unfold zF1 at h
  split at h
  · unfold zF1_n at h
    split at h
    · rw [zposl_c] at hs; cases h; exact zposl_c.mpr ⟨zposv_lt (by omega), hs.2⟩
    · cases h
  split at h
  · unfold zF1_2 at h
    split at h
    · rw [zposl_c, zposl_c] at hs
      split at h
      · cases h
      · cases h; exact zposl_c.mpr ⟨zposv_lt (by omega), hs.2.2⟩
    · cases h
  split at h
  · unfold zF1_l at h
    split at h
    · rw [zposl_c, zposl_c] at hs
      split at h
      · cases h
      · cases h; exact zposl_c.mpr ⟨zposv_lt (by omega), hs.2.2⟩
    · cases h
  split at h
  · unfold zF1_cmp at h
    split at h
    · rw [zposl_c, zposl_c] at hs; cases h; exact zposl_c.mpr ⟨zposv_lt (by omega), hs.2.2⟩
    · cases h
  split at h
  · unfold zF1_li at h
    split at h
    · rw [zposl_c] at hs; cases h; exact zposl_c.mpr ⟨zposv_lt (by omega), hs.2⟩
    · cases h
  split at h
  · unfold zF1_c at h
    split at h
    · rw [zposl_c] at hs
      cases h
      split
      · exact zposl_c.mpr ⟨zposv_lt (by omega), hs.2⟩
      split
      · exact zposl_c.mpr ⟨zposv_lt (by omega), hs.2⟩
      · exact zposl_c.mpr ⟨zposv_lt (by omega), hs.2⟩
    · cases h
  split at h
  · unfold zF1_sh at h
    split at h
    · rw [zposl_c, zposl_c] at hs; cases h; exact zposl_c.mpr ⟨zposv_lt (by omega), hs.2.2⟩
    · cases h
  split at h
  · unfold zF1_d at h
    split at h
    · rw [zposl_c] at hs
      split at h
      · cases h
      · cases h
        split
        · exact zposl_c.mpr ⟨hs.1, zposl_c.mpr hs⟩
        · exact hs.2
    · cases h
  · unfold zF1_dd at h
    split at h
    · rw [zposl_c, zposl_c] at hs
      split at h
      · cases h
      · cases h
        split
        · exact zposl_c.mpr ⟨hs.1, zposl_c.mpr ⟨hs.2.1, zposl_c.mpr ⟨hs.1, zposl_c.mpr hs.2⟩⟩⟩
        · exact zposl_c.mpr ⟨hs.1, zposl_c.mpr ⟨hs.2.1, zposl_c.mpr ⟨hs.1, hs.2.2⟩⟩⟩
    · cases h
theorem zF2_k {op nx tg : Nat} {r : List Int} {st : List zV} {q : Nat × List zV} (hs : zposl st) (h : zF2 op nx tg r st = some q) : zposl q.2 := by
  unfold zF2 at h
  split at h
  · unfold zF2_1 at h
    split at h
    · rw [zposl_c] at hs; cases h; exact hs.2
    · cases h
  split at h
  · unfold zF2_2 at h
    split at h
    · rw [zposl_c, zposl_c] at hs; cases h; exact hs.2.2
    · cases h
  split at h
  · cases h; exact hs
  split at h
  · unfold zF2_e at h
    split at h
    · rw [zposl_c, zposl_c] at hs; cases h; exact hs.2.2
    · cases h
  split at h
  · unfold zF2_n at h
    split at h
    · rw [zposl_c] at hs
      split at h
      · cases h; exact hs.2
      · cases h
    · cases h
  split at h
  · unfold zF2_t at h
    split at h
    · rw [zposl_c] at hs; cases h; exact hs.2
    · cases h
  · unfold zF2_l at h
    split at h
    · rw [zposl_c] at hs; cases h; exact hs.2
    · cases h
/-- of the table's rows: fields are of objects, offsets are no less than nothing -/
def zposE (op : Nat) (r : List Int) : Bool := !(decide (60 ≤ op) && decide (op < 70)) || (decide (20 ≤ zr0 r) && decide (zr0 r < 98) && (decide (0 ≤ zr2 r) || !decide (op = 62)))
theorem zF3_k {ph : Bool} {op : Nat} {r : List Int} {st : List zV} {M : zM} {q : List zV × zM} (hE : zposE op r = true) (hM : 0 ≤ M (-1) 0) (hs : zposl st) (h60 : 60 ≤ op) (h : zF3 ph op r st M = some q) : zposl q.1 ∧ zposM M q.2 := by
  have hE' : op < 70 → 20 ≤ zr0 r ∧ zr0 r < 98 ∧ (op = 62 → 0 ≤ zr2 r) := fun h70 => by
    unfold zposE at hE
    simp only [Bool.or_eq_true, Bool.and_eq_true, Bool.not_eq_true', Bool.and_eq_false_iff, decide_eq_true_eq, decide_eq_false_iff_not] at hE
    omega
  clear hE
  unfold zF3 at h
  split at h
  · unfold zF3_g at h
    split at h
    · rw [zposl_c] at hs
      split at h
      · rename_i ht
        obtain ⟨e1, e2, e3⟩ := hE' (by omega)
        have ha := hs.1 (by show 10 ≤ _; omega) (by show _ ≠ _; omega) (by show _ ≠ _; omega) (by show _ < _; omega)
        dsimp only at ha
        split at h
        · cases h; exact ⟨zposl_c.mpr ⟨zposv_lt (by omega), hs.2⟩, zposM_r hM⟩
        split at h
        · cases h; exact ⟨zposl_c.mpr ⟨zposv_lt (by omega), hs.2⟩, zposM_r hM⟩
        split at h
        · split at h
          · cases h; exact ⟨zposl_c.mpr ⟨zposv_ge (by have := e3 (by assumption); omega), hs.2⟩, zposM_r hM⟩
          · cases h
        split at h
        · split at h
          · cases h; exact ⟨zposl_c.mpr ⟨zposv_lt (by omega), hs.2⟩, zposM_r hM⟩
          · cases h
        · split at h
          · cases h; exact ⟨zposl_c.mpr ⟨zposv_ge (by omega), hs.2⟩, zposM_r hM⟩
          · cases h
      · cases h
    · cases h
  split at h
  · unfold zF3_p at h
    split at h
    · rw [zposl_c, zposl_c] at hs
      split at h
      · rename_i ht
        obtain ⟨e1, e2, e3⟩ := hE' (by omega)
        have ha := hs.2.1 (by show 10 ≤ _; omega) (by show _ ≠ _; omega) (by show _ ≠ _; omega) (by show _ < _; omega)
        dsimp only at ha
        split at h
        · split at h
          · cases h; exact ⟨hs.2.2, zposM_up hM ha⟩
          · cases h
        split at h
        · split at h
          · cases h; exact ⟨hs.2.2, zposM_up hM ha⟩
          · cases h
        split at h
        · split at h
          · cases h; exact ⟨hs.2.2, zposM_up hM ha⟩
          · cases h
        split at h
        · split at h
          · cases h; exact ⟨hs.2.2, zposM_up hM ha⟩
          · cases h
        · split at h
          · cases h
            have h1 := zposM_up (j := zr1 r) (v := (by assumption : Int)) hM ha
            exact ⟨hs.2.2, zposM_t (zposM_up hM ha) (zposM_up (by rw [zup_a (by omega)]; exact hM) ha)⟩
          · cases h
      · cases h
    · cases h
  · obtain ⟨w, hw, rfl⟩ := Option.map_eq_some_iff.mp h
    refine ⟨?_, zposM_r hM⟩
    unfold zF3_s at hw
    split at hw
    · rw [zposl_c] at hs
      repeat' split at hw
      all_goals (first | (cases hw; exact zposl_c.mpr ⟨zposv_lt (by omega), hs.2⟩) | cases hw)
    · cases hw
theorem zF4_k {ph : Bool} {op : Nat} {r : List Int} {st : List zV} {M : zM} {q : List zV × zM} (hM : 0 ≤ M (-1) 0) (hs : zposl st) (h : zF4 ph op r st M = some q) : zposl q.1 ∧ zposM M q.2 := by
  unfold zF4 at h
  split at h
  · obtain ⟨w, hw, rfl⟩ := Option.map_eq_some_iff.mp h
    refine ⟨?_, zposM_r hM⟩
    unfold zF4_n at hw
    split at hw
    · rw [zposl_c] at hs
      split at hw
      · cases hw; exact zposl_c.mpr ⟨zposv_lt (by omega), hs.2⟩
      · cases hw
    · cases hw
  split at h
  · obtain ⟨w, hw, rfl⟩ := Option.map_eq_some_iff.mp h
    refine ⟨?_, zposM_r hM⟩
    unfold zF4_l at hw
    split at hw
    · rw [zposl_c, zposl_c] at hs
      split at hw
      · repeat' split at hw
        all_goals (first | (cases hw; exact zposl_c.mpr ⟨zposv_lt (by omega), hs.2.2⟩) | (cases hw; exact zposl_c.mpr ⟨zposv_ge (by omega), hs.2.2⟩) | cases hw)
      · cases hw
    · cases hw
  split at h
  · unfold zF4_s at h
    split at h
    · rename_i u v n1 i n2 t a n s
      rw [zposl_c, zposl_c, zposl_c] at hs
      have ha : 10 ≤ t ∧ t ≤ 15 → 0 ≤ a := fun z => hs.2.2.1 (by show 10 ≤ t; omega) (by show t ≠ 16; omega) (by show t ≠ 17; omega) (by show t < 98; omega)
      split at h
      · repeat' split at h
        all_goals (first | (cases h; exact ⟨hs.2.2.2, zposM_up hM (ha (by omega))⟩) | cases h)
      · cases h
    · cases h
  split at h
  · unfold zF4_a at h
    split at h
    · rw [zposl_c] at hs
      split at h
      · cases h; exact ⟨zposl_c.mpr ⟨zposv_ge hM, hs.2⟩, zposM_new hM⟩
      · cases h
    · cases h
  · split at h
    · cases h; exact ⟨zposl_c.mpr ⟨zposv_ge hM, hs⟩, zposM_new hM⟩
    · cases h
theorem zF6_k {op : Nat} {st : List zV} {M : zM} {q : List zV × zM} (hM : 0 ≤ M (-1) 0) (hs : zposl st) (h : zF6 op st M = some q) : zposl q.1 ∧ zposM M q.2 := by
  unfold zF6 at h
  split at h
  · obtain ⟨w, hw, rfl⟩ := Option.map_eq_some_iff.mp h
    refine ⟨?_, zposM_r hM⟩
    unfold zF6_m at hw
    split at hw
    · rw [zposl_c, zposl_c] at hs
      split at hw
      · cases hw; exact zposl_c.mpr ⟨zposv_lt (by omega), hs.2.2⟩
      · cases hw
    · cases hw
  split at h
  · obtain ⟨w, hw, rfl⟩ := Option.map_eq_some_iff.mp h
    refine ⟨?_, zposM_r hM⟩
    unfold zF6_a at hw
    split at hw
    · rw [zposl_c] at hs
      split at hw
      · cases hw; exact zposl_c.mpr ⟨zposv_lt (by omega), hs.2⟩
      · cases hw
    · cases hw
  split at h
  · unfold zF6_c at h
    split at h
    · rename_i n n1 dp n2 u b k sp n3 t a i s
      rw [zposl_c, zposl_c, zposl_c, zposl_c, zposl_c] at hs
      have hb : 10 ≤ u ∧ u ≤ 15 → 0 ≤ b := fun z => hs.2.2.1 (by show 10 ≤ u; omega) (by show u ≠ 16; omega) (by show u ≠ 17; omega) (by show u < 98; omega)
      split at h
      · split at h
        · cases h
          refine ⟨hs.2.2.2.2.2, ?_, fun y => ?_⟩
          · show 0 ≤ zcpy M a sp b dp n (-1) 0
            rw [zcpy_o (by have := hb (by omega); omega)]; exact hM
          · exact zcpy_o (by have := hb (by omega); omega)
        split at h
        · cases h
          refine ⟨hs.2.2.2.2.2, ?_, fun y => ?_⟩
          · show 0 ≤ zcpyS M a sp b dp n (-1) 0
            unfold zcpyS
            rw [if_neg (by omega)]; exact hM
          · show zcpyS M a sp b dp n (-2) y = _
            unfold zcpyS
            rw [if_neg (by have := hb (by omega); omega)]
        · cases h
      · cases h
    · cases h
  · obtain ⟨w, hw, rfl⟩ := Option.map_eq_some_iff.mp h
    refine ⟨?_, zposM_r hM⟩
    unfold zF6_o at hw
    split at hw
    · rw [zposl_c] at hs
      split at hw
      · cases hw; exact hs.2
      · cases hw
    · cases hw
theorem zargs_k : ∀ (n : Nat) (acc st as s : List zV), zposl acc → zposl st → zargs n acc st = some (as, s) → zposl as ∧ zposl s
  | 0, acc, st, as, s, h1, h2, h => by cases h; exact ⟨h1, h2⟩
  | n + 1, acc, [], as, s, h1, h2, h => by cases h
  | n + 1, acc, v :: st, as, s, h1, h2, h => by
    rw [zposl_c] at h2
    exact zargs_k n (v :: acc) st as s (zposl_c.mpr ⟨h2.1, h1⟩) h2.2 h
def zposC (cl : Nat → List zV → zM → zO) : Prop := ∀ j as M v M', cl j as M = some (v, M') → zposl as → 0 ≤ M (-1) 0 → zposv v ∧ zposM M M'
theorem zF8_k {cl : Nat → List zV → zM → zO} (hcl : zposC cl) {tg : Nat} {r : List Int} {st : List zV} {M : zM} {q : List zV × zM} (hM : 0 ≤ M (-1) 0) (hs : zposl st) (h : zF8 cl tg r st M = some q) : zposl q.1 ∧ zposM M q.2 := by
  unfold zF8 at h
  split at h
  · split at h
    · rename_i as s hargs
      obtain ⟨ka, ks⟩ := zargs_k _ _ _ _ _ zposl_nil hs hargs
      split at h
      · split at h
        · rename_i w M1 hc
          obtain ⟨kw, kM⟩ := hcl _ _ _ _ _ hc ka hM
          split at h
          · split at h
            · cases h; exact ⟨ks, kM⟩
            · cases h
          · split at h
            · cases h; exact ⟨zposl_c.mpr ⟨kw, ks⟩, kM⟩
            · cases h
        · cases h
      · cases h
    · cases h
  · cases h
def zposX (M : zM) : zC ⊕ (zV × zM) → Prop
  | .inl c => zposl c.2.1 ∧ zposl c.2.2.1 ∧ zposM M c.2.2.2
  | .inr o => zposv o.1 ∧ zposM M o.2
theorem zstep_k {ph : Bool} {cl : Nat → List zV → zM → zO} (hcl : zposC cl) {op nx tg : Nat} {r : List Int} {L st : List zV} {M : zM} {x : zC ⊕ (zV × zM)} (hE : zposE op r = true) (hM : 0 ≤ M (-1) 0) (hL : zposl L) (hs : zposl st) (h : zstep ph cl op nx tg r L st M = some x) : zposX M x := by
  unfold zstep at h
  split at h
  · obtain ⟨w, hw, rfl⟩ := Option.map_eq_some_iff.mp h
    have := zF0_k hL hs hw
    exact ⟨this.1, this.2, zposM_r hM⟩
  split at h
  · obtain ⟨w, hw, rfl⟩ := Option.map_eq_some_iff.mp h
    exact ⟨hL, zF1_k hs hw, zposM_r hM⟩
  split at h
  · obtain ⟨w, hw, rfl⟩ := Option.map_eq_some_iff.mp h
    exact ⟨hL, zF2_k hs hw, zposM_r hM⟩
  split at h
  · obtain ⟨w, hw, rfl⟩ := Option.map_eq_some_iff.mp h
    have := zF3_k hE hM hs (by omega) hw
    exact ⟨hL, this.1, this.2⟩
  split at h
  · obtain ⟨w, hw, rfl⟩ := Option.map_eq_some_iff.mp h
    have := zF8_k hcl hM hs hw
    exact ⟨hL, this.1, this.2⟩
  split at h
  · obtain ⟨w, hw, rfl⟩ := Option.map_eq_some_iff.mp h
    have := zF6_k hM hs hw
    exact ⟨hL, this.1, this.2⟩
  split at h
  · obtain ⟨w, hw, rfl⟩ := Option.map_eq_some_iff.mp h
    refine ⟨hL, ?_, zposM_r hM⟩
    unfold zF5 at hw
    split at hw
    · unfold zF5_o at hw
      split at hw
      · rw [zposl_c] at hs
        split at hw
        · cases hw; exact zposl_c.mpr ⟨zposv_lt (by omega), hs.2⟩
        · cases hw
      · cases hw
    · repeat' split at hw
      all_goals (cases hw; refine zposl_c.mpr ⟨?_, hs⟩; first | exact zposv_lt (by omega) | exact zposv_ge (by omega))
  split at h
  · obtain ⟨w, hw, rfl⟩ := Option.map_eq_some_iff.mp h
    refine ⟨?_, zposM_r hM⟩
    unfold zF7 at hw
    split at hw
    · split at hw
      · split at hw
        · cases hw; exact zposv_lt (by omega)
        · cases hw
      · cases hw
    split at hw
    · split at hw
      · cases hw; exact zposv_lt (by omega)
      · cases hw
    split at hw
    · split at hw
      · rw [zposl_c] at hs
        split at hw
        · cases hw; exact hs.1
        · cases hw
      · cases hw
    · split at hw
      · cases hw; exact zposv_ge (by omega)
      · cases hw
  split at h
  · cases h
    refine ⟨zposv_ge (by omega), ?_, fun y => ?_⟩
    · show 0 ≤ zthr M (-1) 0
      unfold zthr
      rw [if_pos rfl, if_neg (by omega), if_neg (by omega)]
      exact hM
    · show zthr M (-2) y = M (-2) y
      exact zthr_o (by omega)
  · obtain ⟨w, hw, rfl⟩ := Option.map_eq_some_iff.mp h
    have := zF4_k hM hs hw
    exact ⟨hL, this.1, this.2⟩
theorem zktab : (ztab.all fun l => l.all fun c => c.all fun e => match e with
    | some e => zposE e.1 e.2.2.2
    | none => true) = true := by decide +kernel
theorem zgetD_mem {α : Type} {l : List α} {i : Nat} {x d : α} (h : l.getD i d = x) (hx : x ≠ d) : x ∈ l := by
  rw [List.getD_eq_getElem?_getD] at h
  cases hg : l[i]? with
  | none => rw [hg] at h; exact absurd h.symm hx
  | some y =>
    rw [hg] at h
    cases h
    exact List.mem_of_getElem? hg
theorem zfetch_k {j pc op nx tg : Nat} {r : List Int} (h : zfetch j pc = some (op, nx, tg, r)) : zposE op r = true := by
  unfold zfetch at h
  have h1 := zgetD_mem h (by simp)
  have ne1 : (ztab.getD (j / 25) []).getD (j % 25) [] ≠ [] := fun z => by rw [z] at h1; cases h1
  have h2 := zgetD_mem (l := ztab.getD (j / 25) []) (d := []) rfl ne1
  have ne2 : ztab.getD (j / 25) [] ≠ [] := fun z => by rw [z] at h2; cases h2
  have h3 := zgetD_mem (l := ztab) (d := []) rfl ne2
  have h4 := List.all_eq_true.mp (List.all_eq_true.mp (List.all_eq_true.mp zktab _ h3) _ h2) _ h1
  exact h4
theorem zexec_k {ph : Bool} {cl : Nat → List zV → zM → zO} (hcl : zposC cl) {j : Nat} : ∀ (n pc : Nat) (L st : List zV) (M M' : zM) (v : zV), zposl L → zposl st → 0 ≤ M (-1) 0 → zexec ph cl j n pc L st M = some (v, M') → zposv v ∧ zposM M M' := by
  intro n
  induction n with
  | zero => intro pc L st M M' v _ _ _ h; simp [zexec] at h
  | succ n ih =>
    intro pc L st M M' v hL hs hM h
    simp only [zexec] at h
    split at h
    · cases h
    · rename_i op nx tg r hf
      have hE := zfetch_k hf
      split at h
      · cases h
      · rename_i x hst
        obtain ⟨k1, k2, k3⟩ : zposX M (.inl x) := zstep_k hcl hE hM hL hs hst
        obtain ⟨i1, i2⟩ := ih _ _ _ _ _ _ k1 k2 k3.1 h
        exact ⟨i1, zposM_t k3 i2⟩
      · rename_i o hst
        have := zstep_k hcl hE hM hL hs hst
        cases h
        exact this
theorem zspr_k : ∀ (l : List zV), zposl l → zposl (zspr l)
  | [], h => zposl_nil
  | (t, x, n) :: l, h => by
    rw [zposl_c] at h
    by_cases ht : t = 1
    · subst ht
      rw [zspr_1]
      exact zposl_c.mpr ⟨h.1, zposl_c.mpr ⟨zposv_lt (by omega), zspr_k l h.2⟩⟩
    · rw [zspr_o ht]
      exact zposl_c.mpr ⟨h.1, zspr_k l h.2⟩
theorem zEm_k {ph : Bool} : ∀ d, zposC (zEm ph d)
  | 0 => fun j as M v M' h => by cases h
  | d + 1 => fun j as M v M' h ha hM => by
    have ih := zEm_k (ph := ph) d
    have help : ∀ c, zhelp (zEm ph d) c as M = some (v, M') → zposv v ∧ zposM M M' := fun c h => by
      unfold zhelp at h
      split at h
      · rename_i x p0 p1 o n
        rw [zposl_c, zposl_c, zposl_c, zposl_c] at ha
        have ho := ha.2.2.2.1 (by show (10 : Int) ≤ 11; omega) (by show (11 : Int) ≠ 16; omega) (by show (11 : Int) ≠ 17; omega) (by show (11 : Int) < 98; omega)
        dsimp only at ho
        split at h
        · rename_i v1 n1 M1 hc
          have k := ih _ _ _ _ _ hc (zposl_c.mpr ⟨ha.1, zposl_c.mpr ⟨ha.2.1, zposl_c.mpr ⟨ha.2.2.1, zposl_nil⟩⟩⟩) hM
          split at h
          · cases h
            exact ⟨zposv_lt (by omega), zposM_t k.2 (zposM_up k.2.1 ho)⟩
          · cases h
        · rename_i M1 hc
          have k := ih _ _ _ _ _ hc (zposl_c.mpr ⟨ha.1, zposl_c.mpr ⟨ha.2.1, zposl_c.mpr ⟨ha.2.2.1, zposl_nil⟩⟩⟩) hM
          cases h
          exact ⟨zposv_lt (by omega), k.2⟩
        · cases h
      · cases h
    rw [show zEm ph (d + 1) j as M = (if j = 373 then zhelp (zEm ph d) 5 as M else if j = 374 then zhelp (zEm ph d) 7 as M else match zinit (zml j) as with
      | some L => zlim (fun n => zexec ph (zEm ph d) j n 0 L [] M)
      | none => none) from rfl] at h
    split at h
    · exact help 5 h
    split at h
    · exact help 7 h
    split at h
    · rename_i L hL
      obtain ⟨n, hn⟩ := zlim_ex h
      refine zexec_k ih n 0 L [] M M' v ?_ zposl_nil hM hn
      unfold zinit at hL
      split at hL
      · cases hL
        intro w hw
        rcases List.mem_append.mp hw with hw | hw
        · exact zspr_k as ha w hw
        · rw [(List.mem_replicate.mp hw).2]
          exact zposv_lt (by omega)
      · cases hL
    · cases h
