/-! the lines of a valley's text: hand; any line -/
theorem vl_hand {A B A' B' : zM} (v : vlP A B) {hh : Int} (eh : hh = A 4 7) (c : hh < 10) (a : ∀ x y, (x = 1 ∧ y = 5) ∨ (4 ≤ x ∧ x ≤ 19) → ¬ ((x = 6 ∨ x = 8 ∨ x = 12 ∨ x = 13) ∧ y = hh) → ¬ (x = 4 ∧ (y = 7 ∨ y = 9)) → A' x y = A x y) (b : ∀ x y, x = 200 ∨ x = 205 ∨ x = 208 → ¬ (x = 205 ∧ y = 5 + hh) → ¬ (x = 200 ∧ (y = 1 ∨ y = 39 ∨ y = 9 + hh ∨ y = 19 + hh ∨ y = 29 + hh)) → B' x y = B x y) (a1 : A' 4 7 = hh + 1) (b1 : B' 200 1 = hh + 1) (hn : nmR (A' 6 hh) (B' 205 (5 + hh))) (hst : A' 8 hh = B' 200 (9 + hh) ∧ 0 ≤ A' 8 hh ∧ A' 8 hh < A 4 6) (hir : A' 12 hh = B' 200 (19 + hh) ∧ 0 ≤ A' 12 hh ∧ A' 12 hh ≤ 20) (hco : A' 13 hh = B' 200 (29 + hh) ∧ 0 ≤ A' 13 hh ∧ A' 13 hh ≤ 99) (hch : A' 4 9 = B' 200 39 ∧ 0 ≤ A' 4 9 ∧ A' 4 9 < 1024) : vlP A' B' := by
  have k0 := v.k0
  have k1 := v.k1
  have k2 := v.k2
  refine ⟨?_, ?_, ?_, ?_, ?_, ?_, ?_, ?_, ?_, ?_, ?_, ?_, ?_, ?_, ?_, ?_, ?_, ?_, ?_⟩
  · rw [a 4 6 (by omega) (by omega) (by omega), b 200 0 (by omega) (by omega) (by omega)]; exact k0
  · omega
  · rw [a 4 8 (by omega) (by omega) (by omega), b 200 2 (by omega) (by omega) (by omega)]; exact k2
  · rw [a 4 10 (by omega) (by omega) (by omega), b 200 3 (by omega) (by omega) (by omega)]; exact v.pr
  · rw [a 4 11 (by omega) (by omega) (by omega), b 200 4 (by omega) (by omega) (by omega)]; exact v.wg
  · exact hch
  · intro k p0 p1
    rw [a 4 6 (by omega) (by omega) (by omega)] at p1
    rw [a 5 k (by omega) (by omega) (by omega), b 205 _ (by omega) (by omega) (by omega)]
    exact v.n1 k p0 p1
  · intro k p0 p1
    by_cases ck : k = hh
    · rw [ck]; exact hn
    · rw [a 6 k (by omega) (by omega) (by omega), b 205 _ (by omega) (by omega) (by omega)]
      exact v.n2 k p0 (by omega)
  · intro k p0 p1
    rw [a 4 8 (by omega) (by omega) (by omega)] at p1
    rw [a 7 k (by omega) (by omega) (by omega), b 205 _ (by omega) (by omega) (by omega)]
    exact v.n3 k p0 p1
  · intro k p0 p1
    rw [a 4 6 (by omega) (by omega) (by omega)]
    by_cases ck : k = hh
    · rw [ck]; exact hst
    · rw [a 8 k (by omega) (by omega) (by omega), b 200 (9 + k) (by omega) (by omega) (by omega)]
      exact v.hm k p0 (by omega)
  · intro k p0 p1
    by_cases ck : k = hh
    · rw [ck]; exact ⟨hir.1, hir.2.1, hir.2.2, fun z => by omega⟩
    · have := v.ir k p0 p1
      rw [a 12 k (by omega) (by omega) (by omega), b 200 (19 + k) (by omega) (by omega) (by omega)]
      exact ⟨this.1, this.2.1, this.2.2.1, fun z => this.2.2.2 (by omega)⟩
  · intro k p0 p1
    by_cases ck : k = hh
    · rw [ck]; exact ⟨hco.1, hco.2.1, hco.2.2, fun z => by omega⟩
    · have := v.co k p0 p1
      rw [a 13 k (by omega) (by omega) (by omega), b 200 (29 + k) (by omega) (by omega) (by omega)]
      exact ⟨this.1, this.2.1, this.2.2.1, fun z => this.2.2.2 (by omega)⟩
  · intro k p0 p1
    rw [a 14 k (by omega) (by omega) (by omega), b 200 (40 + k) (by omega) (by omega) (by omega)]
    exact v.lf k p0 p1
  · intro k p0 p1
    rw [a 15 k (by omega) (by omega) (by omega), b 200 (45 + k) (by omega) (by omega) (by omega)]
    exact v.rt k p0 p1
  · intro k p0 p1
    rw [a 9 k (by omega) (by omega) (by omega), b 200 (50 + k) (by omega) (by omega) (by omega)]
    exact v.gr k p0 p1
  · intro k p0 p1
    rw [a 10 k (by omega) (by omega) (by omega), b 200 (7 + k) (by omega) (by omega) (by omega)]
    exact v.ec k p0 p1
  · intro k p0 p1
    rw [a 19 k (by omega) (by omega) (by omega), b 200 (5 + k) (by omega) (by omega) (by omega)]
    exact v.sd k p0 p1
  · rw [a 1 5 (by omega) (by omega) (by omega)]
    refine ⟨v.on.1, fun k p0 p1 => ?_⟩
    rw [b 208 k (by omega) (by omega) (by omega)]
    exact v.on.2 k p0 p1
  · rw [a 11 8 (by omega) (by omega) (by omega), a 11 9 (by omega) (by omega) (by omega), a 11 10 (by omega) (by omega) (by omega)]
    refine ⟨v.st.1, fun k p0 p1 => ?_⟩
    rw [a 16 k (by omega) (by omega) (by omega), a 17 k (by omega) (by omega) (by omega), a 18 k (by omega) (by omega) (by omega)]
    exact v.st.2 k p0 p1
theorem p_hand {A B : zM} (h : tkR A B) (v : vlP A B) (c5 : A 2 5 = 2) (D E : Nat) (hD : 9 ≤ D) (hE : 8 ≤ E) (x0 y0 : Int) : ∃ A' B' r, zEm true D 84 [(24, 1, x0)] A = some ((0, r, 0), A') ∧ zEm true E 197 [(30, 197, y0)] B = some ((0, r, 0), B') ∧ frV A A' ∧ frW B B' ∧ lnC A A' B' r := by
  obtain ⟨d, rfl⟩ : ∃ d, D = d + 1 := ⟨D - 1, by omega⟩
  obtain ⟨e, rfl⟩ : ∃ e, E = e + 2 := ⟨E - 2, by omega⟩
  have h27 := h.2.wo c5
  have k1 := v.k1
  obtain ⟨hh, eh⟩ : ∃ hh, A 4 7 = hh := ⟨_, rfl⟩
  by_cases cm : hh < 10
  · obtain ⟨A1, B1, a1, a2, a3, a4, a5, a6⟩ := p_go h.1 d e (by omega) (by omega) 0 y0
    have v1 : vlP A1 B1 := vl_ag v (agX_a a4) (agY_g a5)
    have f1 := v1.k1
    have hp1 := a6 _ (tk_pg h (by omega)).1 (tk_pg h (by omega)).2
    have hfirst : zEm true (e + 1) 192 [(30, 197, y0), (0, 1, 0), (0, 10, 0)] B = some ((0, 1, 0), B1) := by
      have : B 200 1 ≠ 10 := by omega
      simp (disch := first | assumption | exact zrm0 | exact zrm1 _ | exact zrm2 _ _ | exact zrm3 _ _ _ | exact zrm4 _ _ _ _ | omega) only [m192, ↓k_dp, ↓k_dn, k_dp, k_dn, k_dT, k_dF, k_ip, k_in, if_true, if_false, ne_eq, not_true_eq_false, not_false_eq_true, Int.reduceAdd, zup_a, zup_e, zup_j, z32_id, k_al0, k_gR, k_il1, k_ild, k_ildS, k_ildW, k_il2, k_icne, k_ic, k_v2r, k_rz, k_v1, zb0_some, zb1_some, e192_0, e192_1, e192_4, e192_5, e192_6, e192_7, e192_10, e192_11, e192_12, e192_15, e192_16, e192_17, e192_20, e192_21, a2]
    have eB1 : B1 200 1 = hh := by rw [a5 _ _ (by omega), ← k1.1]; exact eh
    have eA1 : A1 4 7 = hh := by rw [a4 _ _ (by omega)]; exact eh
    rcases p_new a3 v1 d e (by omega) (by omega) x0 y0 0 (5 + hh) (by omega) (by omega) with ⟨b1, b2, b3, b4⟩ | ⟨A2, B2, b1, b2, b3, b4, b5⟩
    · obtain ⟨C, hC⟩ : ∃ C, C = zup A1 6 hh (A1 2 8) := ⟨_, rfl⟩
      obtain ⟨Dm, hDm⟩ : ∃ Dm, Dm = zup B1 205 (5 + hh) (B1 197 12) := ⟨_, rfl⟩
      have hT : tkR C Dm := tkR_fr a3 (fun x y z => by rw [hC, zup_f (by omega)]) (fun x y z => by rw [hDm, zup_f (by omega)])
      obtain ⟨A2, B2, c1, c2, c3, c4, c5, c6⟩ := p_go hT.1 d e (by omega) (by omega) 0 y0
      have hp2 := c6 (A1 2 4) (by rw [hC, zup_f (by omega)]; exact (tk_pg a3 (by omega)).1) (by rw [hC, zup_f (by omega)]; exact (tk_pg a3 (by omega)).2)
      have fA2 : ∀ x y, ¬ (x = 2 ∧ 3 ≤ y ∧ y ≤ 9) → ¬ (x = 6 ∧ y = hh) → A2 x y = A x y := fun x y z1 z2 => by
        rw [c4 x y z1, hC, zup_f z2, a4 x y z1]
      have fB2 : ∀ x y, ¬ (x = 197 ∧ ((5 ≤ y ∧ y ≤ 9) ∨ y = 12)) → ¬ (x = 205 ∧ y = 5 + hh) → B2 x y = B x y := fun x y z1 z2 => by
        rw [c5 x y z1, hDm, zup_f z2, a5 x y z1]
      have n6 : A2 6 hh = A1 2 8 := by rw [c4 _ _ (by omega), hC, zup_e (by omega)]
      have n205 : B2 205 (5 + hh) = B1 197 12 := by rw [c5 _ _ (by omega), hDm, zup_e (by omega)]
      rw [hDm] at c2
      have b2' := b2 B2 c2
      rw [hC] at c1
      have k0 := v.k0
      have q46 : A2 4 6 = A 4 6 := fA2 _ _ (by omega) (by omega)
      have q20 : B2 200 0 = A 4 6 := by rw [fB2 _ _ (by omega) (by omega), ← k0.1]
      obtain ⟨A3, B3, r, st, d1, d2, d3, d4, d5⟩ := p_readOne c3 d (e + 1) (by omega) (by omega) 5 5 0 (A 4 6) 0 y0 0 0 0 (by omega) (by omega) (by omega) (by omega) (by omega) (fun k p0 p1 => by
        rw [fA2 _ _ (by omega) (by omega), fB2 _ _ (by omega) (by omega)]
        exact v.n1 k p0 p1)
      rcases d5 with ⟨rfl, hst, h13, d5, d6⟩ | ⟨rfl, rfl, d5⟩
      · obtain ⟨D3, hD3⟩ : ∃ D3, D3 = zup B3 200 (9 + hh) (B3 197 13) := ⟨_, rfl⟩
        have hT3 : tkR A3 D3 := tkR_fr d5 (fun _ _ _ => rfl) (fun x y z => by rw [hD3, zup_f (by omega)])
        have hp3 := r_putY (e + 1) (by omega) y0 (9 + hh) 0 0 B3 (by omega) (by omega)
        rw [← hD3] at hp3
        obtain ⟨A4, B4, r, ir, g1, g2, g3, g4, g5⟩ := p_num hT3 d (e + 1) (by omega) (by omega) 0 20 0 y0 0 0 0 0
        rcases g5 with ⟨rfl, hir, hir2, g13, g5, g6⟩ | ⟨rfl, rfl, g5⟩
        · obtain ⟨D4, hD4⟩ : ∃ D4, D4 = zup B4 200 (19 + hh) (B4 197 13) := ⟨_, rfl⟩
          have hT4 : tkR A4 D4 := tkR_fr g5 (fun _ _ _ => rfl) (fun x y z => by rw [hD4, zup_f (by omega)])
          have hp4 := r_putY (e + 1) (by omega) y0 (19 + hh) 0 0 B4 (by omega) (by omega)
          rw [← hD4] at hp4
          obtain ⟨A5, B5, r, co, i1, i2, i3, i4, i5⟩ := p_num hT4 d (e + 1) (by omega) (by omega) 0 99 0 y0 0 0 0 0
          rcases i5 with ⟨rfl, hco, hco2, i13, i5, i6⟩ | ⟨rfl, rfl, i5⟩
          · obtain ⟨D5, hD5⟩ : ∃ D5, D5 = zup B5 200 (29 + hh) (B5 197 13) := ⟨_, rfl⟩
            have hT5 : tkR A5 D5 := tkR_fr i5 (fun _ _ _ => rfl) (fun x y z => by rw [hD5, zup_f (by omega)])
            have hp5 := r_putY (e + 1) (by omega) y0 (29 + hh) 0 0 B5 (by omega) (by omega)
            rw [← hD5] at hp5
            have hw := p_isWord hT5 (k := 25) (by omega) (by omega) (e + 1) (by omega) y0 0
            have wb := hT5.2.wb
            have k25 : wk 25 = 5 := rfl
            rw [k25] at hw
            have fA5 : ∀ x y, ¬ (x = 2 ∧ 3 ≤ y ∧ y ≤ 11) → ¬ (x = 6 ∧ y = hh) → A5 x y = A x y := fun x y z1 z2 => by
              rw [i3 x y z1, g3 x y z1, d3 x y z1, fA2 x y (by omega) z2]
            have fD5 : ∀ x y, ¬ (x = 197 ∧ 5 ≤ y ∧ y ≤ 13) → ¬ (x = 205 ∧ y = 5 + hh) → ¬ (x = 200 ∧ (y = 9 + hh ∨ y = 19 + hh ∨ y = 29 + hh)) → D5 x y = B x y := fun x y z1 z2 z3 => by
              rw [hD5, zup_f (by omega), i4 x y z1, hD4, zup_f (by omega), g4 x y z1, hD3, zup_f (by omega), d4 x y z1, fB2 x y (by omega) z2]
            have x6 : A5 6 hh = A1 2 8 := by rw [i3 _ _ (by omega), g3 _ _ (by omega), d3 _ _ (by omega), n6]
            have x205 : D5 205 (5 + hh) = B1 197 12 := by
              rw [hD5, zup_f (by omega), i4 _ _ (by omega), hD4, zup_f (by omega), g4 _ _ (by omega), hD3, zup_f (by omega), d4 _ _ (by omega), n205]
            have x9 : D5 200 (9 + hh) = st := by
              rw [hD5, zup_f (by omega), i4 _ _ (by omega), hD4, zup_f (by omega), g4 _ _ (by omega), hD3, zup_e (by omega), h13]
            have x19 : D5 200 (19 + hh) = ir := by
              rw [hD5, zup_f (by omega), i4 _ _ (by omega), hD4, zup_e (by omega), g13]
            have x29 : D5 200 (29 + hh) = co := by rw [hD5, zup_e (by omega), i13]
            have y39 : D5 200 39 = A 4 9 := by rw [fD5 _ _ (by omega) (by omega) (by omega)]; exact v.ch.1.symm
            have y1 : D5 200 1 = hh := by rw [fD5 _ _ (by omega) (by omega) (by omega), ← k1.1]; exact eh
            have z49 : A5 4 9 = A 4 9 := fA5 _ _ (by omega) (by omega)
            have z47 : A5 4 7 = hh := by rw [fA5 _ _ (by omega) (by omega)]; exact eh
            obtain ⟨C6, hC6⟩ : ∃ C6, C6 = zup (zup (zup A5 8 hh st) 12 hh ir) 13 hh co := ⟨_, rfl⟩
            have fC6 : ∀ x y, ¬ ((x = 8 ∨ x = 12 ∨ x = 13) ∧ y = hh) → C6 x y = A5 x y := fun x y z => by
              rw [hC6, zup_f (by omega), zup_f (by omega), zup_f (by omega)]
            have w8 : C6 8 hh = st := by rw [hC6, zup_a (by omega), zup_a (by omega), zup_e (by omega)]
            have w12 : C6 12 hh = ir := by rw [hC6, zup_a (by omega), zup_e (by omega)]
            have w13 : C6 13 hh = co := by rw [hC6, zup_e (by omega)]
            have hch := v.ch
            have w27 : 0 < zup (zup (zup A5 8 hh st) 12 hh ir) 13 hh co 2 7 := by
              rw [zup_a (by omega), zup_a (by omega), zup_a (by omega)]
              omega
            by_cases cc : A5 2 7 = 5
            · rw [if_pos cc] at hw
              obtain ⟨C7, hC7⟩ : ∃ C7, C7 = zup C6 4 9 (zor (A 4 9) (zshl 1 hh)) := ⟨_, rfl⟩
              obtain ⟨D7, hD7⟩ : ∃ D7, D7 = zup D5 200 39 (zor (A 4 9) (zshl 1 hh)) := ⟨_, rfl⟩
              have hT7 : tkR C7 D7 := tkR_fr hT5 (fun x y z => by rw [hC7, zup_f (by omega), fC6 x y (by omega)]) (fun x y z => by rw [hD7, zup_f (by omega)])
              obtain ⟨A8, B8, m1, m2, m3, m4, m5, m6⟩ := p_go hT7.1 d (e + 1) (by omega) (by omega) 0 y0
              have h52 := tk_w2 hT5 (k := 25) (by omega) (by omega) cc
              have hp6 := m6 (A5 2 4) (by rw [hC7, zup_f (by omega), fC6 _ _ (by omega)]; exact (tk_pg hT5 (by omega)).1) (by rw [hC7, zup_f (by omega), fC6 _ _ (by omega)]; exact (tk_pg hT5 (by omega)).2)
              have fA8 : ∀ x y, ¬ (x = 2 ∧ 3 ≤ y ∧ y ≤ 9) → ¬ (x = 4 ∧ y = 9) → A8 x y = C6 x y := fun x y z1 z2 => by rw [m4 x y z1, hC7, zup_f z2]
              have fB8 : ∀ x y, ¬ (x = 197 ∧ ((5 ≤ y ∧ y ≤ 9) ∨ y = 12)) → ¬ (x = 200 ∧ y = 39) → B8 x y = D5 x y := fun x y z1 z2 => by rw [m5 x y z1, hD7, zup_f z2]
              have u47 : A8 4 7 = hh := by rw [fA8 _ _ (by omega) (by omega), fC6 _ _ (by omega), z47]
              have u1 : B8 200 1 = hh := by rw [fB8 _ _ (by omega) (by omega), y1]
              rw [hC7, hC6] at m1
              rw [hD7] at m2
              have hsb := zsh_bd (h := hh) (by omega) (by omega)
              have hz := zor_lt hch.2.1 hch.2.2 hsb.1 hsb.2
              refine ⟨zup A8 4 7 (hh + 1), zup B8 200 1 (hh + 1), 1, ?_, ?_, fun x y p1 p2 p3 => ?_, fun x y p1 p2 p3 p4 => ?_, Or.inl ⟨rfl, ?_, ?_, ?_⟩⟩
              · simp (disch := first | assumption | exact zrm0 | exact zrm1 _ | exact zrm2 _ _ | exact zrm3 _ _ _ | exact zrm4 _ _ _ _ | omega) only [m84, ↓k_dp, ↓k_dn, k_dp, k_dn, k_dT, k_dF, k_ip, k_in, if_true, if_false, ne_eq, not_true_eq_false, not_false_eq_true, Int.reduceAdd, zup_a, zup_e, zup_j, z32_id, k_al0, k_gR, k_gI, k_is1, k_il1, k_ic, k_iclt, k_v2r, k_rz, k_v1, k_v1r, k_ifne, k_gL, k_lst, k_v3r, k_is2, k_il2, k_icne, k_goto, k_is3, k_il3, k_is4, k_il4, k_ist, k_gE, k_en, k_acne, k_dup, k_ishl, k_ior, k_pI, k_iadd, zb0_some, zb1_some, e84_0, e84_1, e84_4, e84_7, e84_8, e84_9, e84_11, e84_14, e84_15, e84_18, e84_19, e84_22, e84_23, e84_24, e84_27, e84_30, e84_31, e84_34, e84_37, e84_38, e84_39, e84_40, e84_43, e84_46, e84_47, e84_48, e84_51, e84_54, e84_55, e84_56, e84_59, e84_62, e84_63, e84_66, e84_67, e84_70, e84_73, e84_74, e84_77, e84_80, e84_83, e84_84, e84_85, e84_86, e84_89, e84_90, e84_93, e84_94, e84_97, e84_98, e84_100, e84_103, e84_104, e84_105, e84_106, e84_109, e84_110, e84_113, e84_114, e84_117, e84_118, e84_120, e84_123, e84_125, e84_127, e84_128, e84_131, e84_132, e84_133, e84_134, e84_137, e84_140, e84_141, e84_142, e84_143, e84_144, e84_147, e84_150, e84_151, e84_152, e84_153, e84_154, e84_157, e84_160, e84_161, e84_163, e84_164, e84_165, e84_168, e84_171, e84_174, e84_177, e84_178, e84_181, e84_182, e84_185, e84_186, e84_187, e84_188, e84_189, e84_192, e84_193, e84_196, e84_199, e84_200, e84_203, e84_204, e84_207, e84_208, e84_209, e84_212, e84_213, eh, a1, b1, c1, q46, d1, g1, i1, cc, z49, m1, u47]
              · simp (disch := first | assumption | exact zrm0 | exact zrm1 _ | exact zrm2 _ _ | exact zrm3 _ _ _ | exact zrm4 _ _ _ _ | omega) only [m197, ↓k_dp, ↓k_dn, k_dp, k_dn, k_dT, k_dF, k_ip, k_in, if_true, if_false, ne_eq, not_true_eq_false, not_false_eq_true, Int.reduceAdd, zup_a, zup_e, zup_j, z32_id, k_al0, k_ic, k_v3r, k_ifne, k_rz, k_gR, k_ild, k_ildS, k_ildW, k_is1, k_il1, k_iadd, k_v2r, k_ifeq, k_dup2, k_ishl, k_ior, k_ist, k_v1, zb0_some, zb1_some, e197_0, e197_1, e197_2, e197_4, e197_7, e197_10, e197_11, e197_12, e197_13, e197_16, e197_17, e197_18, e197_19, e197_20, e197_21, e197_22, e197_23, e197_26, e197_29, e197_30, e197_32, e197_33, e197_34, e197_35, e197_36, e197_37, e197_40, e197_41, e197_42, e197_45, e197_48, e197_51, e197_52, e197_53, e197_54, e197_56, e197_57, e197_58, e197_59, e197_60, e197_62, e197_65, e197_68, e197_71, e197_72, e197_74, e197_75, e197_76, e197_77, e197_78, e197_80, e197_83, e197_86, e197_89, e197_90, e197_91, e197_92, e197_94, e197_97, e197_100, e197_101, e197_104, e197_106, e197_107, e197_108, e197_109, e197_110, e197_111, e197_112, e197_113, e197_114, e197_117, e197_118, e197_121, e197_122, e197_123, e197_124, e197_125, e197_126, e197_127, e197_128, hfirst, eB1, b2', q20, d2, hp3, g2, hp4, i2, hp5, hw, y39, m2, u1]
              · rw [zup_f (by omega), fA8 x y (by omega) (by omega), fC6 x y (by omega), fA5 x y (by omega) (by omega)]
              · rw [zup_f (by omega), fB8 x y (by omega) (by omega), fD5 x y p1 (by omega) (by omega)]
              · exact tkR_fr m3 (fun x y z => zup_f (by omega)) (fun x y z => zup_f (by omega))
              · refine vl_hand v (hh := hh) eh.symm cm (fun x y p1 p2 p3 => ?_) (fun x y p1 p2 p3 => ?_) (zup_e (by omega)) (zup_e (by omega)) ?_ ?_ ?_ ?_ ?_
                · rw [zup_f (by omega), fA8 x y (by omega) (by omega), fC6 x y (by omega), fA5 x y (by omega) (by omega)]
                · rw [zup_f (by omega), fB8 x y (by omega) (by omega), fD5 x y (by omega) (by omega) (by omega)]
                · rw [zup_f (by omega), zup_f (by omega), fA8 _ _ (by omega) (by omega), fC6 _ _ (by omega), fB8 _ _ (by omega) (by omega), x6, x205]
                  exact b3
                · rw [zup_f (by omega), zup_f (by omega), fA8 _ _ (by omega) (by omega), fB8 _ _ (by omega) (by omega), w8, x9]
                  exact ⟨rfl, hst⟩
                · rw [zup_f (by omega), zup_f (by omega), fA8 _ _ (by omega) (by omega), fB8 _ _ (by omega) (by omega), w12, x19]
                  exact ⟨rfl, hir⟩
                · rw [zup_f (by omega), zup_f (by omega), fA8 _ _ (by omega) (by omega), fB8 _ _ (by omega) (by omega), w13, x29]
                  exact ⟨rfl, hco⟩
                · rw [zup_f (by omega), zup_f (by omega), m4 _ _ (by omega), hC7, zup_e (by omega), m5 _ _ (by omega), hD7, zup_e (by omega)]
                  exact ⟨rfl, hz⟩
              · rw [zup_f (by omega)]
                omega
            · rw [if_neg cc] at hw
              refine ⟨zup C6 4 7 (hh + 1), zup D5 200 1 (hh + 1), 1, ?_, ?_, fun x y p1 p2 p3 => ?_, fun x y p1 p2 p3 p4 => ?_, Or.inl ⟨rfl, ?_, ?_, ?_⟩⟩
              · rw [hC6]
                simp (disch := first | assumption | exact zrm0 | exact zrm1 _ | exact zrm2 _ _ | exact zrm3 _ _ _ | exact zrm4 _ _ _ _ | omega) only [m84, ↓k_dp, ↓k_dn, k_dp, k_dn, k_dT, k_dF, k_ip, k_in, if_true, if_false, ne_eq, not_true_eq_false, not_false_eq_true, Int.reduceAdd, zup_a, zup_e, zup_j, z32_id, k_al0, k_gR, k_gI, k_is1, k_il1, k_ic, k_iclt, k_v2r, k_rz, k_v1, k_v1r, k_ifne, k_gL, k_lst, k_v3r, k_is2, k_il2, k_icne, k_goto, k_is3, k_il3, k_is4, k_il4, k_ist, k_gE, k_en, k_acne, k_dup, k_ishl, k_ior, k_pI, k_iadd, zb0_some, zb1_some, e84_0, e84_1, e84_4, e84_7, e84_8, e84_9, e84_11, e84_14, e84_15, e84_18, e84_19, e84_22, e84_23, e84_24, e84_27, e84_30, e84_31, e84_34, e84_37, e84_38, e84_39, e84_40, e84_43, e84_46, e84_47, e84_48, e84_51, e84_54, e84_55, e84_56, e84_59, e84_62, e84_63, e84_66, e84_67, e84_70, e84_73, e84_74, e84_77, e84_80, e84_83, e84_84, e84_85, e84_86, e84_89, e84_90, e84_93, e84_94, e84_97, e84_98, e84_100, e84_103, e84_104, e84_105, e84_106, e84_109, e84_110, e84_113, e84_114, e84_117, e84_118, e84_120, e84_123, e84_125, e84_127, e84_128, e84_131, e84_132, e84_133, e84_134, e84_137, e84_140, e84_141, e84_142, e84_143, e84_144, e84_147, e84_150, e84_151, e84_152, e84_153, e84_154, e84_157, e84_160, e84_161, e84_163, e84_164, e84_165, e84_168, e84_171, e84_174, e84_177, e84_178, e84_181, e84_182, e84_185, e84_186, e84_187, e84_188, e84_189, e84_192, e84_193, e84_196, e84_199, e84_200, e84_203, e84_204, e84_207, e84_208, e84_209, e84_212, e84_213, eh, a1, b1, c1, q46, d1, g1, i1, cc, z47]
              · simp (disch := first | assumption | exact zrm0 | exact zrm1 _ | exact zrm2 _ _ | exact zrm3 _ _ _ | exact zrm4 _ _ _ _ | omega) only [m197, ↓k_dp, ↓k_dn, k_dp, k_dn, k_dT, k_dF, k_ip, k_in, if_true, if_false, ne_eq, not_true_eq_false, not_false_eq_true, Int.reduceAdd, zup_a, zup_e, zup_j, z32_id, k_al0, k_ic, k_v3r, k_ifne, k_rz, k_gR, k_ild, k_ildS, k_ildW, k_is1, k_il1, k_iadd, k_v2r, k_ifeq, k_dup2, k_ishl, k_ior, k_ist, k_v1, zb0_some, zb1_some, e197_0, e197_1, e197_2, e197_4, e197_7, e197_10, e197_11, e197_12, e197_13, e197_16, e197_17, e197_18, e197_19, e197_20, e197_21, e197_22, e197_23, e197_26, e197_29, e197_30, e197_32, e197_33, e197_34, e197_35, e197_36, e197_37, e197_40, e197_41, e197_42, e197_45, e197_48, e197_51, e197_52, e197_53, e197_54, e197_56, e197_57, e197_58, e197_59, e197_60, e197_62, e197_65, e197_68, e197_71, e197_72, e197_74, e197_75, e197_76, e197_77, e197_78, e197_80, e197_83, e197_86, e197_89, e197_90, e197_91, e197_92, e197_94, e197_97, e197_100, e197_101, e197_104, e197_106, e197_107, e197_108, e197_109, e197_110, e197_111, e197_112, e197_113, e197_114, e197_117, e197_118, e197_121, e197_122, e197_123, e197_124, e197_125, e197_126, e197_127, e197_128, hfirst, eB1, b2', q20, d2, hp3, g2, hp4, i2, hp5, hw, y1]
              · rw [zup_f (by omega), fC6 x y (by omega), fA5 x y (by omega) (by omega)]
              · rw [zup_f (by omega), fD5 x y p1 (by omega) (by omega)]
              · exact tkR_fr hT5 (fun x y z => by rw [zup_f (by omega), fC6 x y (by omega)]) (fun x y z => zup_f (by omega))
              · refine vl_hand v (hh := hh) eh.symm cm (fun x y p1 p2 p3 => ?_) (fun x y p1 p2 p3 => ?_) (zup_e (by omega)) (zup_e (by omega)) ?_ ?_ ?_ ?_ ?_
                · rw [zup_f (by omega), fC6 x y (by omega), fA5 x y (by omega) (by omega)]
                · rw [zup_f (by omega), fD5 x y (by omega) (by omega) (by omega)]
                · rw [zup_f (by omega), zup_f (by omega), fC6 _ _ (by omega), x6, x205]
                  exact b3
                · rw [zup_f (by omega), zup_f (by omega), w8, x9]
                  exact ⟨rfl, hst⟩
                · rw [zup_f (by omega), zup_f (by omega), w12, x19]
                  exact ⟨rfl, hir⟩
                · rw [zup_f (by omega), zup_f (by omega), w13, x29]
                  exact ⟨rfl, hco⟩
                · rw [zup_f (by omega), zup_f (by omega), fC6 _ _ (by omega), z49, y39]
                  exact ⟨rfl, hch.2⟩
              · rw [zup_f (by omega), fC6 _ _ (by omega)]
                omega
          · have hp5 := r_putN (e + 1) (by omega) y0 (29 + hh) 0 0 B5
            refine ⟨A5, B5, 0, ?_, ?_, fun x y p1 p2 p3 => ?_, fun x y p1 p2 p3 p4 => ?_, Or.inr ⟨rfl, i5⟩⟩
            · simp (disch := first | assumption | exact zrm0 | exact zrm1 _ | exact zrm2 _ _ | exact zrm3 _ _ _ | exact zrm4 _ _ _ _ | omega) only [m84, ↓k_dp, ↓k_dn, k_dp, k_dn, k_dT, k_dF, k_ip, k_in, if_true, if_false, ne_eq, not_true_eq_false, not_false_eq_true, Int.reduceAdd, zup_a, zup_e, zup_j, z32_id, k_al0, k_gR, k_gI, k_is1, k_il1, k_ic, k_iclt, k_v2r, k_rz, k_v1, k_v1r, k_ifne, k_gL, k_lst, k_v3r, k_is2, k_il2, k_icne, k_goto, k_is3, k_il3, k_is4, k_il4, k_ist, k_gE, k_en, k_acne, k_dup, k_ishl, k_ior, k_pI, k_iadd, zb0_some, zb1_some, e84_0, e84_1, e84_4, e84_7, e84_8, e84_9, e84_11, e84_14, e84_15, e84_18, e84_19, e84_22, e84_23, e84_24, e84_27, e84_30, e84_31, e84_34, e84_37, e84_38, e84_39, e84_40, e84_43, e84_46, e84_47, e84_48, e84_51, e84_54, e84_55, e84_56, e84_59, e84_62, e84_63, e84_66, e84_67, e84_70, e84_73, e84_74, e84_77, e84_80, e84_83, e84_84, e84_85, e84_86, e84_89, e84_90, e84_93, e84_94, e84_97, e84_98, e84_100, e84_103, e84_104, e84_105, e84_106, e84_109, e84_110, e84_113, e84_114, e84_117, e84_118, e84_120, e84_123, e84_125, e84_127, e84_128, e84_131, e84_132, e84_133, e84_134, e84_137, e84_140, e84_141, e84_142, e84_143, e84_144, e84_147, e84_150, e84_151, e84_152, e84_153, e84_154, e84_157, e84_160, e84_161, e84_163, e84_164, e84_165, e84_168, e84_171, e84_174, e84_177, e84_178, e84_181, e84_182, e84_185, e84_186, e84_187, e84_188, e84_189, e84_192, e84_193, e84_196, e84_199, e84_200, e84_203, e84_204, e84_207, e84_208, e84_209, e84_212, e84_213, eh, a1, b1, c1, q46, d1, g1, i1]
            · simp (disch := first | assumption | exact zrm0 | exact zrm1 _ | exact zrm2 _ _ | exact zrm3 _ _ _ | exact zrm4 _ _ _ _ | omega) only [m197, ↓k_dp, ↓k_dn, k_dp, k_dn, k_dT, k_dF, k_ip, k_in, if_true, if_false, ne_eq, not_true_eq_false, not_false_eq_true, Int.reduceAdd, zup_a, zup_e, zup_j, z32_id, k_al0, k_ic, k_v3r, k_ifne, k_rz, k_gR, k_ild, k_ildS, k_ildW, k_is1, k_il1, k_iadd, k_v2r, k_ifeq, k_dup2, k_ishl, k_ior, k_ist, k_v1, zb0_some, zb1_some, e197_0, e197_1, e197_2, e197_4, e197_7, e197_10, e197_11, e197_12, e197_13, e197_16, e197_17, e197_18, e197_19, e197_20, e197_21, e197_22, e197_23, e197_26, e197_29, e197_30, e197_32, e197_33, e197_34, e197_35, e197_36, e197_37, e197_40, e197_41, e197_42, e197_45, e197_48, e197_51, e197_52, e197_53, e197_54, e197_56, e197_57, e197_58, e197_59, e197_60, e197_62, e197_65, e197_68, e197_71, e197_72, e197_74, e197_75, e197_76, e197_77, e197_78, e197_80, e197_83, e197_86, e197_89, e197_90, e197_91, e197_92, e197_94, e197_97, e197_100, e197_101, e197_104, e197_106, e197_107, e197_108, e197_109, e197_110, e197_111, e197_112, e197_113, e197_114, e197_117, e197_118, e197_121, e197_122, e197_123, e197_124, e197_125, e197_126, e197_127, e197_128, hfirst, eB1, b2', q20, d2, hp3, g2, hp4, i2, hp5]
            · rw [i3 x y (by omega), g3 x y (by omega), d3 x y (by omega), fA2 x y (by omega) (by omega)]
            · rw [i4 x y p1, hD4, zup_f (by omega), g4 x y p1, hD3, zup_f (by omega), d4 x y p1, fB2 x y (by omega) (by omega)]
        · have hp4 := r_putN (e + 1) (by omega) y0 (19 + hh) 0 0 B4
          refine ⟨A4, B4, 0, ?_, ?_, fun x y p1 p2 p3 => ?_, fun x y p1 p2 p3 p4 => ?_, Or.inr ⟨rfl, g5⟩⟩
          · simp (disch := first | assumption | exact zrm0 | exact zrm1 _ | exact zrm2 _ _ | exact zrm3 _ _ _ | exact zrm4 _ _ _ _ | omega) only [m84, ↓k_dp, ↓k_dn, k_dp, k_dn, k_dT, k_dF, k_ip, k_in, if_true, if_false, ne_eq, not_true_eq_false, not_false_eq_true, Int.reduceAdd, zup_a, zup_e, zup_j, z32_id, k_al0, k_gR, k_gI, k_is1, k_il1, k_ic, k_iclt, k_v2r, k_rz, k_v1, k_v1r, k_ifne, k_gL, k_lst, k_v3r, k_is2, k_il2, k_icne, k_goto, k_is3, k_il3, k_is4, k_il4, k_ist, k_gE, k_en, k_acne, k_dup, k_ishl, k_ior, k_pI, k_iadd, zb0_some, zb1_some, e84_0, e84_1, e84_4, e84_7, e84_8, e84_9, e84_11, e84_14, e84_15, e84_18, e84_19, e84_22, e84_23, e84_24, e84_27, e84_30, e84_31, e84_34, e84_37, e84_38, e84_39, e84_40, e84_43, e84_46, e84_47, e84_48, e84_51, e84_54, e84_55, e84_56, e84_59, e84_62, e84_63, e84_66, e84_67, e84_70, e84_73, e84_74, e84_77, e84_80, e84_83, e84_84, e84_85, e84_86, e84_89, e84_90, e84_93, e84_94, e84_97, e84_98, e84_100, e84_103, e84_104, e84_105, e84_106, e84_109, e84_110, e84_113, e84_114, e84_117, e84_118, e84_120, e84_123, e84_125, e84_127, e84_128, e84_131, e84_132, e84_133, e84_134, e84_137, e84_140, e84_141, e84_142, e84_143, e84_144, e84_147, e84_150, e84_151, e84_152, e84_153, e84_154, e84_157, e84_160, e84_161, e84_163, e84_164, e84_165, e84_168, e84_171, e84_174, e84_177, e84_178, e84_181, e84_182, e84_185, e84_186, e84_187, e84_188, e84_189, e84_192, e84_193, e84_196, e84_199, e84_200, e84_203, e84_204, e84_207, e84_208, e84_209, e84_212, e84_213, eh, a1, b1, c1, q46, d1, g1]
          · simp (disch := first | assumption | exact zrm0 | exact zrm1 _ | exact zrm2 _ _ | exact zrm3 _ _ _ | exact zrm4 _ _ _ _ | omega) only [m197, ↓k_dp, ↓k_dn, k_dp, k_dn, k_dT, k_dF, k_ip, k_in, if_true, if_false, ne_eq, not_true_eq_false, not_false_eq_true, Int.reduceAdd, zup_a, zup_e, zup_j, z32_id, k_al0, k_ic, k_v3r, k_ifne, k_rz, k_gR, k_ild, k_ildS, k_ildW, k_is1, k_il1, k_iadd, k_v2r, k_ifeq, k_dup2, k_ishl, k_ior, k_ist, k_v1, zb0_some, zb1_some, e197_0, e197_1, e197_2, e197_4, e197_7, e197_10, e197_11, e197_12, e197_13, e197_16, e197_17, e197_18, e197_19, e197_20, e197_21, e197_22, e197_23, e197_26, e197_29, e197_30, e197_32, e197_33, e197_34, e197_35, e197_36, e197_37, e197_40, e197_41, e197_42, e197_45, e197_48, e197_51, e197_52, e197_53, e197_54, e197_56, e197_57, e197_58, e197_59, e197_60, e197_62, e197_65, e197_68, e197_71, e197_72, e197_74, e197_75, e197_76, e197_77, e197_78, e197_80, e197_83, e197_86, e197_89, e197_90, e197_91, e197_92, e197_94, e197_97, e197_100, e197_101, e197_104, e197_106, e197_107, e197_108, e197_109, e197_110, e197_111, e197_112, e197_113, e197_114, e197_117, e197_118, e197_121, e197_122, e197_123, e197_124, e197_125, e197_126, e197_127, e197_128, hfirst, eB1, b2', q20, d2, hp3, g2, hp4]
          · rw [g3 x y (by omega), d3 x y (by omega), fA2 x y (by omega) (by omega)]
          · rw [g4 x y p1, hD3, zup_f (by omega), d4 x y p1, fB2 x y (by omega) (by omega)]
      · have hp3 := r_putN (e + 1) (by omega) y0 (9 + hh) 0 0 B3
        refine ⟨A3, B3, 0, ?_, ?_, fun x y p1 p2 p3 => ?_, fun x y p1 p2 p3 p4 => ?_, Or.inr ⟨rfl, d5⟩⟩
        · simp (disch := first | assumption | exact zrm0 | exact zrm1 _ | exact zrm2 _ _ | exact zrm3 _ _ _ | exact zrm4 _ _ _ _ | omega) only [m84, ↓k_dp, ↓k_dn, k_dp, k_dn, k_dT, k_dF, k_ip, k_in, if_true, if_false, ne_eq, not_true_eq_false, not_false_eq_true, Int.reduceAdd, zup_a, zup_e, zup_j, z32_id, k_al0, k_gR, k_gI, k_is1, k_il1, k_ic, k_iclt, k_v2r, k_rz, k_v1, k_v1r, k_ifne, k_gL, k_lst, k_v3r, k_is2, k_il2, k_icne, k_goto, k_is3, k_il3, k_is4, k_il4, k_ist, k_gE, k_en, k_acne, k_dup, k_ishl, k_ior, k_pI, k_iadd, zb0_some, zb1_some, e84_0, e84_1, e84_4, e84_7, e84_8, e84_9, e84_11, e84_14, e84_15, e84_18, e84_19, e84_22, e84_23, e84_24, e84_27, e84_30, e84_31, e84_34, e84_37, e84_38, e84_39, e84_40, e84_43, e84_46, e84_47, e84_48, e84_51, e84_54, e84_55, e84_56, e84_59, e84_62, e84_63, e84_66, e84_67, e84_70, e84_73, e84_74, e84_77, e84_80, e84_83, e84_84, e84_85, e84_86, e84_89, e84_90, e84_93, e84_94, e84_97, e84_98, e84_100, e84_103, e84_104, e84_105, e84_106, e84_109, e84_110, e84_113, e84_114, e84_117, e84_118, e84_120, e84_123, e84_125, e84_127, e84_128, e84_131, e84_132, e84_133, e84_134, e84_137, e84_140, e84_141, e84_142, e84_143, e84_144, e84_147, e84_150, e84_151, e84_152, e84_153, e84_154, e84_157, e84_160, e84_161, e84_163, e84_164, e84_165, e84_168, e84_171, e84_174, e84_177, e84_178, e84_181, e84_182, e84_185, e84_186, e84_187, e84_188, e84_189, e84_192, e84_193, e84_196, e84_199, e84_200, e84_203, e84_204, e84_207, e84_208, e84_209, e84_212, e84_213, eh, a1, b1, c1, q46, d1]
        · simp (disch := first | assumption | exact zrm0 | exact zrm1 _ | exact zrm2 _ _ | exact zrm3 _ _ _ | exact zrm4 _ _ _ _ | omega) only [m197, ↓k_dp, ↓k_dn, k_dp, k_dn, k_dT, k_dF, k_ip, k_in, if_true, if_false, ne_eq, not_true_eq_false, not_false_eq_true, Int.reduceAdd, zup_a, zup_e, zup_j, z32_id, k_al0, k_ic, k_v3r, k_ifne, k_rz, k_gR, k_ild, k_ildS, k_ildW, k_is1, k_il1, k_iadd, k_v2r, k_ifeq, k_dup2, k_ishl, k_ior, k_ist, k_v1, zb0_some, zb1_some, e197_0, e197_1, e197_2, e197_4, e197_7, e197_10, e197_11, e197_12, e197_13, e197_16, e197_17, e197_18, e197_19, e197_20, e197_21, e197_22, e197_23, e197_26, e197_29, e197_30, e197_32, e197_33, e197_34, e197_35, e197_36, e197_37, e197_40, e197_41, e197_42, e197_45, e197_48, e197_51, e197_52, e197_53, e197_54, e197_56, e197_57, e197_58, e197_59, e197_60, e197_62, e197_65, e197_68, e197_71, e197_72, e197_74, e197_75, e197_76, e197_77, e197_78, e197_80, e197_83, e197_86, e197_89, e197_90, e197_91, e197_92, e197_94, e197_97, e197_100, e197_101, e197_104, e197_106, e197_107, e197_108, e197_109, e197_110, e197_111, e197_112, e197_113, e197_114, e197_117, e197_118, e197_121, e197_122, e197_123, e197_124, e197_125, e197_126, e197_127, e197_128, hfirst, eB1, b2', q20, d2, hp3]
        · rw [d3 x y (by omega), fA2 x y (by omega) (by omega)]
        · rw [d4 x y p1, fB2 x y (by omega) (by omega)]
    · refine ⟨A2, B2, 0, ?_, ?_, fun x y p1 p2 p3 => ?_, fun x y p1 p2 p3 p4 => ?_, Or.inr ⟨rfl, b5⟩⟩
      · simp (disch := first | assumption | exact zrm0 | exact zrm1 _ | exact zrm2 _ _ | exact zrm3 _ _ _ | exact zrm4 _ _ _ _ | omega) only [m84, ↓k_dp, ↓k_dn, k_dp, k_dn, k_dT, k_dF, k_ip, k_in, if_true, if_false, ne_eq, not_true_eq_false, not_false_eq_true, Int.reduceAdd, zup_a, zup_e, zup_j, z32_id, k_al0, k_gR, k_gI, k_is1, k_il1, k_ic, k_iclt, k_v2r, k_rz, k_v1, k_v1r, k_ifne, k_gL, k_lst, k_v3r, k_is2, k_il2, k_icne, k_goto, k_is3, k_il3, k_is4, k_il4, k_ist, k_gE, k_en, k_acne, k_dup, k_ishl, k_ior, k_pI, k_iadd, zb0_some, zb1_some, e84_0, e84_1, e84_4, e84_7, e84_8, e84_9, e84_11, e84_14, e84_15, e84_18, e84_19, e84_22, e84_23, e84_24, e84_27, e84_30, e84_31, e84_34, e84_37, e84_38, e84_39, e84_40, e84_43, e84_46, e84_47, e84_48, e84_51, e84_54, e84_55, e84_56, e84_59, e84_62, e84_63, e84_66, e84_67, e84_70, e84_73, e84_74, e84_77, e84_80, e84_83, e84_84, e84_85, e84_86, e84_89, e84_90, e84_93, e84_94, e84_97, e84_98, e84_100, e84_103, e84_104, e84_105, e84_106, e84_109, e84_110, e84_113, e84_114, e84_117, e84_118, e84_120, e84_123, e84_125, e84_127, e84_128, e84_131, e84_132, e84_133, e84_134, e84_137, e84_140, e84_141, e84_142, e84_143, e84_144, e84_147, e84_150, e84_151, e84_152, e84_153, e84_154, e84_157, e84_160, e84_161, e84_163, e84_164, e84_165, e84_168, e84_171, e84_174, e84_177, e84_178, e84_181, e84_182, e84_185, e84_186, e84_187, e84_188, e84_189, e84_192, e84_193, e84_196, e84_199, e84_200, e84_203, e84_204, e84_207, e84_208, e84_209, e84_212, e84_213, eh, a1, b1]
      · simp (disch := first | assumption | exact zrm0 | exact zrm1 _ | exact zrm2 _ _ | exact zrm3 _ _ _ | exact zrm4 _ _ _ _ | omega) only [m197, ↓k_dp, ↓k_dn, k_dp, k_dn, k_dT, k_dF, k_ip, k_in, if_true, if_false, ne_eq, not_true_eq_false, not_false_eq_true, Int.reduceAdd, zup_a, zup_e, zup_j, z32_id, k_al0, k_ic, k_v3r, k_ifne, k_rz, k_gR, k_ild, k_ildS, k_ildW, k_is1, k_il1, k_iadd, k_v2r, k_ifeq, k_dup2, k_ishl, k_ior, k_ist, k_v1, zb0_some, zb1_some, e197_0, e197_1, e197_2, e197_4, e197_7, e197_10, e197_11, e197_12, e197_13, e197_16, e197_17, e197_18, e197_19, e197_20, e197_21, e197_22, e197_23, e197_26, e197_29, e197_30, e197_32, e197_33, e197_34, e197_35, e197_36, e197_37, e197_40, e197_41, e197_42, e197_45, e197_48, e197_51, e197_52, e197_53, e197_54, e197_56, e197_57, e197_58, e197_59, e197_60, e197_62, e197_65, e197_68, e197_71, e197_72, e197_74, e197_75, e197_76, e197_77, e197_78, e197_80, e197_83, e197_86, e197_89, e197_90, e197_91, e197_92, e197_94, e197_97, e197_100, e197_101, e197_104, e197_106, e197_107, e197_108, e197_109, e197_110, e197_111, e197_112, e197_113, e197_114, e197_117, e197_118, e197_121, e197_122, e197_123, e197_124, e197_125, e197_126, e197_127, e197_128, hfirst, eB1, b2]
      · rw [b3 x y (by omega)]; exact a4 x y (by omega)
      · rw [b4 x y p1]; exact a5 x y (by omega)
  · obtain ⟨Af, Bf, f1, f2, f3, f4, f5⟩ := p_fail h (k := 4) (by omega) (by omega) (fun z => by omega)
    have f1' := f1 d 0 0 (by omega)
    have f2' := f2 e y0 0 (by omega)
    have hfirst : zEm true (e + 1) 192 [(30, 197, y0), (0, 1, 0), (0, 10, 0)] B = some ((0, 0, 0), Bf) := by
      have : B 200 1 = 10 := by omega
      simp (disch := first | assumption | exact zrm0 | exact zrm1 _ | exact zrm2 _ _ | exact zrm3 _ _ _ | exact zrm4 _ _ _ _ | omega) only [m192, ↓k_dp, ↓k_dn, k_dp, k_dn, k_dT, k_dF, k_ip, k_in, if_true, if_false, ne_eq, not_true_eq_false, not_false_eq_true, Int.reduceAdd, zup_a, zup_e, zup_j, z32_id, k_al0, k_gR, k_il1, k_ild, k_ildS, k_ildW, k_il2, k_icne, k_ic, k_v2r, k_rz, k_v1, zb0_some, zb1_some, e192_0, e192_1, e192_4, e192_5, e192_6, e192_7, e192_10, e192_11, e192_12, e192_15, e192_16, e192_17, e192_20, e192_21, f2']
    refine ⟨Af, Bf, 0, ?_, ?_, frV_X frV_r f3, frW_Y frW_r f4, Or.inr ⟨rfl, f5⟩⟩
    · simp (disch := first | assumption | exact zrm0 | exact zrm1 _ | exact zrm2 _ _ | exact zrm3 _ _ _ | exact zrm4 _ _ _ _ | omega) only [m84, ↓k_dp, ↓k_dn, k_dp, k_dn, k_dT, k_dF, k_ip, k_in, if_true, if_false, ne_eq, not_true_eq_false, not_false_eq_true, Int.reduceAdd, zup_a, zup_e, zup_j, z32_id, k_al0, k_gR, k_gI, k_is1, k_il1, k_ic, k_iclt, k_v2r, k_rz, k_v1, k_v1r, k_ifne, k_gL, k_lst, k_v3r, k_is2, k_il2, k_icne, k_goto, k_is3, k_il3, k_is4, k_il4, k_ist, k_gE, k_en, k_acne, k_dup, k_ishl, k_ior, k_pI, k_iadd, zb0_some, zb1_some, e84_0, e84_1, e84_4, e84_7, e84_8, e84_9, e84_11, e84_14, e84_15, e84_18, e84_19, e84_22, e84_23, e84_24, e84_27, e84_30, e84_31, e84_34, e84_37, e84_38, e84_39, e84_40, e84_43, e84_46, e84_47, e84_48, e84_51, e84_54, e84_55, e84_56, e84_59, e84_62, e84_63, e84_66, e84_67, e84_70, e84_73, e84_74, e84_77, e84_80, e84_83, e84_84, e84_85, e84_86, e84_89, e84_90, e84_93, e84_94, e84_97, e84_98, e84_100, e84_103, e84_104, e84_105, e84_106, e84_109, e84_110, e84_113, e84_114, e84_117, e84_118, e84_120, e84_123, e84_125, e84_127, e84_128, e84_131, e84_132, e84_133, e84_134, e84_137, e84_140, e84_141, e84_142, e84_143, e84_144, e84_147, e84_150, e84_151, e84_152, e84_153, e84_154, e84_157, e84_160, e84_161, e84_163, e84_164, e84_165, e84_168, e84_171, e84_174, e84_177, e84_178, e84_181, e84_182, e84_185, e84_186, e84_187, e84_188, e84_189, e84_192, e84_193, e84_196, e84_199, e84_200, e84_203, e84_204, e84_207, e84_208, e84_209, e84_212, e84_213, eh, f1']
    · simp (disch := first | assumption | exact zrm0 | exact zrm1 _ | exact zrm2 _ _ | exact zrm3 _ _ _ | exact zrm4 _ _ _ _ | omega) only [m197, ↓k_dp, ↓k_dn, k_dp, k_dn, k_dT, k_dF, k_ip, k_in, if_true, if_false, ne_eq, not_true_eq_false, not_false_eq_true, Int.reduceAdd, zup_a, zup_e, zup_j, z32_id, k_al0, k_ic, k_v3r, k_ifne, k_rz, k_gR, k_ild, k_ildS, k_ildW, k_is1, k_il1, k_iadd, k_v2r, k_ifeq, k_dup2, k_ishl, k_ior, k_ist, k_v1, zb0_some, zb1_some, e197_0, e197_1, e197_2, e197_4, e197_7, e197_10, e197_11, e197_12, e197_13, e197_16, e197_17, e197_18, e197_19, e197_20, e197_21, e197_22, e197_23, e197_26, e197_29, e197_30, e197_32, e197_33, e197_34, e197_35, e197_36, e197_37, e197_40, e197_41, e197_42, e197_45, e197_48, e197_51, e197_52, e197_53, e197_54, e197_56, e197_57, e197_58, e197_59, e197_60, e197_62, e197_65, e197_68, e197_71, e197_72, e197_74, e197_75, e197_76, e197_77, e197_78, e197_80, e197_83, e197_86, e197_89, e197_90, e197_91, e197_92, e197_94, e197_97, e197_100, e197_101, e197_104, e197_106, e197_107, e197_108, e197_109, e197_110, e197_111, e197_112, e197_113, e197_114, e197_117, e197_118, e197_121, e197_122, e197_123, e197_124, e197_125, e197_126, e197_127, e197_128, hfirst]
