/-! the law's start: the words, the classes, the static arrays -/
set_option maxRecDepth 100000 in
theorem wz_x : (zabs.all (fun y => decide (Cond.privateMethod y ∈ lw_tbl) && decide (Cond.instanceMethod y ∈ lw_tbl) && decide (Cond.sameMethod y.cls y.cls y.name y.desc ∈ lw_tbl) && decide (y.cls ≠ "java/lang/invoke/MethodHandle") && decide (y.cls ≠ "java/lang/invoke/VarHandle"))) = true := by decide +kernel
set_option maxRecDepth 100000 in
theorem wz_sb : Cond.instantiable zSBn 4 ∈ lw_tbl := by decide +kernel
theorem wz_wl {args : Array Value} {s : State} (hts : ∀ w ∈ lw_tbl, w.before args s = true) : ∀ w ∈ zwl, w.before args s = true := by
  intro w hw
  rcases (zwl_in hw).2 with h | h
  · exact hts w h
  · obtain ⟨y, hy, rfl⟩ := List.mem_map.mp h
    have h1 := List.all_eq_true.mp wz_x y hy
    simp only [Bool.and_eq_true, decide_eq_true_eq] at h1
    obtain ⟨⟨⟨⟨h1, h2⟩, h3⟩, h4⟩, h5⟩ := h1
    exact zsel_priv ⟨h4, h5⟩ (hts _ wz_sb) (hts _ h1) (hts _ h2) (hts _ h3)
theorem wz_K {args : Array Value} {s : State} (hts : ∀ w ∈ zwl, w.before args s = true) : ∃ D : va_G, va_K D zcls [] s := by
  have h0 : ∀ c : Nat, ∃ q : Nat × (Nat → Nat), ∀ r : vw_C, zcls[c]? = some r → u_Kn s r.1 r.2.1 r.2.2 q.1 q.2 := by
    intro c
    by_cases hc : ∃ r, zcls[c]? = some r
    · obtain ⟨r, hr⟩ := hc
      obtain ⟨cC, iS, h⟩ := u_known (C := r.1) (T := r.2.1) (N := r.2.2) (n := r.2.2) hts (zcls_ok hr).1 (hts _ (zcls_new hr).1)
      refine ⟨(cC, iS), fun r' hr' => ?_⟩
      rw [hr] at hr'
      cases hr'
      exact h
    · exact ⟨(0, fun _ => 0), fun r hr => absurd ⟨r, hr⟩ hc⟩
  obtain ⟨g, hg⟩ := Classical.axiomOfChoice h0
  exact ⟨(fun c => (g c).1, fun c => (g c).2), fun c q hq => hg c q hq, fun k q h => by simp at h⟩
set_option maxRecDepth 100000 in
theorem wz_s0 : (Cond.initialized zEW ∈ lw_tbl ∧ Cond.initialized "ClogVotes" ∈ lw_tbl ∧ Cond.initialized "ClogVotes$1" ∈ lw_tbl ∧ Cond.initialized "java/lang/Integer" ∈ lw_tbl ∧ Cond.initialized "java/lang/String" ∈ lw_tbl ∧ Cond.initialized "jdk/internal/util/Preconditions" ∈ lw_tbl ∧ Cond.initialized Bundle.tN ∈ lw_tbl) := by decide +kernel
set_option maxRecDepth 100000 in
theorem wz_s1 : (Cond.laysStatic "ClogVotes$1" "$SwitchMap$ClogVotes$Word" "[I" ∈ lw_tbl ∧ Cond.laysStatic "ClogVotes" "WORDS" "[LClogVotes$Word;" ∈ lw_tbl ∧ Cond.laysStatic "java/lang/Integer" "DigitOnes" "[B" ∈ lw_tbl ∧ Cond.laysStatic "java/lang/Integer" "DigitTens" "[B" ∈ lw_tbl ∧ Cond.laysStatic "java/lang/String" "COMPACT_STRINGS" "Z" ∈ lw_tbl ∧ Cond.laysStatic "jdk/internal/util/Preconditions" "SIOOBE_FORMATTER" "Ljava/util/function/BiFunction;" ∈ lw_tbl ∧ Cond.laysStatic Bundle.tN "UNASSIGNED_STACK" Bundle.steD ∈ lw_tbl ∧ Cond.laysStatic Bundle.tN "SUPPRESSED_SENTINEL" Bundle.listD ∈ lw_tbl) := by decide +kernel
set_option maxRecDepth 100000 in
theorem wz_s2 : (Cond.arrayOf (.static "ClogVotes$1" "$SwitchMap$ClogVotes$Word" "[I") .int ∈ wfl ∧ Cond.arrayOf (.static "ClogVotes" "WORDS" "[LClogVotes$Word;") (.object zEW) ∈ wfl ∧ Cond.arrayOf (.static "java/lang/Integer" "DigitOnes" "[B") .byte ∈ wfl ∧ Cond.arrayOf (.static "java/lang/Integer" "DigitTens" "[B") .byte ∈ wfl) := by decide +kernel
set_option maxRecDepth 100000 in
theorem wz_s3 : (Cond.eq (.length (.static "ClogVotes$1" "$SwitchMap$ClogVotes$Word" "[I")) (.int (Int32.ofNat 34)) ∈ wfl ∧ Cond.eq (.length (.static "java/lang/Integer" "DigitOnes" "[B")) (.int (Int32.ofNat 100)) ∈ wfl ∧ Cond.eq (.length (.static "java/lang/Integer" "DigitTens" "[B")) (.int (Int32.ofNat 100)) ∈ wfl ∧ Cond.eq (.static "java/lang/String" "COMPACT_STRINGS" "Z") (.int 1) ∈ wfl) := by decide +kernel
set_option maxRecDepth 100000 in
theorem wz_s3w : Cond.eq (.length (.static "ClogVotes" "WORDS" "[LClogVotes$Word;")) (.int (Int32.ofNat 34)) ∈ wfl := by decide +kernel
set_option maxRecDepth 100000 in
theorem wz_s4 : (Cond.isRef (.static "jdk/internal/util/Preconditions" "SIOOBE_FORMATTER" "Ljava/util/function/BiFunction;") ∈ wfl ∧ Cond.isRef (.static Bundle.tN "UNASSIGNED_STACK" Bundle.steD) ∈ wfl ∧ Cond.isRef (.static Bundle.tN "SUPPRESSED_SENTINEL" Bundle.listD) ∈ wfl) := by decide +kernel
set_option maxRecDepth 100000 in
theorem wz_s5 : (Cond.castable zxE zxE ∈ lw_tbl ∧ Cond.declares (Bundle.initS zxS) ∈ lw_tbl ∧ Cond.declares (Bundle.initS "java/lang/Exception") ∈ lw_tbl ∧ Cond.declares (Bundle.initS Bundle.tN) ∈ lw_tbl) := by decide +kernel
/-- an array in a static field -/
theorem wz_arr {args : Array Value} {s : State} {A : Nat → Prop} {C n d : String} {ty : FieldType} {N : Nat} {f : Nat → Value} (hN : N < 2 ^ 31) (hl : (Cond.laysStatic C n d).before args s = true) (hini : (Cond.initialized C).before args s = true) (harr : (Cond.arrayOf (.static C n d) ty).before args s = true) (hlen : (Cond.eq (.length (.static C n d)) (.int (Int32.ofNat N))).before args s = true) (hel : ∀ j : Nat, j < N → (Term.elem (.static C n d) (.int (Int32.ofNat j))).eval args s none [] s = some (f j)) (hA : ∀ a : Nat, a < s.heap.size → ¬ A a) :
    ∃ t : Nat, va_Z C n d (.ref t) A s s.heap ∧ va_T ty t N f A s s.heap := by
  obtain ⟨t, ht, hT⟩ := va_Tof (tm := .static C n d) (ty := ty) (f := f) (A := A) hN harr (va_eqt hlen) hel hA
  exact ⟨t, va_Zref hl hini ht hA, hT⟩
def wsa (aE : Nat → Nat) (a5 a6 a7 a8 : Nat) (aK aV : Nat → Nat) (b : Nat) : Int → Int → Nat := fun t x => if t = 4 then aE (x - 1).toNat else if t = 5 then a5 else if t = 6 then a6 else if t = 7 then (if x = 0 then a7 else a8) else if t = 8 then aK x.toNat else if t = 9 then aV x.toNat else b
set_option maxHeartbeats 1000000 in
theorem wz_start {p : Program} {s : State} {m : MethodId} {meth : Method} {c : Code} {b L : Nat} {xs : Nat → Int32} (hL : L ≤ 3072) (C0 : lw_At p s m meth c b L xs) :
    ∃ K : zK, zCtx K "ClogVotesLaw" "law" code p s m #[.ref b] meth c ∧ zTh K s ∧ zbs K = s.heap.size ∧ zL K = L ∧ zxs K = xs ∧ zsa K 16 (-2) = b := by
  obtain ⟨hx, hb, hr, hml, hown, hts, hX, hbl, hlocks, hgv, hname⟩ := C0
  have hw : ∀ w ∈ wfl, w.before #[Value.ref b] s = true := flat_of_before _ hgv
  have hA : ∀ a : Nat, a < s.heap.size → ¬ (fun q : Nat => s.heap.size ≤ q) a := fun a h => Nat.not_le.mpr h
  obtain ⟨D, hK⟩ := wz_K (wz_wl hts)
  obtain ⟨i1, i2, i3, i4, i5, i6, i7⟩ := wz_s0
  obtain ⟨y1, y2, y3, y4, y5, y6, y7, y8⟩ := wz_s1
  obtain ⟨r1, r2, r3, r4⟩ := wz_s2
  obtain ⟨e1, e3, e4, e5⟩ := wz_s3
  obtain ⟨n1, n2, n3⟩ := wz_s4
  obtain ⟨z1, z2, z3, z4⟩ := wz_s5
  obtain ⟨aE, hE, hEv⟩ := zw_en (args := #[Value.ref b]) (A := fun q : Nat => s.heap.size ≤ q) (fun i hi => hts _ (wf_en' hi).2.2.2.1) (hts _ i1) (fun i hi => hw _ (wf_en' hi).1) (fun i hi => hw _ (wf_en' hi).2.1) hA
  have hF : va_Ef 34 zEW "key" "J" (fun i => .long (Int64.ofInt (zkey ((i : Int) + 1)))) aE (fun q : Nat => s.heap.size ≤ q) s s.heap := fun i hi => vk_OFof (hEv i hi) (va_eqtl (hw _ (wf_en' hi).2.2.1)) hA
  obtain ⟨a5, h5, h5'⟩ := wz_arr (f := fun j => .int (Int32.ofInt (zsta 5 0 j))) (N := 34) (by omega) (hts _ y1) (hts _ i3) (hw _ r1) (hw _ e1) (fun j hj => va_eqt (hw _ (wf_en' hj).2.2.2.2.2)) hA
  obtain ⟨a6, h6, h6'⟩ := wz_arr (f := fun j => .ref (aE j)) (N := 34) (by omega) (hts _ y2) (hts _ i2) (hw _ r2) (hw _ wz_s3w) (fun j hj => va_eqv (hw _ (wf_en' hj).2.2.2.2.1) (hEv j hj)) hA
  obtain ⟨a7, h7, h7'⟩ := wz_arr (f := fun j => .int (Int32.ofInt (zsta 7 0 j))) (N := 100) (by omega) (hts _ y3) (hts _ i4) (hw _ r3) (hw _ e3) (fun j hj => va_eqt (hw _ (wf_dg' hj).1)) hA
  obtain ⟨a8, h8, h8'⟩ := wz_arr (f := fun j => .int (Int32.ofInt (zsta 7 1 j))) (N := 100) (by omega) (hts _ y4) (hts _ i4) (hw _ r4) (hw _ e4) (fun j hj => va_eqt (hw _ (wf_dg' hj).2)) hA
  obtain ⟨aK, aV, hS, hSv⟩ := zw_tx (A := fun q : Nat => s.heap.size ≤ q) hw hA
  have hZ : va_Z "java/lang/String" "COMPACT_STRINGS" "Z" (.int 1) (fun q : Nat => s.heap.size ≤ q) s s.heap := va_Zof (hts _ y5) (hts _ i5) (va_eqt (hw _ e5)) hA
  have hQ := va_Zqof (hts _ y6) (hts _ i6) (hw _ n1) hA
  have hU := vx_Zqof (hts _ y7) (hts _ i7) (hw _ n2) hA
  have hN := vx_Zqof (hts _ y8) (hts _ i7) (hw _ n3) hA
  have hR : ∀ (i : Nat) (q : String × Nat × String), zstn[i]? = some q → vk_R q.1 q.2.1 q.2.2 (aK i) s := by
    intro i q hi
    have hlt : i < 8 := (List.getElem?_eq_some_iff.mp hi).1
    have hm := List.all_eq_true.mp wf_ref q (List.mem_of_getElem? hi)
    have hv := hSv i hlt
    unfold wtm at hv
    rw [hi] at hv
    exact vk_R.of (hts _ (of_decide_eq_true hm)) hv
  refine ⟨(D, s.heap.size, wsa aE a5 a6 a7 a8 aK aV b, L, xs), ⟨hx, hb, hown, wz_wl hts, hK, ?_, Nat.le_refl _, hlocks, hname⟩, ⟨hU, hN, va_Nw.of rfl (hts _ z1), va_Nw.of rfl (hts _ z2), va_Nw.of rfl (hts _ z3), va_Nw.of rfl (hts _ z4)⟩, rfl, rfl, rfl, by simp [zsa, wsa]⟩
  have q4 : ∀ i : Nat, wsa aE a5 a6 a7 a8 aK aV b 4 ((i : Int) + 1) = aE i := fun i => by
    unfold wsa
    rw [if_pos rfl]
    congr 1
    omega
  have q5 : wsa aE a5 a6 a7 a8 aK aV b 5 0 = a5 := by simp [wsa]
  have q6 : wsa aE a5 a6 a7 a8 aK aV b 6 0 = a6 := by simp [wsa]
  have q7 : wsa aE a5 a6 a7 a8 aK aV b 7 0 = a7 := by simp [wsa]
  have q8 : wsa aE a5 a6 a7 a8 aK aV b 7 1 = a8 := by simp [wsa]
  have q9 : ∀ i : Nat, wsa aE a5 a6 a7 a8 aK aV b 8 (i : Int) = aK i := fun i => by simp [wsa]
  have q10 : ∀ i : Nat, wsa aE a5 a6 a7 a8 aK aV b 9 (i : Int) = aV i := fun i => by simp [wsa]
  have q11 : wsa aE a5 a6 a7 a8 aK aV b 16 (-2) = b := by simp [wsa]
  unfold zSt
  simp only [zsa, zL, zxs, q4, q5, q6, q7, q8, q9, q10, q11]
  exact ⟨hE, hF, ⟨h5, h5'⟩, ⟨h6, h6'⟩, ⟨h7, h7'⟩, ⟨h8, h8'⟩, hZ, hQ, hS, hR, hX, hbl, Nat.not_le.mpr hbl, hL⟩
set_option maxHeartbeats 1000000 in
/-- from the entry, for every script of at most 3072 ints, the law comes to its end with true -/
theorem whole_start {p : Program} {e : Env} {s : State} {m : MethodId} {below : List Frame} {meth : Method} {c : Code} (l : Launch) (hflags : l.flags = flags0) {b L : Nat} {xs : Nat → Int32} (hL : L ≤ 3072) (C0 : lw_At p s m meth c b L xs) : W p l e room_1 s m #[Value.ref b] below meth c s.heap [] 0 0 (lw_Z below #[Value.ref b] s) (entryFrame m ([Value.ref b] : List Value).toArray 7) := by
  obtain ⟨K, hC, hth, hbs, hLK, hxs, hsa⟩ := wz_start hL C0
  have hret : meth.sig.returnType = some .boolean := C0.2.2.1
  have hml : c.maxLocals = 7 := C0.2.2.2.1
  have hl : l.stackTraces = false := by
    unfold Launch.stackTraces
    rw [hflags]
    decide +kernel
  have hv : zVR K [] (16, -2, (L : Int)) (.ref b) := by
    rw [← hsa]
    refine zVR_mkstat (Or.inr rfl) ?_ (fun _ => ?_)
    · unfold zrng
      rw [if_neg (by decide), if_neg (by decide), if_neg (by decide), if_pos rfl]
    · unfold zlenS
      rw [if_neg (by decide), if_neg (by decide), if_pos rfl, hLK]
  have hi : zinit 7 [(16, -2, (L : Int))] = some [(16, -2, (L : Int)), (3, 0, 0), (3, 0, 0), (3, 0, 0), (3, 0, 0), (3, 0, 0), (3, 0, 0)] := by
    have h1 : zspr [(16, -2, (L : Int))] = [(16, -2, (L : Int))] := zspr_o (by decide) []
    unfold zinit
    rw [h1]
    rfl
  have hvs : zVRs K [] [(16, -2, (L : Int))] [.ref b] := ⟨hv, trivial⟩
  obtain ⟨h1, h2⟩ := zent hvs hi
  have hrep : zRep K false [] (cmem (fun y => (xs y.toNat).toInt) (0, 0, 0, [])) s s.heap := by
    refine ⟨rfl, fun i _ => ?_, [], fun k q h => by simp at h, ⟨fun i j p q h => by simp at h, fun k q h => by simp at h⟩, rfl, fun k g h => by simp at h, fun k g w h => by simp at h⟩
    rw [hxs]
    unfold cmem
    rw [if_neg (by decide), if_pos rfl]
    show (xs ((i : Int).toNat)).toInt = (xs i).toInt
    rw [Int.toNat_natCast]
  rw [lg_entry_eq]
  have hgo := zlaw_0 (e := e) (below := below) (f := fun y => (xs y.toNat).toInt) hl hC hth hret hbs (n := (L : Int)) (Int.natCast_nonneg L) (by omega) [] _ [] s.heap [] ((zent_size h1).trans hml.symm) h2 trivial hrep va_S.rf
  exact hgo
