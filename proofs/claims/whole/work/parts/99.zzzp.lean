/-! which kind of cell stands at each address where the loop begins (genini.py); all that is final is set -/
abbrev dvE : Type := Nat × Nat × Nat × Nat × Int × Int
def dv0 : List dvE := [(0, 0, 0, 1, 24, 0), (0, 0, 1, 2, 27, 0), (0, 0, 2, 30, 28, 0), (0, 0, 3, 37, 26, 0), (0, 0, 4, 46, 25, 0), (0, 0, 5, 51, 22, 0), (0, 0, 6, 56, 23, 0), (0, 0, 7, 59, 26, 0), (0, 0, 8, 68, 26, 0), (0, 0, 9, 77, 14, 8), (0, 0, 10, 78, 15, 2), (0, 0, 11, 79, 10, 10), (0, 0, 12, 80, 10, 5), (0, 197, 1, 198, 10, 940), (0, 197, 14, 199, 10, 368), (0, 197, 15, 200, 10, 75), (0, 197, 16, 201, 10, 736), (0, 197, 17, 202, 10, 408), (0, 197, 18, 203, 10, 51), (0, 197, 19, 204, 11, 20)]
def dv1 : List dvE := [(0, 197, 20, 205, 11, 20), (0, 197, 21, 206, 11, 40), (0, 197, 22, 207, 12, 2), (0, 197, 23, 208, 12, 6), (0, 197, 27, 209, 10, 2211), (0, 197, 28, 210, 10, 10), (0, 197, 30, 211, 10, 5), (0, 197, 31, 212, 10, 5), (0, 197, 32, 213, 10, 50), (0, 197, 35, 214, 10, 10), (0, 197, 38, 215, 10, 64), (0, 197, 41, 216, 10, 160), (0, 197, 42, 217, 10, 4), (0, 197, 45, 218, 10, 240), (0, 1, 1, 4, 28, 0), (0, 1, 2, 11, 26, 0), (0, 1, 3, 20, 25, 0), (0, 1, 4, 25, 20, 0), (0, 2, 0, 3, 10, 940), (0, 30, 0, 31, 11, 5)]
def dv2 : List dvE := [(0, 30, 1, 32, 11, 10), (0, 30, 2, 33, 11, 5), (0, 30, 3, 34, 10, 10), (0, 30, 4, 35, 10, 25), (0, 30, 5, 36, 10, 2), (0, 37, 0, 38, 10, 10), (0, 37, 1, 39, 10, 10), (0, 37, 2, 40, 10, 5), (0, 37, 3, 41, 10, 5), (0, 37, 4, 42, 10, 5), (0, 37, 5, 43, 10, 5), (0, 37, 6, 44, 10, 5), (0, 37, 7, 45, 10, 2), (0, 46, 0, 47, 10, 40), (0, 46, 1, 48, 10, 40), (0, 46, 2, 49, 10, 40), (0, 46, 3, 50, 10, 40), (0, 51, 3, 52, 10, 10), (0, 51, 5, 53, 10, 5), (0, 51, 9, 54, 31, 0)]
def dv3 : List dvE := [(0, 56, 0, 57, 10, 2211), (0, 56, 1, 58, 10, 10), (0, 59, 0, 60, 10, 10), (0, 59, 1, 61, 10, 10), (0, 59, 2, 62, 10, 5), (0, 59, 3, 63, 10, 5), (0, 59, 4, 64, 10, 5), (0, 59, 5, 65, 10, 5), (0, 59, 6, 66, 10, 5), (0, 59, 7, 67, 10, 2), (0, 68, 0, 69, 10, 10), (0, 68, 1, 70, 10, 10), (0, 68, 2, 71, 10, 5), (0, 68, 3, 72, 10, 5), (0, 68, 4, 73, 10, 5), (0, 68, 5, 74, 10, 5), (0, 68, 6, 75, 10, 5), (0, 68, 7, 76, 10, 2), (1, 77, 0, 81, 26, 0), (1, 77, 1, 90, 26, 0)]
def dv4 : List dvE := [(1, 77, 2, 99, 26, 0), (1, 77, 3, 108, 26, 0), (1, 77, 4, 117, 26, 0), (1, 77, 5, 126, 26, 0), (1, 77, 6, 135, 26, 0), (1, 77, 7, 144, 26, 0), (1, 78, 0, 153, 21, 0), (1, 78, 1, 175, 21, 0), (0, 4, 0, 5, 11, 5), (0, 4, 1, 6, 11, 10), (0, 4, 2, 7, 11, 5), (0, 4, 3, 8, 10, 10), (0, 4, 4, 9, 10, 25), (0, 4, 5, 10, 10, 2), (0, 11, 0, 12, 10, 10), (0, 11, 1, 13, 10, 10), (0, 11, 2, 14, 10, 5), (0, 11, 3, 15, 10, 5), (0, 11, 4, 16, 10, 5), (0, 11, 5, 17, 10, 5)]
def dv5 : List dvE := [(0, 11, 6, 18, 10, 5), (0, 11, 7, 19, 10, 2), (0, 20, 0, 21, 10, 40), (0, 20, 1, 22, 10, 40), (0, 20, 2, 23, 10, 40), (0, 20, 3, 24, 10, 40), (0, 25, 0, 26, 10, 40), (0, 25, 1, 27, 10, 40), (0, 25, 2, 28, 10, 40), (0, 25, 3, 29, 10, 40), (2, 54, 0, 55, 13, 16), (0, 81, 0, 82, 10, 10), (0, 81, 1, 83, 10, 10), (0, 81, 2, 84, 10, 5), (0, 81, 3, 85, 10, 5), (0, 81, 4, 86, 10, 5), (0, 81, 5, 87, 10, 5), (0, 81, 6, 88, 10, 5), (0, 81, 7, 89, 10, 2), (0, 90, 0, 91, 10, 10)]
def dv6 : List dvE := [(0, 90, 1, 92, 10, 10), (0, 90, 2, 93, 10, 5), (0, 90, 3, 94, 10, 5), (0, 90, 4, 95, 10, 5), (0, 90, 5, 96, 10, 5), (0, 90, 6, 97, 10, 5), (0, 90, 7, 98, 10, 2), (0, 99, 0, 100, 10, 10), (0, 99, 1, 101, 10, 10), (0, 99, 2, 102, 10, 5), (0, 99, 3, 103, 10, 5), (0, 99, 4, 104, 10, 5), (0, 99, 5, 105, 10, 5), (0, 99, 6, 106, 10, 5), (0, 99, 7, 107, 10, 2), (0, 108, 0, 109, 10, 10), (0, 108, 1, 110, 10, 10), (0, 108, 2, 111, 10, 5), (0, 108, 3, 112, 10, 5), (0, 108, 4, 113, 10, 5)]
def dv7 : List dvE := [(0, 108, 5, 114, 10, 5), (0, 108, 6, 115, 10, 5), (0, 108, 7, 116, 10, 2), (0, 117, 0, 118, 10, 10), (0, 117, 1, 119, 10, 10), (0, 117, 2, 120, 10, 5), (0, 117, 3, 121, 10, 5), (0, 117, 4, 122, 10, 5), (0, 117, 5, 123, 10, 5), (0, 117, 6, 124, 10, 5), (0, 117, 7, 125, 10, 2), (0, 126, 0, 127, 10, 10), (0, 126, 1, 128, 10, 10), (0, 126, 2, 129, 10, 5), (0, 126, 3, 130, 10, 5), (0, 126, 4, 131, 10, 5), (0, 126, 5, 132, 10, 5), (0, 126, 6, 133, 10, 5), (0, 126, 7, 134, 10, 2), (0, 135, 0, 136, 10, 10)]
def dv8 : List dvE := [(0, 135, 1, 137, 10, 10), (0, 135, 2, 138, 10, 5), (0, 135, 3, 139, 10, 5), (0, 135, 4, 140, 10, 5), (0, 135, 5, 141, 10, 5), (0, 135, 6, 142, 10, 5), (0, 135, 7, 143, 10, 2), (0, 144, 0, 145, 10, 10), (0, 144, 1, 146, 10, 10), (0, 144, 2, 147, 10, 5), (0, 144, 3, 148, 10, 5), (0, 144, 4, 149, 10, 5), (0, 144, 5, 150, 10, 5), (0, 144, 6, 151, 10, 5), (0, 144, 7, 152, 10, 2), (0, 153, 0, 154, 28, 0), (0, 153, 1, 161, 26, 0), (0, 153, 2, 170, 25, 0), (0, 175, 0, 176, 28, 0), (0, 175, 1, 183, 26, 0)]
def dv9 : List dvE := [(0, 175, 2, 192, 25, 0), (0, 154, 0, 155, 11, 5), (0, 154, 1, 156, 11, 10), (0, 154, 2, 157, 11, 5), (0, 154, 3, 158, 10, 10), (0, 154, 4, 159, 10, 25), (0, 154, 5, 160, 10, 2), (0, 161, 0, 162, 10, 10), (0, 161, 1, 163, 10, 10), (0, 161, 2, 164, 10, 5), (0, 161, 3, 165, 10, 5), (0, 161, 4, 166, 10, 5), (0, 161, 5, 167, 10, 5), (0, 161, 6, 168, 10, 5), (0, 161, 7, 169, 10, 2), (0, 170, 0, 171, 10, 40), (0, 170, 1, 172, 10, 40), (0, 170, 2, 173, 10, 40), (0, 170, 3, 174, 10, 40), (0, 176, 0, 177, 11, 5)]
def dv10 : List dvE := [(0, 176, 1, 178, 11, 10), (0, 176, 2, 179, 11, 5), (0, 176, 3, 180, 10, 10), (0, 176, 4, 181, 10, 25), (0, 176, 5, 182, 10, 2), (0, 183, 0, 184, 10, 10), (0, 183, 1, 185, 10, 10), (0, 183, 2, 186, 10, 5), (0, 183, 3, 187, 10, 5), (0, 183, 4, 188, 10, 5), (0, 183, 5, 189, 10, 5), (0, 183, 6, 190, 10, 5), (0, 183, 7, 191, 10, 2), (0, 192, 0, 193, 10, 40), (0, 192, 1, 194, 10, 40), (0, 192, 2, 195, 10, 40), (0, 192, 3, 196, 10, 40)]
def dvL : List dvE := dv0 ++ (dv1 ++ (dv2 ++ (dv3 ++ (dv4 ++ (dv5 ++ (dv6 ++ (dv7 ++ (dv8 ++ (dv9 ++ (dv10))))))))))
def dvN (c : Nat) : Nat := ((zcls[c]?).map fun r => r.2.2).getD 0
def dvOne (w : Nat × Int × Int) (e : dvE) : Bool := decide (w.1 = e.2.1) && (if e.1 = 0 then decide (20 ≤ w.2.1) && decide (w.2.2 = 0) && decide (e.2.2.1 < dvN (w.2.1 - 20).toNat) && decide ((zfs (w.2.1 - 20).toNat e.2.2.1).1 = 62) && decide ((zfs (w.2.1 - 20).toNat e.2.2.1).2.1 = (e.2.2.2.1 : Int) - e.2.1) && decide ((zfs (w.2.1 - 20).toNat e.2.2.1).2.2.1 = e.2.2.2.2.1) && decide ((zfs (w.2.1 - 20).toNat e.2.2.1).2.2.2 = e.2.2.2.2.2) && decide (clk inM e.2.1 e.2.2.1 = 1)
  else if e.1 = 1 then decide (w.2.1 = 14 ∨ w.2.1 = 15) && decide ((e.2.2.1 : Int) < w.2.2) && decide (clk inM e.2.1 e.2.2.1 = e.2.2.2.1) && decide (0 < e.2.2.2.1) && decide (e.2.2.2.2.1 = zAtg w.2.1) && decide (e.2.2.2.2.2 = 0)
  else decide (20 ≤ w.2.1) && decide (w.2.2 = 0) && decide (e.2.2.1 < dvN (w.2.1 - 20).toNat) && decide ((zfs (w.2.1 - 20).toNat e.2.2.1).1 = 64) && decide ((zfs (w.2.1 - 20).toNat e.2.2.1).2.2.1 = e.2.2.2.2.1) && decide (clk inM e.2.1 e.2.2.1 = e.2.2.2.1) && decide (0 < e.2.2.2.1) && decide (e.2.2.2.2.2 = clk inM e.2.1 (1000 + (e.2.2.1 : Int))))
def dvAll : List (Nat × Int × Int) → List dvE → Option (List (Nat × Int × Int))
  | T, [] => some T
  | T, e :: l => if T.any (fun w => dvOne w e) = true ∧ 10 ≤ e.2.2.2.2.1 ∧ e.2.2.2.2.1 ≠ 16 ∧ e.2.2.2.2.1 ≠ 17 then dvAll ((e.2.2.2.1, e.2.2.2.2.1, e.2.2.2.2.2) :: T) l else none
def dvFin (T : List (Nat × Int × Int)) : Bool := T.all (fun w => decide (w.2.1 < 20) || (List.range (dvN (w.2.1 - 20).toNat)).all (fun j => decide ((zfs (w.2.1 - 20).toNat j).1 ≠ 62) || decide (clk inM w.1 j = 1))) && (List.range 220).all (fun k => T.any (fun w => decide (w.1 = k)))
def dvT0 : List (Nat × Int × Int) := [(0, 29, 0), (197, 30, 0), (219, 11, 1)]
def dvOK : Bool := match dvAll dvT0 dvL with
  | some T => dvFin T
  | none => false
set_option maxRecDepth 100000 in
theorem dv_ok : dvOK = true := by decide +kernel
def tgR (gs : zG) (k : Nat) (t n : Int) : Prop := ∃ q, gs[k]? = some (q, t, n)
theorem tg_cell {K : zK} {ph : Bool} {gs : zG} {M : zM} {s : State} {H : Heap} (h : zRep K ph gs M s H) {k : Nat} {t n : Int} (ht : tgR gs k t n) : ∃ q w, zCell K ph gs M s k (q, t, n) w := by
  obtain ⟨-, -, ws, -, -, hR⟩ := h
  obtain ⟨q, hq⟩ := ht
  have hk : k < ws.length := by rw [hR.1]; exact (List.getElem?_eq_some_iff.mp hq).1
  exact ⟨q, ws[k], hR.2.2 k _ _ hq (List.getElem?_eq_getElem hk)⟩
theorem tg_obj {K : zK} {ph : Bool} {gs : zG} {M : zM} {s : State} {H : Heap} (h : zRep K ph gs M s H) {k j : Nat} {t n : Int} (ht : tgR gs k t n) (h20 : 20 ≤ t) (hj : j < dvN (t - 20).toNat) : ∃ rv, zFld K ph gs M k j (zfs (t - 20).toNat j) rv := by
  obtain ⟨q, w, hc⟩ := tg_cell h ht
  unfold zCell at hc
  have hc := hc.2
  rw [if_neg (by dsimp only; omega), if_neg (by dsimp only; omega), if_neg (by dsimp only; omega)] at hc
  obtain ⟨c, e1, -, r, fs, e3, -, e5, e6⟩ := hc
  have e1 : t = 20 + (c : Int) := e1
  have ec : (t - 20).toNat = c := by omega
  rw [ec] at hj ⊢
  have hn : dvN c = r.2.2 := by unfold dvN; rw [e3]; rfl
  have hl : j < fs.length := by omega
  exact ⟨fs[j], e6 j _ (List.getElem?_eq_getElem hl)⟩
theorem dvOne_ok {K : zK} {gs : zG} {f : Int → Int} {s : State} {H : Heap} (h : zRep K false gs (cmem f iniQ) s H) {w : Nat × Int × Int} {e : dvE} (hw : tgR gs w.1 w.2.1 w.2.2) (h1 : dvOne w e = true) (t0 : 10 ≤ e.2.2.2.2.1) (t1 : e.2.2.2.2.1 ≠ 16) (t2 : e.2.2.2.2.1 ≠ 17) : tgR gs e.2.2.2.1 e.2.2.2.2.1 e.2.2.2.2.2 := by
  obtain ⟨kind, p, j, k, t, n⟩ := e
  obtain ⟨a, b, c⟩ := w
  unfold dvOne at h1
  dsimp only at h1 hw t0 t1 t2 ⊢
  rw [Bool.and_eq_true] at h1
  obtain ⟨hp, h1⟩ := h1
  have hp := of_decide_eq_true hp
  subst hp
  have fin : ∀ rv, zVR K gs (t, (k : Int), n) rv → tgR gs k t n := fun rv hv => by
    obtain ⟨k', q, e1, e2, -⟩ := zVR_cell hv t0 t1 t2
    have e1 : k = k' := by omega
    subst e1
    exact ⟨q, e2⟩
  have rd : ∀ y : Int, cmem f iniQ (a : Int) y = clk inM a y := fun y => ini_r (by omega)
  split at h1
  · simp only [Bool.and_eq_true, decide_eq_true_eq] at h1
    obtain ⟨⟨⟨⟨⟨⟨⟨h20, h0⟩, hj⟩, f1⟩, f2⟩, f3⟩, f4⟩, hf⟩ := h1
    obtain ⟨rv, hv⟩ := tg_obj h hw h20 hj
    unfold zFld at hv
    rw [if_neg (by rw [f1]; decide), if_neg (by rw [f1]; decide), if_pos f1] at hv
    have hv := hv (Or.inr (by rw [rd]; exact hf))
    rw [f2, f3, f4, show (a : Int) + ((k : Int) - a) = k by omega] at hv
    exact fin rv hv
  split at h1
  · simp only [Bool.and_eq_true, decide_eq_true_eq] at h1
    obtain ⟨⟨⟨⟨⟨h14, hj⟩, hc⟩, hk⟩, ht⟩, hn⟩ := h1
    obtain ⟨q, w, hcell⟩ := tg_cell h hw
    unfold zCell at hcell
    have hcell := hcell.2
    rw [if_neg (by dsimp only; omega), if_neg (by dsimp only; omega), if_pos (by dsimp only; omega)] at hcell
    obtain ⟨cA, g, -, -, hg⟩ := hcell
    obtain ⟨q2, kk, g1, g2, -⟩ := hg j (by dsimp only; omega) (by rw [rd, hc]; omega)
    rw [rd, hc] at g1
    have g1 : k = kk := by omega
    subst g1
    rw [ht, hn]
    exact ⟨q2, g2⟩
  · simp only [Bool.and_eq_true, decide_eq_true_eq] at h1
    obtain ⟨⟨⟨⟨⟨⟨⟨h20, h0⟩, hj⟩, f1⟩, f3⟩, hc⟩, hk⟩, hn⟩ := h1
    obtain ⟨rv, hv⟩ := tg_obj h hw h20 hj
    unfold zFld at hv
    rw [if_neg (by rw [f1]; decide), if_neg (by rw [f1]; decide), if_neg (by rw [f1]; decide), if_neg (by rw [f1]; decide)] at hv
    have hv := hv (by rw [rd, hc]; omega)
    rw [f3, rd, rd, hc, ← hn] at hv
    exact fin rv hv
theorem dvAll_ok {K : zK} {gs : zG} {f : Int → Int} {s : State} {H : Heap} (h : zRep K false gs (cmem f iniQ) s H) : ∀ (l : List dvE) (T T' : List (Nat × Int × Int)), (∀ w ∈ T, tgR gs w.1 w.2.1 w.2.2) → dvAll T l = some T' → ∀ w ∈ T', tgR gs w.1 w.2.1 w.2.2
  | [], T, T', hT, h2 => by cases h2; exact hT
  | e :: l, T, T', hT, h2 => by
    unfold dvAll at h2
    split at h2
    · rename_i hc
      obtain ⟨hc, t0, t1, t2⟩ := hc
      obtain ⟨w, hw, h1⟩ := List.any_eq_true.mp hc
      refine dvAll_ok h l _ T' (fun w' hw' => ?_) h2
      rcases List.mem_cons.mp hw' with rfl | hw'
      · exact dvOne_ok h (hT w hw) h1 t0 t1 t2
      · exact hT w' hw'
    · cases h2
/-- all that is final is set: from here on it never changes -/
theorem ini_ph {K : zK} {gs : zG} {f : Int → Int} {s : State} {H : Heap} (h : zRep K false gs (cmem f iniQ) s H) (t1 : tgR gs 0 29 0) (t2 : tgR gs 197 30 0) (t3 : tgR gs 219 11 1) : zRep K true gs (cmem f iniQ) s H := by
  have hok := dv_ok
  unfold dvOK at hok
  split at hok
  · rename_i T hT
    have hall := dvAll_ok h dvL dvT0 T (fun w hw => by
      unfold dvT0 at hw
      simp only [List.mem_cons, List.not_mem_nil, or_false] at hw
      rcases hw with rfl | rfl | rfl
      · exact t1
      · exact t2
      · exact t3) hT
    unfold dvFin at hok
    rw [Bool.and_eq_true] at hok
    obtain ⟨hfin, hcov⟩ := hok
    obtain ⟨z1, z2, ws, hP, hD, hR1, hR2, hR3⟩ := h
    refine ⟨z1, z2, ws, hP, hD, hR1, hR2, fun k g w hg hw => ?_⟩
    have hcell := hR3 k g w hg hw
    unfold zCell at hcell ⊢
    refine ⟨hcell.1, ?_⟩
    have hcell := hcell.2
    split
    · rename_i c; rw [if_pos c] at hcell; exact hcell
    rename_i c; rw [if_neg c] at hcell
    split
    · rename_i c; rw [if_pos c] at hcell; exact hcell
    rename_i c; rw [if_neg c] at hcell
    split
    · rename_i c; rw [if_pos c] at hcell; exact hcell
    rename_i c; rw [if_neg c] at hcell
    obtain ⟨c, e1, e2, r, fs, e3, e4, e5, e6⟩ := hcell
    refine ⟨c, e1, e2, r, fs, e3, e4, e5, fun j rv hj => ?_⟩
    have hv := e6 j rv hj
    unfold zFld at hv ⊢
    split
    · rename_i c; rw [if_pos c] at hv; exact hv
    rename_i c1; rw [if_neg c1] at hv
    split
    · rename_i c; rw [if_pos c] at hv; exact hv
    rename_i c2; rw [if_neg c2] at hv
    split
    · rename_i c62; rw [if_pos c62] at hv
      intro _
      refine hv (Or.inr ?_)
      have hk : k < 220 := by
        have : (220 : Int) = gs.length := z1
        have := (List.getElem?_eq_some_iff.mp hg).1
        omega
      obtain ⟨w', hw', hwk⟩ := List.any_eq_true.mp (List.all_eq_true.mp hcov k (List.mem_range.mpr hk))
      have hwk := of_decide_eq_true hwk
      obtain ⟨q, hq⟩ := hall w' hw'
      rw [hwk, hg] at hq
      have hg2 := Option.some.inj hq
      have hfl := List.all_eq_true.mp hfin w' hw'
      have e1' : w'.2.1 = 20 + (c : Int) := by rw [← e1, hg2]
      have hcn : (w'.2.1 - 20).toNat = c := by omega
      rw [Bool.or_eq_true, hcn] at hfl
      rcases hfl with hfl | hfl
      · have := of_decide_eq_true hfl; omega
      · have hn : dvN c = r.2.2 := by unfold dvN; rw [e3]; rfl
        have hl := (List.getElem?_eq_some_iff.mp hj).1
        have h9 := List.all_eq_true.mp hfl j (List.mem_range.mpr (by omega))
        rw [Bool.or_eq_true] at h9
        rcases h9 with h9 | h9
        · exact absurd c62 (of_decide_eq_true h9)
        · rw [ini_r (by omega), ← hwk]
          exact of_decide_eq_true h9
    rename_i c3; rw [if_neg c3] at hv
    split
    · rename_i c; rw [if_pos c] at hv; exact hv
    rename_i c4; rw [if_neg c4] at hv
    exact hv
  · cases hok
