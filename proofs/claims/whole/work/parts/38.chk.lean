/-! is a place of the table what the code says there -/
/-- a constant by its place: kind 3 an int, 4 a long -/
def zkw (oc i kd : Nat) (r : List Int) : Bool := match zlook oc i with
  | some (k, a, _) => k == kd && decide (r = [if kd = 3 then (Int32.ofInt a).toInt else (Int64.ofInt a).toInt])
  | none => false
def zks (oc i : Nat) (r : List Int) : Bool := match r with
  | [k, n] => decide (0 ≤ k) && decide (n = ((zstr.getD k.toNat []).length : Int)) && (match zstn[k.toNat]? with
    | some q => decide (q.1 = zow oc) && decide (q.2.1 = i)
    | none => false)
  | _ => false
/-- a field by its place -/
def zkf (r : List Int) (op ci j : Nat) : Bool := decide (zr0 r = 20 + (ci : Int)) && decide (zr1 r = j)
def zkg (oc i op : Nat) (r : List Int) : Bool := match zlook oc i with
  | some (0, a, j) => (match zcls[a.toNat]? with
    | some q => decide (j < q.2.2) && zkf r op a.toNat j && decide (op = (zfs a.toNat j).1 ∧ 60 ≤ op ∧ op ≤ 64) && (op != 62 || (decide (zr2 r = (zfs a.toNat j).2.1 ∧ zr3 r = (zfs a.toNat j).2.2.1 ∧ zr4 r = (zfs a.toNat j).2.2.2))) && (op != 64 || decide (zr2 r = (zfs a.toNat j).2.2.1))
    | none => false)
  | some (6, a, _) => (op == 98 && decide (a = 6)) || (op == 99 && decide (a = 7)) || (op == 100 && decide (a = 8))
  | _ => false
def zkt (r : vw_C) (j : Nat) : Bool := match zty r j with
  | .object _ => true
  | .array _ => true
  | _ => false
def zkp (oc : Nat) (nm : String) (i op : Nat) (r : List Int) : Bool := match zlook oc i with
  | some (0, a, j) => (match zcls[a.toNat]? with
    | some q => decide (j < q.2.2) && decide (q.2.2 ≤ 1000) && zkf r op a.toNat j && decide (op = (zfs a.toNat j).1 + 5 ∧ 65 ≤ op ∧ op ≤ 69) && (decide ((q.2.1 j).2.2.2 = false) || (decide ((q.2.1 j).2.2.2 = true) && decide (nm = "<init>") && decide ((q.2.1 j).1 = zow oc))) &&
      (op != 67 || decide (zr2 r = (zfs a.toNat j).2.1 ∧ zr3 r = (zfs a.toNat j).2.2.1 ∧ zr4 r = (zfs a.toNat j).2.2.2 ∧ 4 ≤ zr3 r)) && (op != 69 || decide (zr2 r = (zfs a.toNat j).2.2.1 ∧ 4 ≤ zr2 r)) &&
      (op != 65 || (decide (zty q j = .int) || (decide (zty q j = .boolean) && decide (r = [20 + (a.toNat : Int), (j : Int), 0, 1])) || (decide (zty q j = .byte) && decide (r = [20 + (a.toNat : Int), (j : Int), -128, 127])))) && (op != 66 || decide (zty q j = .long)) && (decide (op < 67) || zkt q j)
    | none => false)
  | _ => false
def zkst (oc i op : Nat) (r : List Int) : Bool := match zlook oc i with
  | some (5, a, _) => op == 77 && decide (a.toNat < 34) && decide (r = [(a.toNat : Int) + 1])
  | some (6, a, _) => (op == 78 && decide (a = 0) && decide (r = [0, 34])) || (op == 79 && decide (a = 1) && decide (r = [34])) || (op == 102 && decide (a = 2) && decide (r = [0, 100])) || (op == 102 && decide (a = 3) && decide (r = [1, 100])) || (op == 0 && decide (a = 4) && decide (r = [1])) || (op == 103 && decide (a = 5))
  | some (7, a, _) => op == 79 && decide (a = 1) && decide (r = [34])
  | _ => false
/-- a call: by invokestatic 0, invokevirtual 1, invokespecial 2 -/
def zkc? (oc i ik tg : Nat) (r : List Int) : Bool := match zlook oc i with
  | some (k, a, _) => (match zcw tg with
    | some w => decide (tg ≠ 372) && (zmt tg).isSome && decide (a = (tg : Int)) && decide (k = if w.1 = 5 then 2 else 1) && decide (w.1 ≤ 6) && decide (ik = if w.1 = 0 then 0 else if w.1 = 1 ∨ w.1 = 3 ∨ w.1 = 6 then 1 else 2) && decide (r = [(w.2.1 : Int) + (if w.1 = 0 then 0 else 1), zr1 r, if w.1 = 0 then -1 else w.2.2.2.2.2.2]) && (w.1 != 4 || decide (zow oc = zSBn))
    | none => k == 10 && decide (oc = 24) && ik == 0 && ((decide (a = 6) && tg == 373) || (decide (a = 7) && tg == 374)) && decide (r = [4, 1, -1]))
  | none => false
def zkx (oc i a : Nat) : Bool := match zlook oc i with
  | some (k, x, _) => k == 10 && decide (x = (a : Int))
  | none => false
def zkm (oc i op : Nat) : Bool := (op == 71 && zkx oc i 0) || (op == 72 && zkx oc i 1) || (op == 73 && zkx oc i 2) || (op == 74 && zkx oc i 3)
def zka (oc i : Nat) (r : List Int) : Bool := match zlook oc i with
  | some (8, a, _) => (decide (a = 6) && decide (r = [14])) || (decide (a = 1) && decide (r = [15]))
  | _ => false
def zkn (oc i : Nat) (r : List Int) : Bool := match zlook oc i with
  | some (8, a, _) => (match zcls[a.toNat]? with
    | some q => decide (r = [20 + (a.toNat : Int), (q.2.2 : Int)])
    | none => false)
  | _ => false
def zkr : Option FieldType → Bool
  | some (.object _) => true
  | some (.array _) => true
  | _ => false
def zokI (oc : Nat) (nm : String) (ret : Option FieldType) (pc op nx tg : Nat) (r : List Int) : Instr → Nat → Bool
  | .iconst n, len => op == 0 && len == 1 && nx == pc + 1 && decide (r = [n]) && decide (n.bmod (2 ^ 32) = n)
  | .bipush n, len => op == 0 && len == 2 && nx == pc + 2 && decide (r = [n]) && decide (n.bmod (2 ^ 8) = n)
  | .sipush n, len => op == 0 && len == 3 && nx == pc + 3 && decide (r = [n]) && decide (n.bmod (2 ^ 16) = n)
  | .lconst n, len => op == 1 && len == 1 && nx == pc + 1 && decide (r = [((n : Nat) : Int)])
  | .ldc i, len => len == 2 && nx == pc + 2 && ((op == 0 && zkw oc i 3 r) || (op == 97 && zks oc i r))
  | .ldc_w i, len => len == 3 && nx == pc + 3 && ((op == 0 && zkw oc i 3 r) || (op == 97 && zks oc i r))
  | .ldc2_w i, len => op == 1 && len == 3 && nx == pc + 3 && zkw oc i 4 r
  | .iload k, len => op == 2 && len == 2 && nx == pc + 2 && decide (r = [(k : Int)])
  | .iload_n k, len => op == 2 && len == 1 && nx == pc + 1 && decide (r = [((k : Nat) : Int)])
  | .lload k, len => op == 3 && len == 2 && nx == pc + 2 && decide (r = [(k : Int)])
  | .lload_n k, len => op == 3 && len == 1 && nx == pc + 1 && decide (r = [((k : Nat) : Int)])
  | .aload k, len => op == 4 && len == 2 && nx == pc + 2 && decide (r = [(k : Int)])
  | .aload_n k, len => op == 4 && len == 1 && nx == pc + 1 && decide (r = [((k : Nat) : Int)])
  | .istore k, len => op == 5 && len == 2 && nx == pc + 2 && decide (r = [(k : Int)])
  | .istore_n k, len => op == 5 && len == 1 && nx == pc + 1 && decide (r = [((k : Nat) : Int)])
  | .astore k, len => op == 7 && len == 2 && nx == pc + 2 && decide (r = [(k : Int)])
  | .astore_n k, len => op == 7 && len == 1 && nx == pc + 1 && decide (r = [((k : Nat) : Int)])
  | .lstore k, len => op == 6 && len == 2 && nx == pc + 2 && decide (r = [(k : Int)])
  | .iinc k n, len => op == 8 && len == 3 && nx == pc + 3 && decide (r = [(k : Int), n])
  | .iadd, len => op == 10 && len == 1 && nx == pc + 1
  | .isub, len => op == 11 && len == 1 && nx == pc + 1
  | .imul, len => op == 12 && len == 1 && nx == pc + 1
  | .idiv, len => op == 13 && len == 1 && nx == pc + 1
  | .irem, len => op == 14 && len == 1 && nx == pc + 1
  | .ineg, len => op == 15 && len == 1 && nx == pc + 1
  | .iand, len => op == 16 && len == 1 && nx == pc + 1
  | .ior, len => op == 17 && len == 1 && nx == pc + 1
  | .ixor, len => op == 18 && len == 1 && nx == pc + 1
  | .ishl, len => op == 19 && len == 1 && nx == pc + 1
  | .ishr, len => op == 20 && len == 1 && nx == pc + 1
  | .iushr, len => op == 21 && len == 1 && nx == pc + 1
  | .ladd, len => op == 22 && len == 1 && nx == pc + 1
  | .lsub, len => op == 23 && len == 1 && nx == pc + 1
  | .lmul, len => op == 24 && len == 1 && nx == pc + 1
  | .ldiv, len => op == 25 && len == 1 && nx == pc + 1
  | .lrem, len => op == 26 && len == 1 && nx == pc + 1
  | .lcmp, len => op == 27 && len == 1 && nx == pc + 1
  | .i2l, len => op == 28 && len == 1 && nx == pc + 1
  | .l2i, len => op == 29 && len == 1 && nx == pc + 1
  | .i2c, len => op == 30 && len == 1 && nx == pc + 1
  | .i2b, len => op == 31 && len == 1 && nx == pc + 1
  | .land, len => op == 32 && len == 1 && nx == pc + 1
  | .lor, len => op == 33 && len == 1 && nx == pc + 1
  | .lshl, len => op == 34 && len == 1 && nx == pc + 1
  | .lushr, len => op == 35 && len == 1 && nx == pc + 1
  | .dup, len => op == 36 && len == 1 && nx == pc + 1
  | .dup2, len => op == 37 && len == 1 && nx == pc + 1
  | .pop, len => op == 38 && len == 1 && nx == pc + 1
  | .dup_x1, len => op == 39 && len == 1 && nx == pc + 1
  | .ifCond .eq off, len => op == 40 && len == 3 && nx == pc + 3 && decide ((pc : Int) + off = (tg : Int))
  | .if_icmp .eq off, len => op == 46 && len == 3 && nx == pc + 3 && decide ((pc : Int) + off = (tg : Int))
  | .ifCond .ne off, len => op == 41 && len == 3 && nx == pc + 3 && decide ((pc : Int) + off = (tg : Int))
  | .if_icmp .ne off, len => op == 47 && len == 3 && nx == pc + 3 && decide ((pc : Int) + off = (tg : Int))
  | .ifCond .lt off, len => op == 42 && len == 3 && nx == pc + 3 && decide ((pc : Int) + off = (tg : Int))
  | .if_icmp .lt off, len => op == 48 && len == 3 && nx == pc + 3 && decide ((pc : Int) + off = (tg : Int))
  | .ifCond .ge off, len => op == 43 && len == 3 && nx == pc + 3 && decide ((pc : Int) + off = (tg : Int))
  | .if_icmp .ge off, len => op == 49 && len == 3 && nx == pc + 3 && decide ((pc : Int) + off = (tg : Int))
  | .ifCond .gt off, len => op == 44 && len == 3 && nx == pc + 3 && decide ((pc : Int) + off = (tg : Int))
  | .if_icmp .gt off, len => op == 50 && len == 3 && nx == pc + 3 && decide ((pc : Int) + off = (tg : Int))
  | .ifCond .le off, len => op == 45 && len == 3 && nx == pc + 3 && decide ((pc : Int) + off = (tg : Int))
  | .if_icmp .le off, len => op == 51 && len == 3 && nx == pc + 3 && decide ((pc : Int) + off = (tg : Int))
  | .if_acmp .eq off, len => op == 53 && len == 3 && nx == pc + 3 && decide ((pc : Int) + off = (tg : Int))
  | .if_acmp .ne off, len => op == 54 && len == 3 && nx == pc + 3 && decide ((pc : Int) + off = (tg : Int))
  | .goto off, len => op == 52 && len == 3 && decide ((pc : Int) + off = (tg : Int))
  | .ifnonnull off, len => op == 55 && len == 3 && decide ((pc : Int) + off = (tg : Int))
  | .tableswitch dflt lo hi offs, len => op == 56 && decide ((pc : Int) + dflt = (tg : Int)) && decide (r = lo :: offs.toList.map (fun o => (pc : Int) + o)) && (offs.toList.map (fun o => (pc : Int) + o)).all (fun t => decide (0 ≤ t)) && decide (hi + 1 = lo + (offs.toList.map (fun o => (pc : Int) + o)).length)
  | .lookupswitch dflt ps, len => op == 57 && (ps.toList.zip (ps.toList.drop 1)).all (fun (a, next) => a.1 < next.1) && decide ((pc : Int) + dflt = (tg : Int)) && ps.toList.all (fun q => decide (0 ≤ (pc : Int) + q.2)) && decide (r = zlswr pc ps.toList)
  | .getfield i, len => len == 3 && nx == pc + 3 && zkg oc i op r
  | .putfield i, len => len == 3 && nx == pc + 3 && zkp oc nm i op r
  | .getstatic i, len => len == 3 && nx == pc + 3 && zkst oc i op r
  | .invokestatic i, len => len == 3 && nx == pc + 3 && ((op == 70 && zkc? oc i 0 tg r) || zkm oc i op)
  | .invokevirtual i, len => len == 3 && nx == pc + 3 && ((op == 70 && zkc? oc i 1 tg r) || (op == 76 && zkx oc i 5))
  | .invokespecial i, len => len == 3 && nx == pc + 3 && ((op == 70 && zkc? oc i 2 tg r) || (op == 75 && zkx oc i 4))
  | .arraylength, len => op == 84 && len == 1 && nx == pc + 1
  | .iaload, len => op == 85 && len == 1 && nx == pc + 1
  | .laload, len => op == 86 && len == 1 && nx == pc + 1
  | .baload, len => op == 87 && len == 1 && nx == pc + 1
  | .aaload, len => op == 88 && len == 1 && nx == pc + 1
  | .iastore, len => op == 89 && len == 1 && nx == pc + 1
  | .lastore, len => op == 90 && len == 1 && nx == pc + 1
  | .bastore, len => op == 91 && len == 1 && nx == pc + 1
  | .aastore, len => op == 92 && len == 1 && nx == pc + 1
  | .newarray .int, len => op == 93 && len == 2 && nx == pc + 2 && decide (r = [10])
  | .newarray .long, len => op == 93 && len == 2 && nx == pc + 2 && decide (r = [11])
  | .newarray .boolean, len => op == 93 && len == 2 && nx == pc + 2 && decide (r = [12])
  | .newarray .byte, len => op == 93 && len == 2 && nx == pc + 2 && decide (r = [13])
  | .anewarray i, len => op == 94 && len == 3 && nx == pc + 3 && zka oc i r
  | .new i, len => len == 3 && nx == pc + 3 && (op == 96 || (op == 95 && zkn oc i r))
  | .ireturn, len => op == 80 && len == 1 && (decide (ret = some .int) || (decide (ret = some .boolean) && decide (r = [0, 1])) || (decide (ret = some .char) && decide (r = [0, 65535])) || (decide (ret = some .byte) && decide (r = [-128, 127])))
  | .lreturn, len => op == 81 && len == 1 && decide (ret = some .long)
  | .areturn, len => op == 82 && len == 1 && zkr ret
  | .return_, len => op == 83 && len == 1 && decide (ret = none)
  | _, _ => false
def zokR (ret : Option FieldType) (op : Nat) (r : List Int) : Instr → Nat → Bool
  | .ireturn, len => op == 80 && len == 1 && (decide (ret = some .int) || (decide (ret = some .boolean) && decide (r = [0, 1])) || (decide (ret = some .char) && decide (r = [0, 65535])) || (decide (ret = some .byte) && decide (r = [-128, 127])))
  | .lreturn, len => op == 81 && len == 1 && decide (ret = some .long)
  | .areturn, len => op == 82 && len == 1 && zkr ret
  | .return_, len => op == 83 && len == 1 && decide (ret = none)
  | _, _ => false
def zokP (q : zME) (pc : Nat) (e : zE) : Bool := match decode q.2.1 pc with
  | .ok (ins, len) => zokI q.2.2.2.2 q.1.name q.2.2.2.1 pc e.1 e.2.1 e.2.2.1 e.2.2.2 ins len && (decide (e.1 < 80) || decide (84 ≤ e.1) || zokR q.2.2.2.1 e.1 e.2.2.2 ins len)
  | .error _ => false
def zokL (q : zME) : Nat → List (Option zE) → Bool
  | _, [] => true
  | pc, none :: l => zokL q (pc + 1) l
  | pc, some e :: l => zokP q pc e && zokL q (pc + 1) l
def zokJ (j : Nat) : Bool := match zmt j with
  | some q => decide (q.1.cls = zow q.2.2.2.2) && decide (zml j = q.2.2.1) && zokL q 0 ((ztab.getD (j / 25) []).getD (j % 25) [])
  | none => true
theorem zokL_get {q : zME} : ∀ (l : List (Option zE)) (p0 pc : Nat) (e : zE), zokL q p0 l = true → l.getD pc none = some e → zokP q (p0 + pc) e = true
  | [], _, pc, e, _, h => by simp at h
  | none :: l, p0, 0, e, _, h => by simp at h
  | some e' :: l, p0, 0, e, h1, h => by
    simp at h
    subst h
    rw [zokL, Bool.and_eq_true] at h1
    exact h1.1
  | none :: l, p0, pc + 1, e, h1, h => by
    have := zokL_get l (p0 + 1) pc e h1 (by simpa using h)
    rwa [show p0 + 1 + pc = p0 + (pc + 1) by omega] at this
  | some e' :: l, p0, pc + 1, e, h1, h => by
    rw [zokL, Bool.and_eq_true] at h1
    have := zokL_get l (p0 + 1) pc e h1.2 (by simpa using h)
    rwa [show p0 + 1 + pc = p0 + (pc + 1) by omega] at this
