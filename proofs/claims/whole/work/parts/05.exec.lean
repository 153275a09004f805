/-! THE SMALL MACHINE: numbers of places instead of addresses, a list of cells, instructions whose links are resolved by the tables of part 01 -/
abbrev x_C : Type := Nat × List Value
abbrev x_H : Type := List x_C
def x_cat (l : List Value) : Nat := (l.map fun v => v.category).sum
def x_sz (h : x_H) : Nat := (h.map fun c => c.2.length).sum
def x_clr (L : List Value) : Nat → List Value
  | 0 => L
  | j + 1 => match L[j]? with
    | some v => if v.category = 2 then L.set j .null else L
    | none => L
def x_st1 (L : List Value) (i : Nat) (v : Value) : List Value := (x_clr L i).set i v
def x_st2 (L : List Value) (i : Nat) (v : Value) : List Value := (x_st1 L i v).set (i + 1) .null
def x_ent : List Value → List Value
  | [] => []
  | v :: vs => if v.category = 2 then v :: .null :: x_ent vs else v :: x_ent vs
def x_loc (n : Nat) (vs : List Value) : List Value := x_ent vs ++ List.replicate (n - (x_ent vs).length) .null
def x_lk (T : List (Nat × Nat × Nat × Nat)) (c i : Nat) : Option Nat := (T.find? fun r => r.1 == c && r.2.1 == i).map fun r => r.2.2.1
def x_k (c i : Nat) : Option Int32 := (x_kt.find? fun r => r.1 == c && r.2.1 == i).map fun r => r.2.2.1
def x_call (c i : Nat) : Option (Nat × Nat) := (x_ct.find? fun r => r.1 == c && r.2.1 == i).map fun r => (r.2.2.1, r.2.2.2.1)
def x_new (c i : Nat) : Option Nat := (x_nt.find? fun r => r.1 == c && r.2.1 == i).map fun r => r.2.2.1
def x_is (T : List (Nat × Nat × Nat)) (c i : Nat) : Bool := T.any fun r => r.1 == c && r.2.1 == i
def x_to (pc : Nat) (off : Int) : Option Nat := if 0 ≤ (pc : Int) + off then some ((pc : Int) + off).toNat else none
def x_sw : Instr → Bool
  | .tableswitch .. | .lookupswitch .. => true
  | _ => false
def x_len : Instr → Nat
  | .iload _ | .istore _ | .aload _ | .astore _ | .lload _ | .lstore _ | .bipush _ | .ldc _ | .newarray _ => 2
  | .sipush _ | .ldc_w _ | .ldc2_w _ | .iinc _ _ | .ifCond _ _ | .if_icmp _ _ | .goto _ | .getfield _ | .putfield _ | .getstatic _ | .invokevirtual _ | .invokestatic _ | .invokespecial _ | .new _ | .anewarray _ => 3
  | _ => 1
/-- an instruction of class c at pc, its links resolved; '.d2f' is Object.<init>, '.d2i' is arraycopy, '.f2d' Math.abs, '.f2i' Math.max, '.putstatic' a final field's first write -/
def x_res (c pc : Nat) (r : Instr) : Option Instr := match r with
  | .iconst v => some (.iconst v)
  | .bipush v => some (.iconst (Int8.ofInt v).toInt32.toInt)
  | .sipush v => some (.iconst (Int16.ofInt v).toInt32.toInt)
  | .ldc k => match x_k c k with
    | some v => some (.iconst v.toInt)
    | none => if c = 5 ∧ k = 287 then some (.ldc 3) else if c = 5 ∧ k = 309 then some (.ldc 4) else none
  | .ldc_w k => match x_k c k with
    | some v => some (.iconst v.toInt)
    | none => if c = 5 ∧ k = 287 then some (.ldc 3) else if c = 5 ∧ k = 309 then some (.ldc 4) else none
  | .lconst l => some (.ldc2_w l)
  | .ldc2_w k => match x_lk x_kl c k with
    | some n => some (.ldc2_w n)
    | none => none
  | .iload_n n => some (.iload n)
  | .iload n => some (.iload n)
  | .lload_n n => some (.lload n)
  | .lload n => some (.lload n)
  | .aload_n n => some (.aload n)
  | .aload n => some (.aload n)
  | .istore_n n => some (.istore n)
  | .istore n => some (.istore n)
  | .lstore_n n => some (.lstore n)
  | .lstore n => some (.lstore n)
  | .astore_n n => some (.astore n)
  | .astore n => some (.astore n)
  | .iinc k v => some (.iinc k v)
  | .ifCond q off => match x_to pc off with
    | some t => some (.ifCond q (Int.ofNat t))
    | none => none
  | .if_icmp q off => match x_to pc off with
    | some t => some (.if_icmp q (Int.ofNat t))
    | none => none
  | .goto off => match x_to pc off with
    | some t => some (.goto (Int.ofNat t))
    | none => none
  | .tableswitch d lo hi offs => some (.tableswitch d lo hi offs)
  | .lookupswitch d ps => some (.lookupswitch d ps)
  | .getfield k => match x_lk x_ft c k with
    | some e => some (.getfield e)
    | none => none
  | .putfield k => match x_lk x_ft c k with
    | some e => if e / 32 < 7 then (if x_ff e = true then (if (x_fd e).1 = x_cn c then some (.putstatic e) else none) else some (.putfield e)) else none
    | none => none
  | .getstatic k => match x_lk x_sf c k with
    | some j => some (.getstatic j)
    | none => none
  | .invokevirtual k => match x_call c k with
    | some (z, 1) => some (.invokevirtual z)
    | _ => none
  | .invokestatic k => if x_is x_ac c k = true then some .d2i else match x_call c k with
    | some (z, 0) => if z = x_abs then some .f2d else if z = x_max then some .f2i else some (.invokestatic z)
    | _ => none
  | .invokespecial k => if x_is x_oi c k = true then some .d2f else match x_call c k with
    | some (z, 2) => some (.invokespecial z)
    | some (z, 3) => some (.invokespecial z)
    | _ => none
  | .new k => match x_new c k with
    | some ci => some (.new ci)
    | none => none
  | .newarray .int => some (.newarray .int)
  | .anewarray k => match x_new c k with
    | some 2 => some (.anewarray 2)
    | some 0 => some (.anewarray 0)
    | _ => none
  | .iadd => some .iadd
  | .isub => some .isub
  | .imul => some .imul
  | .idiv => some .idiv
  | .irem => some .irem
  | .ineg => some .ineg
  | .iand => some .iand
  | .ior => some .ior
  | .ixor => some .ixor
  | .ishl => some .ishl
  | .ishr => some .ishr
  | .iushr => some .iushr
  | .ladd => some .ladd
  | .lmul => some .lmul
  | .lrem => some .lrem
  | .land => some .land
  | .lor => some .lor
  | .lshl => some .lshl
  | .lshr => some .lshr
  | .lcmp => some .lcmp
  | .i2l => some .i2l
  | .l2i => some .l2i
  | .i2b => some .i2b
  | .i2s => some .i2s
  | .i2c => some .i2c
  | .dup => some .dup
  | .dup2 => some .dup2
  | .pop => some .pop
  | .iaload => some .iaload
  | .baload => some .baload
  | .aaload => some .aaload
  | .iastore => some .iastore
  | .aastore => some .aastore
  | .arraylength => some .arraylength
  | .ireturn => some .ireturn
  | .return_ => some .return_
  | _ => none
/-- the instruction at pc of method y, and the pc behind it -/
def x_fe (y pc : Nat) : Option (Instr × Nat) := match decode (x_by y) pc with
  | .ok (r, n) => if x_sw r || n == x_len r then (match x_res (x_cy y) pc r with
    | some i => some (i, pc + n)
    | none => none) else none
  | _ => none
abbrev x_Z : Type := Option (Nat × List Value × List Value × x_H)
def x_bi (S : List Value) (f : Int32 → Int32 → Option Int32) (nx : Nat) (L : List Value) (h : x_H) : x_Z := match S with
  | .int y :: .int x :: st => match f x y with
    | some v => some (nx, L, .int v :: st, h)
    | none => none
  | _ => none
def x_un (S : List Value) (f : Int32 → Int32) (nx : Nat) (L : List Value) (h : x_H) : x_Z := match S with
  | .int x :: st => some (nx, L, .int (f x) :: st, h)
  | _ => none
def x_bl (S : List Value) (f : Int64 → Int64 → Option Int64) (nx : Nat) (L : List Value) (h : x_H) : x_Z := match S with
  | .long y :: .long x :: st => match f x y with
    | some v => some (nx, L, .long v :: st, h)
    | none => none
  | _ => none
def x_cc (q : ClassFile.Cond) (x y : Int32) : Bool := match q with
  | .eq => decide (x = y)
  | .ne => decide (¬ x = y)
  | .lt => decide (x < y)
  | .ge => decide (y ≤ x)
  | .gt => decide (y < x)
  | .le => decide (x ≤ y)
def x_fit (e : Nat) (v : Value) : Bool := decide (v ≠ .ref 7) && decide (narrow (x_ty (e / 32) (e % 32)) v = v) && fits (x_ty (e / 32) (e % 32)) v
def x_def (c : Nat) : List Value := (List.range (x_N c)).map fun k => defaultValue (x_ty c k)
def x_cpy (f g : List Value) (sp dp n : Nat) : List Value := (List.range g.length).map fun k => if dp ≤ k ∧ k < dp + n then f.getD (sp + (k - dp)) .null else g.getD k .null
/-- one step of no call and no return; ini: in a constructor -/
def x_step (ini : Bool) (i : Instr) (pc nx : Nat) (L S : List Value) (h : x_H) : x_Z := match i with
  | .iconst v => some (nx, L, .int (Int32.ofInt v) :: S, h)
  | .ldc2_w n => some (nx, L, .long (Int64.ofNat n) :: S, h)
  | .ldc p => some (nx, L, .ref p :: S, h)
  | .iload k => match L[k]? with
    | some (.int x) => some (nx, L, .int x :: S, h)
    | _ => none
  | .lload k => match L[k]? with
    | some (.long x) => some (nx, L, .long x :: S, h)
    | _ => none
  | .aload k => match L[k]? with
    | some (.ref p) => if p = 7 then none else some (nx, L, .ref p :: S, h)
    | _ => none
  | .istore k => match S with
    | .int x :: st => if k < L.length then some (nx, x_st1 L k (.int x), st, h) else none
    | _ => none
  | .astore k => match S with
    | .ref p :: st => if k < L.length ∧ p ≠ 7 then some (nx, x_st1 L k (.ref p), st, h) else none
    | _ => none
  | .lstore k => match S with
    | .long x :: st => if k + 1 < L.length then some (nx, x_st2 L k (.long x), st, h) else none
    | _ => none
  | .iinc k v => match L[k]? with
    | some (.int x) => some (nx, x_st1 L k (.int (x + Int32.ofInt v)), S, h)
    | _ => none
  | .iadd => x_bi S (fun x y => some (x + y)) nx L h
  | .isub => x_bi S (fun x y => some (x - y)) nx L h
  | .imul => x_bi S (fun x y => some (x * y)) nx L h
  | .idiv => x_bi S (fun x y => if y = 0 then none else some (x / y)) nx L h
  | .irem => x_bi S (fun x y => if y = 0 then none else some (x - x / y * y)) nx L h
  | .iand => x_bi S (fun x y => some (x &&& y)) nx L h
  | .ior => x_bi S (fun x y => some (x ||| y)) nx L h
  | .ixor => x_bi S (fun x y => some (x ^^^ y)) nx L h
  | .ishl => x_bi S (fun x y => some (x <<< (y &&& 31))) nx L h
  | .ishr => x_bi S (fun x y => some (x >>> (y &&& 31))) nx L h
  | .iushr => x_bi S (fun x y => some (x.toUInt32 >>> (y.toUInt32 &&& Int32.toUInt32 31)).toInt32) nx L h
  | .ineg => x_un S (fun x => -x) nx L h
  | .i2b => x_un S (fun x => x.toInt8.toInt32) nx L h
  | .i2s => x_un S (fun x => x.toInt16.toInt32) nx L h
  | .i2c => x_un S (fun x => (x.toUInt32 % 65536).toInt32) nx L h
  | .ladd => x_bl S (fun x y => some (x + y)) nx L h
  | .lmul => x_bl S (fun x y => some (x * y)) nx L h
  | .land => x_bl S (fun x y => some (x &&& y)) nx L h
  | .lor => x_bl S (fun x y => some (x ||| y)) nx L h
  | .lrem => x_bl S (fun x y => if y = 0 then none else some (x - x / y * y)) nx L h
  | .lcmp => match S with
    | .long y :: .long x :: st => some (nx, L, .int (lg_cmp x y) :: st, h)
    | _ => none
  | .lshl => match S with
    | .int y :: .long x :: st => some (nx, L, .long (x <<< (y.toInt64 &&& 63)) :: st, h)
    | _ => none
  | .lshr => match S with
    | .int y :: .long x :: st => some (nx, L, .long (x >>> (y.toInt64 &&& 63)) :: st, h)
    | _ => none
  | .i2l => match S with
    | .int x :: st => some (nx, L, .long x.toInt64 :: st, h)
    | _ => none
  | .l2i => match S with
    | .long x :: st => some (nx, L, .int x.toInt32 :: st, h)
    | _ => none
  | .dup => match S with
    | v :: st => if v.category = 1 then some (nx, L, v :: v :: st, h) else none
    | _ => none
  | .pop => match S with
    | v :: st => if v.category = 1 then some (nx, L, st, h) else none
    | _ => none
  | .dup2 => match S with
    | a :: b :: st => if a.category = 1 ∧ b.category = 1 then some (nx, L, a :: b :: a :: b :: st, h) else none
    | _ => none
  | .goto t => some (t.toNat, L, S, h)
  | .ifCond q t => match S with
    | .int x :: st => some (if x_cc q x 0 = true then t.toNat else nx, L, st, h)
    | _ => none
  | .if_icmp q t => match S with
    | .int y :: .int x :: st => some (if x_cc q x y = true then t.toNat else nx, L, st, h)
    | _ => none
  | .tableswitch d lo hi offs => match S with
    | .int x :: st => if x.toInt < lo ∨ hi < x.toInt then (match x_to pc d with
        | some t => some (t, L, st, h)
        | none => none) else (match offs[(x.toInt - lo).toNat]? with
        | some o => (match x_to pc o with
          | some t => some (t, L, st, h)
          | none => none)
        | none => none)
    | _ => none
  | .lookupswitch d ps => match S with
    | .int x :: st => if (ps.toList.zip (ps.toList.drop 1)).all (fun (a, next) => a.1 < next.1) = true then (match x_to pc (Op.lookupswitch.offset ps.toList d x.toInt) with
        | some t => some (t, L, st, h)
        | none => none) else none
    | _ => none
  | .getfield e => match S with
    | .ref p :: st => match h[p]? with
      | some (c, fs) => if c = e / 32 then (match fs[e % 32]? with
        | some v => some (nx, L, v :: st, h)
        | none => none) else none
      | none => none
    | _ => none
  | .putfield e => match S with
    | v :: .ref p :: st => match h[p]? with
      | some (c, fs) => if c = e / 32 ∧ 8 ≤ p ∧ e % 32 < fs.length ∧ x_fit e v = true then some (nx, L, st, h.set p (c, fs.set (e % 32) v)) else none
      | none => none
    | _ => none
  | .putstatic e => match S with
    | v :: .ref p :: st => match h[p]? with
      | some (c, fs) => if ini = true ∧ c = e / 32 ∧ 8 ≤ p ∧ e % 32 < fs.length ∧ x_fit e v = true then some (nx, L, st, h.set p (c, fs.set (e % 32) v)) else none
      | none => none
    | _ => none
  | .getstatic j => match j with
    | 0 => some (nx, L, .ref 1 :: S, h)
    | 1 => some (nx, L, .ref 2 :: S, h)
    | 2 => some (nx, L, .int 1 :: S, h)
    | 3 => some (nx, L, .ref 7 :: S, h)
    | _ => none
  | .iaload => match S with
    | .int i :: .ref p :: st => match h[p]? with
      | some (c, vs) => if c = 10 ∧ ¬ i < 0 then (match vs[i.toNatClampNeg]? with
        | some (.int v) => some (nx, L, .int v :: st, h)
        | _ => none) else none
      | none => none
    | _ => none
  | .baload => match S with
    | .int i :: .ref p :: st => match h[p]? with
      | some (c, vs) => if c = 14 ∧ ¬ i < 0 then (match vs[i.toNatClampNeg]? with
        | some (.int v) => some (nx, L, .int v :: st, h)
        | _ => none) else none
      | none => none
    | _ => none
  | .aaload => match S with
    | .int i :: .ref p :: st => match h[p]? with
      | some (c, vs) => if (c = 11 ∨ c = 12) ∧ ¬ i < 0 then (match vs[i.toNatClampNeg]? with
        | some (.ref q) => if q = 7 then none else some (nx, L, .ref q :: st, h)
        | _ => none) else none
      | none => none
    | _ => none
  | .iastore => match S with
    | .int v :: .int i :: .ref p :: st => match h[p]? with
      | some (c, vs) => if c = 10 ∧ 8 ≤ p ∧ ¬ i < 0 ∧ i.toNatClampNeg < vs.length then some (nx, L, st, h.set p (c, vs.set i.toNatClampNeg (.int v))) else none
      | none => none
    | _ => none
  | .aastore => match S with
    | .ref q :: .int i :: .ref p :: st => match h[p]? with
      | some (c, vs) => match h[q]? with
        | some (d, _) => if ((c = 11 ∧ d = 2) ∨ (c = 12 ∧ d = 0)) ∧ 8 ≤ p ∧ 8 ≤ q ∧ ¬ i < 0 ∧ i.toNatClampNeg < vs.length then some (nx, L, st, h.set p (c, vs.set i.toNatClampNeg (.ref q))) else none
        | none => none
      | none => none
    | _ => none
  | .arraylength => match S with
    | .ref p :: st => match h[p]? with
      | some (c, vs) => if 10 ≤ c ∧ c ≤ 14 then some (nx, L, .int (Int32.ofNat vs.length) :: st, h) else none
      | none => none
    | _ => none
  | .new c => if c < 7 then some (nx, L, .ref h.length :: S, h ++ [(c, x_def c)]) else none
  | .newarray _ => match S with
    | .int n :: st => if ¬ n < 0 ∧ n.toNatClampNeg ≤ 100000 then some (nx, L, .ref h.length :: st, h ++ [(10, List.replicate n.toNatClampNeg (.int 0))]) else none
    | _ => none
  | .anewarray c => match S with
    | .int n :: st => if ¬ n < 0 ∧ n.toNatClampNeg ≤ 100000 ∧ (c = 0 ∨ c = 2) then some (nx, L, .ref h.length :: st, h ++ [(if c = 2 then 11 else 12, List.replicate n.toNatClampNeg .null)]) else none
    | _ => none
  | .d2f => match S with
    | .ref p :: st => if p ≠ 7 ∧ x_cat st ≤ 8 then some (nx, L, st, h) else none
    | _ => none
  | .f2d => match S with
    | .int x :: st => if x_cat st ≤ 8 then some (nx, L, .int (if 0 ≤ x then x else 0 - x) :: st, h) else none
    | _ => none
  | .f2i => match S with
    | .int y :: .int x :: st => if x_cat st ≤ 8 then some (nx, L, .int (if x < y then y else x) :: st, h) else none
    | _ => none
  | .d2i => match S with
    | .int n :: .int dp :: .ref q :: .int sp :: .ref p :: st => match h[p]? with
      | some (c, f) => match h[q]? with
        | some (d, g) => if c = 10 ∧ d = 10 ∧ 8 ≤ p ∧ 8 ≤ q ∧ ¬ sp < 0 ∧ ¬ dp < 0 ∧ ¬ n < 0 ∧ sp.toNatClampNeg + n.toNatClampNeg ≤ f.length ∧ dp.toNatClampNeg + n.toNatClampNeg ≤ g.length ∧ x_cat st ≤ 8 then some (nx, L, st, h.set q (10, x_cpy f g sp.toNatClampNeg dp.toNatClampNeg n.toNatClampNeg)) else none
        | none => none
      | none => none
    | _ => none
  | _ => none
def x_cal : Instr → Option Nat
  | .invokestatic z | .invokevirtual z | .invokespecial z => some z
  | _ => none
/-- what a call asks of the stack -/
def x_okc (i : Instr) (z : Nat) (S : List Value) (h : x_H) : Bool :=
  decide (x_na z ≤ S.length) && decide (x_cat (S.drop (x_na z)) ≤ 8) && decide ((x_ent (S.take (x_na z)).reverse).length ≤ x_ml z) && (match i with
    | .invokevirtual _ => (match S[x_na z - 1]? with
      | some (.ref p) => (match h[p]? with
        | some (c, _) => decide (c = x_cy z) && decide (p ≠ 7)
        | none => false)
      | _ => false)
    | .invokespecial _ => (match S[x_na z - 1]? with
      | some (.ref p) => decide (p ≠ 7)
      | _ => false)
    | _ => true)
/-- a run of method y, by fuel and by depth of calls -/
def x_run : Nat → Nat → Nat → Nat → List Value → List Value → x_H → Option (Option Value × x_H)
  | 0, _, _, _, _, _, _ => none
  | n + 1, d, y, pc, L, S, h => match x_fe y pc with
    | none => none
    | some (i, nx) => match x_cal i with
      | some z => match d with
        | 0 => none
        | d' + 1 => if x_okc i z S h = true then (match x_run n d' z 0 (x_loc (x_ml z) (S.take (x_na z)).reverse) [] h with
          | some (r, h') => x_run n (d' + 1) y nx L (r.toList ++ S.drop (x_na z)) h'
          | none => none) else none
      | none => match i, S with
        | .ireturn, [.int v] => (match x_rt y with
          | some ty => if narrow ty (.int v) = .int v then some (some (.int v), h) else none
          | none => none)
        | .return_, [] => (match x_rt y with
          | some _ => none
          | none => some (none, h))
        | i, S => match x_step (x_kd y == 2) i pc nx L S h with
          | some (pc', L', S', h') => x_run n d y pc' L' S' h'
          | none => none
