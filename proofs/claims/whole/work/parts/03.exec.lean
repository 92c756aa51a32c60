/-! A small machine over an own heap: what a method of the program does there, by its bytecode (the decoder is the model's own). Part 05 shows that the model's machine follows it. -/
def xe_md : xe_M := (99, ⟨"", "", ""⟩, ⟨#[]⟩, 0, none, 0)
def xe_m (y : Nat) : xe_M := xe_mL.getD y xe_md
def xe_o (y : Nat) : Nat := (xe_m y).1
def xe_nm (y : Nat) : MethodName := (xe_m y).2.1
def xe_by (y : Nat) : ByteArray := (xe_m y).2.2.1
def xe_ml (y : Nat) : Nat := (xe_m y).2.2.2.1
def xe_rt (y : Nat) : Option FieldType := (xe_m y).2.2.2.2.1
def xe_np (y : Nat) : Nat := (xe_m y).2.2.2.2.2
def xe_on (o : Nat) : String := xe_own.getD o ""
/-- how long an instruction is -/
def xe_lok (ins : Instr) (n : Nat) : Bool := match ins with
  | .tableswitch _ _ _ _ => true
  | .bipush _ | .iload _ | .lload _ | .aload _ | .istore _ | .lstore _ | .astore _ | .ldc _ | .newarray _ => n == 2
  | .sipush _ | .getfield _ | .putfield _ | .getstatic _ | .goto _ | .ifCond _ _ | .if_icmp _ _ | .invokevirtual _ | .invokestatic _ | .invokespecial _ | .new _ | .anewarray _ | .ldc2_w _ | .iinc _ _ => n == 3
  | _ => n == 1
/-- no branch leads below 0 -/
def xe_tok (pc : Nat) (ins : Instr) : Bool := match ins with
  | .goto off => decide (0 ≤ (pc : Int) + off)
  | .ifCond _ off => decide (0 ≤ (pc : Int) + off)
  | .if_icmp _ off => decide (0 ≤ (pc : Int) + off)
  | .tableswitch d _ _ offs => decide (0 ≤ (pc : Int) + d) && offs.toList.all (fun off => decide (0 ≤ (pc : Int) + off))
  | _ => true
def xe_code (y pc : Nat) : Option (Instr × Nat) := match decode (xe_by y) pc with
  | .ok r => if xe_lok r.1 r.2 = true ∧ xe_tok pc r.1 = true then some r else none
  | .error _ => none
theorem xe_code_ok {y pc : Nat} {ins : Instr} {len : Nat} (h : xe_code y pc = some (ins, len)) : decode (xe_by y) pc = .ok (ins, len) ∧ xe_lok ins len = true ∧ xe_tok pc ins = true := by
  unfold xe_code at h
  split at h
  next r e =>
    split at h
    next hl => cases h; exact ⟨e, hl.1, hl.2⟩
    next => cases h
  next => cases h
/-- the number of a class's fields, the type of a field, whether it is a reference -/
def xe_nf (ci : Nat) : Nat := (xe_cl.getD ci ("", TX0, 0)).2.2
def xe_tb (ci : Nat) : u_T := (xe_cl.getD ci ("", TX0, 0)).2.1
def xe_ty (ci k : Nat) : FieldType := (xe_tyL.getD ci tyX0) k
def xe_isr (t : FieldType) : Bool := match t with
  | .object _ => true
  | .array _ => true
  | _ => false
/-- the heap: cells, slots, kind (class, or 8 int[], 9 long[], 10 byte[], 11 boolean[], 12 Town[], 13 String) and size, ints, longs, references -/
abbrev xe_H : Type := Nat × Nat × (Nat → Nat × Nat) × (Nat → Nat → Int32) × (Nat → Nat → Int64) × (Nat → Nat → Option Nat)
def xe_n (h : xe_H) : Nat := h.1
def xe_z (h : xe_H) : Nat := h.2.1
def xe_T (h : xe_H) (a : Nat) : Nat := (h.2.2.1 a).1
def xe_N (h : xe_H) (a : Nat) : Nat := (h.2.2.1 a).2
def xe_I (h : xe_H) : Nat → Nat → Int32 := h.2.2.2.1
def xe_L (h : xe_H) : Nat → Nat → Int64 := h.2.2.2.2.1
def xe_R (h : xe_H) : Nat → Nat → Option Nat := h.2.2.2.2.2
def xe_aI (h : xe_H) (a : Nat) (f : Nat → Int32) : xe_H := (h.1, h.2.1, h.2.2.1, va_up h.2.2.2.1 a f, h.2.2.2.2.1, h.2.2.2.2.2)
def xe_aL2 (h : xe_H) (a : Nat) (f : Nat → Int64) : xe_H := (h.1, h.2.1, h.2.2.1, h.2.2.2.1, va_up h.2.2.2.2.1 a f, h.2.2.2.2.2)
def xe_aR (h : xe_H) (a : Nat) (f : Nat → Option Nat) : xe_H := (h.1, h.2.1, h.2.2.1, h.2.2.2.1, h.2.2.2.2.1, va_up h.2.2.2.2.2 a f)
def xe_sI (h : xe_H) (a k : Nat) (v : Int32) : xe_H := xe_aI h a (upd (xe_I h a) k v)
def xe_sL2 (h : xe_H) (a k : Nat) (v : Int64) : xe_H := xe_aL2 h a (vp_updL (xe_L h a) k v)
def xe_sR (h : xe_H) (a k : Nat) (v : Option Nat) : xe_H := xe_aR h a (va_up (xe_R h a) k v)
def xe_new (h : xe_H) (t n : Nat) : xe_H := (h.1 + 1, h.2.1 + n, va_up h.2.2.1 h.1 (t, n), va_up h.2.2.2.1 h.1 (fun _ => 0), va_up h.2.2.2.2.1 h.1 (fun _ => 0), va_up h.2.2.2.2.2 h.1 (fun _ => none))
/-- the first address of what was there before the law began -/
def xe_S : Nat := 1099511627776
/-- locals: an unset one is .retAddr 0 -/
def xe_cut (v : Value) : Value := match v with
  | .long _ => .retAddr 0
  | .double _ => .retAddr 0
  | v => v
def xe_st : List Value → Nat → Value → Option (List Value)
  | [], _, _ => none
  | _ :: l, 0, v => some (v :: l)
  | a :: l, 1, v => (xe_st l 0 v).map (fun q => xe_cut a :: q)
  | a :: l, n + 2, v => (xe_st l (n + 1) v).map (fun q => a :: q)
def xe_st2 : List Value → Nat → Value → Option (List Value)
  | [], _, _ => none
  | _ :: l, 0, v => match l with
    | [] => none
    | _ :: l => some (v :: .retAddr 0 :: l)
  | a :: l, 1, v => (xe_st2 l 0 v).map (fun q => xe_cut a :: q)
  | a :: l, n + 2, v => (xe_st2 l (n + 1) v).map (fun q => a :: q)
def xe_ldI (ls : List Value) (i : Nat) (st : List Value) : Option (List Value × List Value) := match ls[i]? with
  | some (.int x) => some (ls, .int x :: st)
  | _ => none
def xe_ldL (ls : List Value) (i : Nat) (st : List Value) : Option (List Value × List Value) := match ls[i]? with
  | some (.long x) => some (ls, .long x :: st)
  | _ => none
def xe_ldA (ls : List Value) (i : Nat) (st : List Value) : Option (List Value × List Value) := match ls[i]? with
  | some (.ref x) => some (ls, .ref x :: st)
  | _ => none
def xe_stI (ls : List Value) (i : Nat) (st : List Value) : Option (List Value × List Value) := match st with
  | .int x :: st => (xe_st ls i (.int x)).map (fun q => (q, st))
  | _ => none
def xe_stL (ls : List Value) (i : Nat) (st : List Value) : Option (List Value × List Value) := match st with
  | .long x :: st => (xe_st2 ls i (.long x)).map (fun q => (q, st))
  | _ => none
def xe_stA (ls : List Value) (i : Nat) (st : List Value) : Option (List Value × List Value) := match st with
  | .ref x :: st => if x < xe_S then (xe_st ls i (.ref x)).map (fun q => (q, st)) else none
  | _ => none
def xe_ii (st : List Value) (f : Int32 → Int32 → Int32) : Option (List Value) := match st with
  | .int y :: .int x :: st => some (.int (f x y) :: st)
  | _ => none
def xe_ll (st : List Value) (f : Int64 → Int64 → Int64) : Option (List Value) := match st with
  | .long y :: .long x :: st => some (.long (f x y) :: st)
  | _ => none
def xe_iid (st : List Value) (f : Int32 → Int32 → Int32) : Option (List Value) := match st with
  | .int y :: .int x :: st => if y = 0 then none else some (.int (f x y) :: st)
  | _ => none
def xe_lld (st : List Value) (f : Int64 → Int64 → Int64) : Option (List Value) := match st with
  | .long y :: .long x :: st => if y = 0 then none else some (.long (f x y) :: st)
  | _ => none
/-- instructions over the stack alone -/
def xe_ar (ins : Instr) (st : List Value) : Option (List Value) := match ins with
  | .iconst n => some (.int (Int32.ofInt n) :: st)
  | .bipush n => some (.int (Int8.ofInt n).toInt32 :: st)
  | .sipush n => some (.int (Int16.ofInt n).toInt32 :: st)
  | .lconst n => some (.long (Int64.ofNat (n : Nat)) :: st)
  | .iadd => xe_ii st (fun x y => x + y)
  | .isub => xe_ii st (fun x y => x - y)
  | .imul => xe_ii st (fun x y => x * y)
  | .iand => xe_ii st (fun x y => x &&& y)
  | .ior => xe_ii st (fun x y => x ||| y)
  | .ixor => xe_ii st (fun x y => x ^^^ y)
  | .ishl => xe_ii st (fun x y => x <<< (y &&& 31))
  | .ishr => xe_ii st (fun x y => x >>> (y &&& 31))
  | .idiv => xe_iid st (fun x y => x / y)
  | .irem => xe_iid st (fun x y => x - x / y * y)
  | .ladd => xe_ll st (fun x y => x + y)
  | .lmul => xe_ll st (fun x y => x * y)
  | .land => xe_ll st (fun x y => x &&& y)
  | .lor => xe_ll st (fun x y => x ||| y)
  | .ldiv => xe_lld st (fun x y => x / y)
  | .lrem => xe_lld st (fun x y => x - x / y * y)
  | .lshl => match st with
    | .int y :: .long x :: st => some (.long (x <<< (y.toInt64 &&& 63)) :: st)
    | _ => none
  | .lshr => match st with
    | .int y :: .long x :: st => some (.long (x >>> (y.toInt64 &&& 63)) :: st)
    | _ => none
  | .lcmp => match st with
    | .long y :: .long x :: st => some (.int (lg_cmp x y) :: st)
    | _ => none
  | .i2l => match st with
    | .int x :: st => some (.long x.toInt64 :: st)
    | _ => none
  | .l2i => match st with
    | .long x :: st => some (.int x.toInt32 :: st)
    | _ => none
  | .i2b => match st with
    | .int x :: st => some (.int x.toInt8.toInt32 :: st)
    | _ => none
  | .i2s => match st with
    | .int x :: st => some (.int x.toInt16.toInt32 :: st)
    | _ => none
  | .i2c => match st with
    | .int x :: st => some (.int (x.toUInt32 % 65536).toInt32 :: st)
    | _ => none
  | .dup => match st with
    | .int x :: st => some (.int x :: .int x :: st)
    | .ref x :: st => some (.ref x :: .ref x :: st)
    | _ => none
  | .pop => match st with
    | .int _ :: st => some st
    | .ref _ :: st => some st
    | _ => none
  | .dup2 => match st with
    | .int y :: .ref x :: st => some (.int y :: .ref x :: .int y :: .ref x :: st)
    | _ => none
  | _ => none
/-- instructions over the locals -/
def xe_lo (ins : Instr) (ls st : List Value) : Option (List Value × List Value) := match ins with
  | .iload i => xe_ldI ls i st
  | .iload_n k => xe_ldI ls k st
  | .lload i => xe_ldL ls i st
  | .lload_n k => xe_ldL ls k st
  | .aload i => xe_ldA ls i st
  | .aload_n k => xe_ldA ls k st
  | .istore i => xe_stI ls i st
  | .istore_n k => xe_stI ls k st
  | .lstore i => xe_stL ls i st
  | .lstore_n k => xe_stL ls k st
  | .astore i => xe_stA ls i st
  | .astore_n k => xe_stA ls k st
  | .iinc i n => match ls[i]? with
    | some (.int x) => (xe_st ls i (.int (x + Int32.ofInt n))).map (fun q => (q, st))
    | _ => none
  | _ => none
/-- branches: where to, if not on -/
def xe_br (ins : Instr) (st : List Value) : Option (Option Int × List Value) := match ins with
  | .goto off => some (some off, st)
  | .ifCond .eq off => match st with
    | .int x :: st => some (if x = 0 then some off else none, st)
    | _ => none
  | .ifCond .ne off => match st with
    | .int x :: st => some (if x = 0 then none else some off, st)
    | _ => none
  | .ifCond .lt off => match st with
    | .int x :: st => some (if x < 0 then some off else none, st)
    | _ => none
  | .ifCond .ge off => match st with
    | .int x :: st => some (if 0 ≤ x then some off else none, st)
    | _ => none
  | .ifCond .gt off => match st with
    | .int x :: st => some (if 0 < x then some off else none, st)
    | _ => none
  | .ifCond .le off => match st with
    | .int x :: st => some (if x ≤ 0 then some off else none, st)
    | _ => none
  | .if_icmp .eq off => match st with
    | .int y :: .int x :: st => some (if x = y then some off else none, st)
    | _ => none
  | .if_icmp .ne off => match st with
    | .int y :: .int x :: st => some (if x = y then none else some off, st)
    | _ => none
  | .if_icmp .lt off => match st with
    | .int y :: .int x :: st => some (if x < y then some off else none, st)
    | _ => none
  | .if_icmp .ge off => match st with
    | .int y :: .int x :: st => some (if y ≤ x then some off else none, st)
    | _ => none
  | .if_icmp .gt off => match st with
    | .int y :: .int x :: st => some (if y < x then some off else none, st)
    | _ => none
  | .if_icmp .le off => match st with
    | .int y :: .int x :: st => some (if x ≤ y then some off else none, st)
    | _ => none
  | .tableswitch d lo hi offs => match st with
    | .int x :: st => if x.toInt < lo ∨ hi < x.toInt then some (some d, st) else
      match offs[(x.toInt - lo).toNat]? with
      | some off => some (some off, st)
      | none => none
    | _ => none
  | _ => none
def xe_fF (o i : Nat) : Option (Nat × Nat) := (xe_fL.find? (fun e => e.1 == o && e.2.1 == i)).map (fun e => e.2.2)
def xe_fC (o i : Nat) : Option (Nat × Nat) := (xe_cL.find? (fun e => e.1 == o && e.2.1 == i)).map (fun e => e.2.2)
def xe_fK (o i : Nat) : Option Nat := (xe_kL.find? (fun e => e.1 == o && e.2.1 == i)).map (fun e => e.2.2)
def xe_fA (o i : Nat) : Bool := xe_aL.any (fun e => e.1 == o && e.2 == i)
def xe_fI (o i : Nat) : Option Int32 := (xe_iL.find? (fun e => e.1 == o && e.2.1 == i)).map (fun e => e.2.2)
def xe_fJ (o i : Nat) : Option Int64 := (xe_lL.find? (fun e => e.1 == o && e.2.1 == i)).map (fun e => e.2.2)
def xe_fT (o i : Nat) : Option Nat := (xe_tL.find? (fun e => e.1 == o && e.2.1 == i)).map (fun e => e.2.2)
def xe_fS (o i : Nat) : Option Nat := (xe_sL.find? (fun e => e.1 == o && e.2.1 == i)).map (fun e => e.2.2)
/-- a value that a field of this type may hold as it is -/
def xe_fit (t : FieldType) (v : Value) : Bool := match t, v with
  | .int, .int _ => true
  | .boolean, .int x => x == 0 || x == 1
  | .object _, .ref x => decide (x < xe_S)
  | .array _, .ref x => decide (x < xe_S)
  | _, _ => false
def xe_fv (t : FieldType) (h : xe_H) (a k : Nat) : Value := if xe_isr t then va_rf (xe_R h a k) else .int (xe_I h a k)
def xe_pf (h : xe_H) (a k : Nat) (v : Value) : xe_H := match v with
  | .int x => xe_sI h a k x
  | .ref x => xe_sR h a k (some x)
  | _ => h
def xe_at (t : ArrayType) : Nat := match t with
  | .int => 8
  | .long => 9
  | .byte => 10
  | .boolean => 11
  | _ => 0
/-- an index within a size -/
def xe_in (i : Int32) (n : Nat) : Prop := ¬ (i < 0 ∨ n ≤ i.toNatClampNeg)
theorem xe_inD (i : Int32) (n : Nat) : xe_in i n ↔ (decide (i < 0) || decide (n ≤ i.toNatClampNeg)) = false := by
  unfold xe_in
  simp
/-- instructions over the heap; o: the class whose method runs, ini: it is a constructor -/
def xe_hp (o : Nat) (ini : Bool) (ins : Instr) (st : List Value) (h : xe_H) : Option (List Value × xe_H) := match ins with
  | .ldc i => match xe_fI o i with
    | some v => some (.int v :: st, h)
    | none => match xe_fT o i with
      | some k => some (.ref (xe_S + (5 + k)) :: st, h)
      | none => none
  | .ldc2_w i => match xe_fJ o i with
    | some v => some (.long v :: st, h)
    | none => none
  | .getstatic i => match xe_fS o i with
    | some j => if j = 20 then some (.int 1 :: st, h) else some (.ref (xe_S + j) :: st, h)
    | none => none
  | .getfield i => match xe_fF o i, st with
    | some (ci, k), .ref a :: st => if ci < 8 then
        if a < xe_n h ∧ xe_T h a = ci then some (xe_fv (xe_ty ci k) h a k :: st, h) else none
      else if xe_S + 5 ≤ a ∧ a < xe_S + 12 then some ((if k = 0 then .ref (a + 7) else .int 0) :: st, h) else none
    | _, _ => none
  | .putfield i => match xe_fF o i, st with
    | some (ci, k), v :: .ref a :: st => if ci < 8 ∧ ((xe_tb ci k).2.2.2 = true → ini = true ∧ o = ci) ∧ a < xe_n h ∧ xe_T h a = ci ∧ xe_fit (xe_ty ci k) v = true then some (st, xe_pf h a k v) else none
    | _, _ => none
  | .iaload => match st with
    | .int i :: .ref a :: st => if xe_T h a = 8 ∧ (a < xe_n h ∨ (xe_S ≤ a ∧ a < xe_S + 5)) ∧ (decide (i < 0) || decide (xe_N h a ≤ i.toNatClampNeg)) = false then some (.int (xe_I h a i.toNatClampNeg) :: st, h) else none
    | _ => none
  | .baload => match st with
    | .int i :: .ref a :: st => if ((xe_T h a = 10 ∧ (a < xe_n h ∨ (xe_S + 12 ≤ a ∧ a < xe_S + 19))) ∨ (xe_T h a = 11 ∧ a < xe_n h)) ∧ (decide (i < 0) || decide (xe_N h a ≤ i.toNatClampNeg)) = false then some (.int (xe_I h a i.toNatClampNeg) :: st, h) else none
    | _ => none
  | .laload => match st with
    | .int i :: .ref a :: st => if xe_T h a = 9 ∧ a < xe_n h ∧ (decide (i < 0) || decide (xe_N h a ≤ i.toNatClampNeg)) = false then some (.long (xe_L h a i.toNatClampNeg) :: st, h) else none
    | _ => none
  | .aaload => match st with
    | .int i :: .ref a :: st => if xe_T h a = 12 ∧ a < xe_n h ∧ (decide (i < 0) || decide (xe_N h a ≤ i.toNatClampNeg)) = false then
        match xe_R h a i.toNatClampNeg with
        | some b => if b < xe_S then some (.ref b :: st, h) else none
        | none => none
      else none
    | _ => none
  | .iastore => match st with
    | .int x :: .int i :: .ref a :: st => if xe_T h a = 8 ∧ a < xe_n h ∧ (decide (i < 0) || decide (xe_N h a ≤ i.toNatClampNeg)) = false then some (st, xe_sI h a i.toNatClampNeg x) else none
    | _ => none
  | .bastore => match st with
    | .int x :: .int i :: .ref a :: st => if a < xe_n h ∧ (decide (i < 0) || decide (xe_N h a ≤ i.toNatClampNeg)) = false then
        if xe_T h a = 10 then some (st, xe_sI h a i.toNatClampNeg x.toInt8.toInt32)
        else if xe_T h a = 11 ∧ (x = 0 ∨ x = 1) then some (st, xe_sI h a i.toNatClampNeg x) else none
      else none
    | _ => none
  | .lastore => match st with
    | .long x :: .int i :: .ref a :: st => if xe_T h a = 9 ∧ a < xe_n h ∧ (decide (i < 0) || decide (xe_N h a ≤ i.toNatClampNeg)) = false then some (st, xe_sL2 h a i.toNatClampNeg x) else none
    | _ => none
  | .aastore => match st with
    | .ref x :: .int i :: .ref a :: st => if xe_T h a = 12 ∧ a < xe_n h ∧ x < xe_n h ∧ xe_n h ≤ xe_S ∧ xe_T h x = 3 ∧ (decide (i < 0) || decide (xe_N h a ≤ i.toNatClampNeg)) = false then some (st, xe_sR h a i.toNatClampNeg (some x)) else none
    | _ => none
  | .arraylength => match st with
    | .ref a :: st => if 8 ≤ xe_T h a ∧ xe_T h a ≤ 12 ∧ (a < xe_n h ∨ (xe_S ≤ a ∧ a < xe_S + 5 ∧ xe_T h a = 8) ∨ (xe_S + 12 ≤ a ∧ a < xe_S + 19 ∧ xe_T h a = 10)) then some (.int (Int32.ofNat (xe_N h a)) :: st, h) else none
    | _ => none
  | .newarray t => match st with
    | .int i :: st => if 8 ≤ xe_at t ∧ ¬ i < 0 ∧ i.toNatClampNeg ≤ 200000 ∧ xe_n h < xe_S then some (.ref (xe_n h) :: st, xe_new h (xe_at t) i.toNatClampNeg) else none
    | _ => none
  | .anewarray i => match st with
    | .int x :: st => if xe_fA o i = true ∧ ¬ x < 0 ∧ x.toNatClampNeg ≤ 200000 ∧ xe_n h < xe_S then some (.ref (xe_n h) :: st, xe_new h 12 x.toNatClampNeg) else none
    | _ => none
  | .new i => match xe_fK o i with
    | some ci => if ci < 8 ∧ xe_n h < xe_S then some (.ref (xe_n h) :: st, xe_new h ci (xe_nf ci)) else none
    | none => none
  | _ => none
/-- words on the stack -/
def xe_w : List Value → Nat
  | [] => 0
  | v :: l => v.category + xe_w l
abbrev xe_A : Type := Option Value × xe_H
/-- System.arraycopy over int or long rows -/
def xe_cp (st : List Value) (h : xe_H) : Option (List Value × xe_H) := match st with
  | .int n :: .int dp :: .ref b :: .int sp :: .ref a :: st =>
    if xe_w st ≤ 8 ∧ a < xe_n h ∧ b < xe_n h ∧ ¬ sp < 0 ∧ ¬ dp < 0 ∧ ¬ n < 0 ∧ sp.toNatClampNeg + n.toNatClampNeg ≤ xe_N h a ∧ dp.toNatClampNeg + n.toNatClampNeg ≤ xe_N h b then
      if xe_T h a = 8 ∧ xe_T h b = 8 then some (st, xe_aI h b (va_cpy (xe_I h a) (xe_I h b) sp.toNatClampNeg dp.toNatClampNeg n.toNatClampNeg))
      else if xe_T h a = 9 ∧ xe_T h b = 9 then some (st, xe_aL2 h b (va_cpy (xe_L h a) (xe_L h b) sp.toNatClampNeg dp.toNatClampNeg n.toNatClampNeg))
      else none
    else none
  | _ => none
/-- the JDK's members that are no bytecode here: arraycopy (5), Math.max (6), Math.min (7) -/
def xe_mm (k : Option (Nat × Nat)) (st : List Value) (h : xe_H) : Option (List Value × xe_H) := match k with
  | some (5, _) => xe_cp st h
  | some (6, _) => match st with
    | .int y :: .int x :: st => if xe_w st ≤ 8 then some (.int (if x < y then y else x) :: st, h) else none
    | _ => none
  | some (7, _) => match st with
    | .int y :: .int x :: st => if xe_w st ≤ 8 then some (.int (if y < x then y else x) :: st, h) else none
    | _ => none
  | _ => none
/-- a call: whom, with what, what stays on the stack -/
def xe_ca (o : Nat) (ins : Instr) (st : List Value) (h : xe_H) : Option (Nat × List Value × List Value) := match ins with
  | .invokestatic i => match xe_fC o i with
    | some (k, y) => if k = 1 ∧ xe_np y ≤ st.length ∧ xe_w (st.drop (xe_np y)) ≤ 8 then some (y, (st.take (xe_np y)).reverse, st.drop (xe_np y)) else none
    | none => none
  | .invokevirtual i => match xe_fC o i with
    | some (k, y) => match st.drop (xe_np y) with
      | .ref a :: rest => if k = 0 ∧ xe_w rest ≤ 8 ∧ ((xe_o y < 8 ∧ a < xe_n h ∧ xe_T h a = xe_o y) ∨ (xe_o y = 9 ∧ xe_S + 5 ≤ a ∧ a < xe_S + 12)) then some (y, .ref a :: (st.take (xe_np y)).reverse, rest) else none
      | _ => none
    | none => none
  | .invokespecial i => match xe_fC o i with
    | some (k, y) => match st.drop (xe_np y) with
      | .ref a :: rest => if (k = 2 ∨ k = 3) ∧ xe_w rest ≤ 8 ∧ a < xe_n h ∧ xe_n h ≤ xe_S then some (y, .ref a :: (st.take (xe_np y)).reverse, rest) else none
      | _ => none
    | none => none
  | _ => none
/-- what a method may give back as it is -/
def xe_rv (t : Option FieldType) (ins : Instr) (st : List Value) : Option (Option Value) := match ins, t, st with
  | .return_, none, [] => some none
  | .ireturn, some .int, [.int x] => some (some (.int x))
  | .ireturn, some .boolean, [.int x] => if x = 0 ∨ x = 1 then some (some (.int x)) else none
  | .ireturn, some .byte, [.int x] => if x = 0 then some (some (.int x)) else none
  | .ireturn, some .char, [.int x] => if ¬ x < 0 ∧ x ≤ 255 then some (some (.int x)) else none
  | .lreturn, some .long, [.long x] => some (some (.long x))
  | .areturn, some (.array _), [.ref x] => if x < xe_S then some (some (.ref x)) else none
  | .areturn, some (.object _), [.ref x] => if xe_S + 5 ≤ x ∧ x < xe_S + 12 then some (some (.ref x)) else none
  | _, _, _ => none
abbrev xe_X : Type := Nat × List Value × List Value × xe_H
/-- one step: on, or back with an answer -/
def xe_one (call : Nat → List Value → xe_H → Option xe_A) (y pc : Nat) (ins : Instr) (len : Nat) (ls st : List Value) (h : xe_H) : Option (xe_X ⊕ xe_A) :=
  match xe_ar ins st with
  | some st' => some (.inl (pc + len, ls, st', h))
  | none => match xe_lo ins ls st with
    | some (ls', st') => some (.inl (pc + len, ls', st', h))
    | none => match xe_br ins st with
      | some (none, st') => some (.inl (pc + len, ls, st', h))
      | some (some off, st') => some (.inl (((pc : Int) + off).toNat, ls, st', h))
      | none => match xe_hp (xe_o y) ((xe_nm y).name == "<init>") ins st h with
        | some (st', h') => some (.inl (pc + len, ls, st', h'))
        | none => match xe_rv (xe_rt y) ins st with
          | some v => some (.inr (v, h))
          | none => match xe_ca (xe_o y) ins st h with
            | some (z, as, st') => match call z as h with
              | some (some v, h') => some (.inl (pc + len, ls, v :: st', h'))
              | some (none, h') => some (.inl (pc + len, ls, st', h'))
              | none => none
            | none => match ins, st with
              | .invokespecial i, .ref a :: st' => if xe_fC (xe_o y) i = some (4, 0) ∧ a < xe_n h ∧ xe_n h ≤ xe_S ∧ xe_w st' ≤ 8 then some (.inl (pc + len, ls, st', h)) else none
              | .invokestatic i, st => match xe_mm (xe_fC (xe_o y) i) st h with
                | some (st', h') => some (.inl (pc + len, ls, st', h'))
                | none => none
              | _, _ => none
def xe_run (call : Nat → List Value → xe_H → Option xe_A) (y : Nat) : Nat → Nat → List Value → List Value → xe_H → Option xe_A
  | 0, _, _, _, _ => none
  | F + 1, pc, ls, st, h => match xe_code y pc with
    | none => none
    | some (ins, len) => match xe_one call y pc ins len ls st h with
      | none => none
      | some (.inr a) => some a
      | some (.inl x) => xe_run call y F x.1 x.2.1 x.2.2.1 x.2.2.2
/-- the locals at a method's begin -/
def xe_la : List Value → List Value
  | [] => []
  | v :: l => match v with
    | .long x => .long x :: .retAddr 0 :: xe_la l
    | .double x => .double x :: .retAddr 0 :: xe_la l
    | v => v :: xe_la l
def xe_l0 (n : Nat) (as : List Value) : List Value := xe_la as ++ List.replicate (n - (xe_la as).length) (.retAddr 0)
/-- the answer of which P holds, if there is one -/
noncomputable def xe_pick (P : xe_A → Prop) : Option xe_A := @dite _ (∃ r, P r) (Classical.propDecidable _) (fun h => some (Classical.choose h)) (fun _ => none)
theorem xe_pick_some {P : xe_A → Prop} {r : xe_A} (h : xe_pick P = some r) : P r := by
  unfold xe_pick at h
  split at h
  next hx => rw [← Option.some.inj h]; exact Classical.choose_spec hx
  next => cases h
theorem xe_pick_of {P : xe_A → Prop} {r : xe_A} (h : P r) (hu : ∀ q, P q → q = r) : xe_pick P = some r := by
  unfold xe_pick
  split
  next hx => exact congrArg some (hu _ (Classical.choose_spec hx))
  next hn => exact absurd ⟨r, h⟩ hn
/-- a method's answer, calls at most d deep -/
noncomputable def xe_ex (d : Nat) : Nat → List Value → xe_H → Option xe_A := match d with
  | 0 => fun _ _ _ => none
  | d + 1 => fun y as h => xe_pick (fun r => (xe_la as).length ≤ xe_ml y ∧ ∃ F, xe_run (xe_ex d) y F 0 (xe_l0 (xe_ml y) as) [] h = some r)
theorem xe_run_mono (call : Nat → List Value → xe_H → Option xe_A) (y : Nat) : ∀ (F G pc : Nat) (ls st : List Value) (h : xe_H) (r : xe_A), F ≤ G → xe_run call y F pc ls st h = some r → xe_run call y G pc ls st h = some r := by
  intro F
  induction F with
  | zero => intro G pc ls st h r _ e; simp [xe_run] at e
  | succ F ih =>
    intro G pc ls st h r hG e
    obtain ⟨G', rfl⟩ : ∃ G', G = G' + 1 := ⟨G - 1, by omega⟩
    simp only [xe_run] at e ⊢
    cases hc : xe_code y pc with
    | none => rw [hc] at e; simp at e
    | some il =>
      obtain ⟨ins, len⟩ := il
      rw [hc] at e
      simp only at e ⊢
      cases ho : xe_one call y pc ins len ls st h with
      | none => rw [ho] at e; simp at e
      | some q =>
        rw [ho] at e
        cases q with
        | inl x => exact ih G' _ _ _ _ _ (by omega) e
        | inr a => exact e
theorem xe_ex_iff (d y : Nat) (as : List Value) (h : xe_H) (r : xe_A) : xe_ex (d + 1) y as h = some r ↔ ((xe_la as).length ≤ xe_ml y ∧ ∃ F, xe_run (xe_ex d) y F 0 (xe_l0 (xe_ml y) as) [] h = some r) := by
  show xe_pick _ = some r ↔ _
  constructor
  · intro e
    exact xe_pick_some e
  · intro e
    refine xe_pick_of e ?_
    intro q hq
    obtain ⟨-, F, e1⟩ := e
    obtain ⟨-, G, e2⟩ := hq
    have h1 := xe_run_mono _ y _ (max F G) _ _ _ _ _ (Nat.le_max_left _ _) e1
    have h2 := xe_run_mono _ y _ (max F G) _ _ _ _ _ (Nat.le_max_right _ _) e2
    rw [h1] at h2
    exact (Option.some.inj h2).symm
/-- from here on, the method comes to an answer of which Q holds -/
def xe_P (d y pc : Nat) (ls st : List Value) (h : xe_H) (Q : Option Value → xe_H → Prop) : Prop := ∃ (F : Nat) (r : xe_A), xe_run (xe_ex d) y F pc ls st h = some r ∧ Q r.1 r.2
/-- the method answers, and Q holds of it -/
def xe_C (d y : Nat) (as : List Value) (h : xe_H) (Q : Option Value → xe_H → Prop) : Prop := ∃ r : xe_A, xe_ex d y as h = some r ∧ Q r.1 r.2
theorem xe_C_iff (d y : Nat) (as : List Value) (h : xe_H) (Q : Option Value → xe_H → Prop) : xe_C (d + 1) y as h Q ↔ (xe_la as).length ≤ xe_ml y ∧ xe_P d y 0 (xe_l0 (xe_ml y) as) [] h Q := by
  unfold xe_C xe_P
  constructor
  · rintro ⟨r, e, q⟩
    obtain ⟨hl, F, e⟩ := (xe_ex_iff d y as h r).mp e
    exact ⟨hl, F, r, e, q⟩
  · rintro ⟨hl, F, r, e, q⟩
    exact ⟨r, (xe_ex_iff d y as h r).mpr ⟨hl, F, e⟩, q⟩
