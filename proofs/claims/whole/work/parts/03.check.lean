def sNm : Nat → String
  | 1 => "ABOVE"
  | 2 => "SIZE_BODIES"
  | _ => "MARK_BODIES"
def tyA : Nat → FieldType
  | 0 => .int
  | 1 => .long
  | 2 => .boolean
  | 3 => .object "HedgeGate$Row"
  | 4 => .object "HedgeGate$Hedge"
  | _ => .object "HedgeGate$Act"
/-! ===== a row of the tables against the real instruction ===== -/
def cndN : ClassFile.Cond → Nat
  | .eq => 0
  | .ne => 1
  | .lt => 2
  | .ge => 3
  | .gt => 4
  | .le => 5
def isTy (t : FieldType) : Nat := match t with
  | .int => 0
  | .boolean => 1
  | .long => 2
  | _ => 3
def fName (ci j : Nat) : String × String × String × Bool := ((CL.getD ci ("", T_0, 0)).2.1 j)
def fOk (o ps ci j idx : Nat) : Bool := decide (ci < 11) && decide (j < (CL.getD ci ("", T_0, 0)).2.2) && decide (lw_tbl[ps]? = some (.fieldLink (RR o) idx (fName ci j).1 (fName ci j).2.1 (fName ci j).2.2.1))
def Y (j : Nat) : MethodName := (MR j).1
def mOk (o ps j n nest idx : Nat) (nc : Int) : Bool := decide (j + 1 < nM) && decide (n = (MR j).2.2.2.2.2.1) && (if nc = 0 then decide (lw_tbl[ps]? = some (.methodLink (RR o) idx (Y j))) else decide (lw_tbl[ps]? = some (.methodLinkNest (RR o) idx (Y j) "HedgeGate"))) && decide (nest = 0 ∨ nc = 0)
def chk1 (M pc : Nat) (a : AIns) (ps : Nat) (ins : Instr) (len : Nat) : Bool :=
  match a with
  | (op, nx, i, j, c) => decide (nx = pc + len) &&
  (match op with
  | 0 => (match ins with
    | .iconst n => decide (n = c ∧ len = 1)
    | .bipush n => decide (n = c ∧ len = 2 ∧ (Int8.ofInt n).toInt32 = Int32.ofInt n)
    | .sipush n => decide (n = c ∧ len = 3 ∧ (Int16.ofInt n).toInt32 = Int32.ofInt n)
    | .ldc q => decide (len = 2 ∧ lw_tbl[ps]? = some (.constant (RR (MR M).2.2.2.2.1) q (Int32.ofInt c)))
    | .ldc_w q => decide (len = 3 ∧ lw_tbl[ps]? = some (.constant (RR (MR M).2.2.2.2.1) q (Int32.ofInt c)))
    | _ => false)
  | 1 => (match ins with
    | .iload_n f => decide (f.val = i ∧ len = 1)
    | .iload f => decide (f = i ∧ len = 2)
    | _ => false)
  | 2 => (match ins with
    | .aload_n f => decide (f.val = i ∧ len = 1)
    | .aload f => decide (f = i ∧ len = 2)
    | _ => false)
  | 3 => (match ins with
    | .lload_n f => decide (f.val = i ∧ len = 1)
    | .lload f => decide (f = i ∧ len = 2)
    | _ => false)
  | 4 => (match ins with
    | .istore_n f => decide (f.val = i ∧ len = 1)
    | .istore f => decide (f = i ∧ len = 2)
    | _ => false)
  | 5 => (match ins with
    | .astore_n f => decide (f.val = i ∧ len = 1)
    | .astore f => decide (f = i ∧ len = 2)
    | _ => false)
  | 6 => (match ins with
    | .lstore_n f => decide (f.val = i ∧ len = 1)
    | .lstore f => decide (f = i ∧ len = 2)
    | _ => false)
  | 7 => decide (ins = .iinc i c ∧ len = 3)
  | 8 => decide (ins = .iadd ∧ len = 1)
  | 9 => decide (ins = .isub ∧ len = 1)
  | 10 => decide (ins = .imul ∧ len = 1)
  | 11 => decide (ins = .iand ∧ len = 1)
  | 12 => decide (ins = .ior ∧ len = 1)
  | 13 => decide (ins = .ixor ∧ len = 1)
  | 14 => decide (ins = .ishl ∧ len = 1)
  | 15 => decide (ins = .ishr ∧ len = 1)
  | 16 => decide (ins = .iushr ∧ len = 1)
  | 17 => decide (ins = .idiv ∧ len = 1)
  | 18 => decide (ins = .irem ∧ len = 1)
  | 19 => decide (ins = .ineg ∧ len = 1)
  | 20 => decide (ins = .i2b ∧ len = 1)
  | 21 => decide (ins = .i2s ∧ len = 1)
  | 22 => decide (ins = .i2l ∧ len = 1)
  | 23 => decide (ins = .l2i ∧ len = 1)
  | 25 => decide (ins = .ladd ∧ len = 1)
  | 26 => decide (ins = .lmul ∧ len = 1)
  | 27 => decide (ins = .lor ∧ len = 1)
  | 28 => decide (ins = .lshl ∧ len = 1)
  | 29 => decide (ins = .lushr ∧ len = 1)
  | 30 => decide (ins = .lcmp ∧ len = 1)
  | 31 => decide (ins = .dup ∧ len = 1)
  | 32 => decide (ins = .dup2 ∧ len = 1)
  | 44 => decide (ins = .iaload ∧ len = 1)
  | 45 => decide (ins = .iastore ∧ len = 1)
  | 46 => decide (ins = .baload ∧ len = 1)
  | 47 => decide (ins = .bastore ∧ len = 1)
  | 48 => decide (ins = .laload ∧ len = 1)
  | 49 => decide (ins = .lastore ∧ len = 1)
  | 50 => decide (ins = .aaload ∧ len = 1)
  | 51 => decide (ins = .arraylength ∧ len = 1)
  | 24 => (match ins with
    | .lconst f => decide (c = (f.val : Int) ∧ len = 1)
    | .ldc2_w q => decide (len = 3 ∧ lw_tbl[ps]? = some (.constantLong (RR (MR M).2.2.2.2.1) q (Int64.ofInt c)))
    | _ => false)
  | 33 => (match ins with
    | .ifCond b off => decide (cndN b = j ∧ (pc : Int) + off = (i : Int) ∧ len = 3)
    | _ => false)
  | 34 => (match ins with
    | .if_icmp b off => decide (cndN b = j ∧ (pc : Int) + off = (i : Int) ∧ len = 3)
    | _ => false)
  | 35 => (match ins with
    | .goto off => decide ((pc : Int) + off = (i : Int) ∧ len = 3)
    | _ => false)
  | 36 => (match ins, SWL[i]? with
    | .tableswitch df lo hi offs, some (lo2, ts, d) => decide (lo2 = lo ∧ hi + 1 = lo + ts.length ∧ (pc : Int) + df = (d : Int) ∧ offs.toList.map (fun o => (pc : Int) + o) = ts.map (fun (t : Nat) => (t : Int)))
    | _, _ => false)
  | 37 => (match ins with
    | .getfield q => decide (len = 3) && fOk (MR M).2.2.2.2.1 ps i j q && decide (isTy (TYF i j) < 2)
    | _ => false)
  | 38 => (match ins with
    | .getfield q => decide (len = 3) && fOk (MR M).2.2.2.2.1 ps i j q && decide (isTy (TYF i j) = 2)
    | _ => false)
  | 39 => (match ins with
    | .getfield q => decide (len = 3) && fOk (MR M).2.2.2.2.1 ps i j q && decide (isTy (TYF i j) = 3)
    | _ => false)
  | 40 => (match ins with
    | .putfield q => decide (len = 3) && fOk (MR M).2.2.2.2.1 ps i j q && decide (TYF i j = .int) && decide ((fName i j).2.2.2 = false)
    | _ => false)
  | 41 => (match ins with
    | .putfield q => decide (len = 3) && fOk (MR M).2.2.2.2.1 ps i j q && decide (TYF i j = .boolean) && decide ((fName i j).2.2.2 = false)
    | _ => false)
  | 42 => (match ins with
    | .putfield q => decide (len = 3) && fOk (MR M).2.2.2.2.1 ps i j q && decide (TYF i j = .long) && decide ((fName i j).2.2.2 = false)
    | _ => false)
  | 43 => (match ins with
    | .getstatic q => decide (len = 3 ∧ 0 < i ∧ i < 4) && (if j = 0 then decide (lw_tbl[ps]? = some (.fieldLink (RR (MR M).2.2.2.2.1) q "HedgeGate" (sNm i) "[I")) else decide (lw_tbl[ps]? = some (.fieldLinkNest (RR (MR M).2.2.2.2.1) q "HedgeGate" (sNm i) "[I" "HedgeGate")))
    | _ => false)
  | 52 => (match ins with
    | .invokestatic q => decide (len = 3) && mOk (MR M).2.2.2.2.1 ps i j 0 q c && decide ((MR i).2.2.2.2.2.2.1 = 0)
    | _ => false)
  | 53 => (match ins with
    | .invokevirtual q => decide (len = 3) && mOk (MR M).2.2.2.2.1 ps i j 1 q c && decide ((MR i).2.2.2.2.2.2.1 = 1)
    | _ => false)
  | 54 => (match ins with
    | .invokestatic q => decide (len = 3) && decide (lw_tbl[ps]? = some (.methodLink (RR (MR M).2.2.2.2.1) q arraycopyName))
    | _ => false)
  | 55 => decide (ins = .ireturn ∧ len = 1 ∧ (MR M).2.2.2.1 = some .int)
  | 56 => decide (ins = .ireturn ∧ len = 1 ∧ (MR M).2.2.2.1 = some .boolean)
  | 57 => decide (ins = .return_ ∧ len = 1 ∧ (MR M).2.2.2.1 = none)
  | 58 => (match ins with
    | .new q => decide (len = 3 ∧ i < 11 ∧ lw_tbl[ps]? = some (.classLink (RR (MR M).2.2.2.2.1) q (RR i)))
    | _ => false)
  | 59 => (match ins with
    | .newarray t => decide (len = 2 ∧ i < 3 ∧ newarray.typeOf t = tyA i)
    | _ => false)
  | 60 => (match ins with
    | .anewarray q => decide (len = 3 ∧ 3 ≤ i ∧ i < 6 ∧ some (tyA i) = (match lw_tbl[ps]? with | some (.classLink o q2 n) => if o = RR (MR M).2.2.2.2.1 ∧ q2 = q then some (.object n) else none | _ => none))
    | _ => false)
  | 61 => (match ins with
    | .putfield q => decide (len = 3) && fOk (MR M).2.2.2.2.1 ps i j q && decide (isTy (TYF i j) = 3) && decide ((fName i j).2.2.2 = true) && decide ((MR M).1.name = "<init>") && decide ((MR M).2.2.2.2.1 = i)
    | _ => false)
  | 62 => decide (ins = .aastore ∧ len = 1)
  | 63 => (match ins with
    | .invokespecial q => decide (len = 3) && mOk (MR M).2.2.2.2.1 ps i j 0 q c && decide ((MR i).2.2.2.2.2.2.1 = 2)
    | _ => false)
  | 64 => (match ins with
    | .invokespecial q => decide (len = 3) && decide (lw_tbl[ps]? = some (.methodLink (RR (MR M).2.2.2.2.1) q objectInit))
    | _ => false)
  | 65 => (match ins with
    | .invokestatic q => decide (len = 3) && decide (lw_tbl[ps]? = some (.methodLink (RR (MR M).2.2.2.2.1) q Lib.Math.max.name))
    | _ => false)
  | 66 => (match ins with
    | .invokestatic q => decide (len = 3) && decide (lw_tbl[ps]? = some (.methodLink (RR (MR M).2.2.2.2.1) q Lib.Math.min.name))
    | _ => false)
  | _ => false)
def chkR (M : Nat) (r : PRow) : Bool := match decode (MR M).2.1 r.1 with
  | .ok (ins, len) => chk1 M r.1 r.2.1 r.2.2 ins len
  | _ => false
def chkM (M : Nat) : Bool := (PG M).all (chkR M)
