/-! what each instruction of the small machine is in the real code -/
def n_tell : MethodName := ⟨"BrideDoors$Text", "tellAnew", "()V"⟩
def n_tb : List Cond := Cond.selects "BrideDoors$BrideText" n_tell n_tell :: Cond.selects "BrideDoors$HouseText" n_tell n_tell :: lw_tbl
def n_tg : List Cond := n_tb.filter goodWord
def n_y (m : Nat) : MethodName := n_ys.getD m ⟨"", "", ""⟩
def n_c (m : Nat) : ByteArray := n_cs.getD m ⟨#[]⟩
def n_r (m : Nat) : Option FieldType := n_rs.getD m none
def n_fr (m : Nat) : Nat := n_frs.getD m 0
def n_lo (m : Nat) : Nat := n_los.getD m 0
def n_lb (m l : Nat) : Nat := (n_lbs.getD m []).getD l 0
def n_own (m : Nat) : String := (n_y m).cls
def n_kd (i : Nat) : Nat := n_kds.getD i 0
def n_ci (i : Nat) : Nat := n_cis.getD i 9
/-- by a tag: its fields -/
def n_T (t : Nat) : u_T := if t = 5 then TX0 else if t = 6 then TX2 else if t = 7 then TX3 else if t = 8 then TX5 else if t = 9 then TX6 else TX7
def n_N (t : Nat) : Nat := if t = 8 then 10 else if t = 9 then 13 else if t = 10 then 30 else 4
def n_C (t : Nat) : String := if t = 6 then RX2 else if t = 7 then RX3 else if t = 8 then RX5 else if t = 9 then RX6 else if t = 10 then RX7 else "?"
def n_dt (d : String) : Nat := if d = "I" then 0 else if d = "Z" then 1 else if d = "[I" then 2 else if d = "[[I" then 3 else if d = "[LBrideDoors$Sheet;" then 4 else if d = "LBrideDoors$Text;" then 5 else if d = "LBrideDoors$Sheet;" then 6 else if d = "LBrideDoors$Table;" then 7 else 8
def n_cond (c : Int) : Jvm.ClassFile.Cond := if c = 0 then .eq else if c = 1 then .ne else if c = 2 then .lt else if c = 3 then .ge else if c = 4 then .gt else .le
def n_off (m pc l : Nat) : Int := (n_lb m l : Int) - (pc : Int)
def n_pad (pc : Nat) : Nat := 3 - pc % 4
def n_prs (m pc : Nat) : List Nat → List (Int × Int)
  | k :: l :: r => ((k : Int), n_off m pc l) :: n_prs m pc r
  | _ => []
def n_e0 (e : List Nat) : Nat := e.getD 0 0
def k_enc (m pc : Nat) (i : MIns) : Instr × Nat :=
  match i with
  | (op, n, c, e) => match op with
    | 0 => if n = 0 then (.iconst c, 1) else if n = 1 then (.bipush c, 2) else if n = 2 then (.sipush c, 3) else if n = 3 then (.ldc (n_e0 e), 2) else (.ldc_w (n_e0 e), 3)
    | 1 => if n = 0 then (.lconst (if c = 0 then 0 else 1), 1) else (.ldc2_w (n_e0 e), 3)
    | 2 => if n < 4 then (.iload_n (Fin.ofNat 4 n), 1) else (.iload n, 2)
    | 3 => if n < 4 then (.lload_n (Fin.ofNat 4 n), 1) else (.lload n, 2)
    | 4 => if n < 4 then (.aload_n (Fin.ofNat 4 n), 1) else (.aload n, 2)
    | 5 => if n < 4 then (.istore_n (Fin.ofNat 4 n), 1) else (.istore n, 2)
    | 6 => if n < 4 then (.lstore_n (Fin.ofNat 4 n), 1) else (.lstore n, 2)
    | 7 => if n < 4 then (.astore_n (Fin.ofNat 4 n), 1) else (.astore n, 2)
    | 8 => (.iinc n c, 3)
    | 9 => if n = 0 then (.iadd, 1) else if n = 1 then (.isub, 1) else if n = 2 then (.imul, 1) else if n = 3 then (.iand, 1) else if n = 4 then (.ior, 1) else if n = 5 then (.ishl, 1) else if n = 6 then (.ishr, 1) else (.iushr, 1)
    | 10 => if n = 0 then (.idiv, 1) else (.irem, 1)
    | 11 => if n = 0 then (.ladd, 1) else if n = 1 then (.lsub, 1) else (.lmul, 1)
    | 12 => if n = 0 then (.ldiv, 1) else (.lrem, 1)
    | 13 => (.lshl, 1)
    | 14 => if n = 0 then (.i2b, 1) else if n = 1 then (.i2s, 1) else (.i2c, 1)
    | 15 => (.i2l, 1)
    | 16 => (.lcmp, 1)
    | 17 => (.dup, 1)
    | 18 => (.pop, 1)
    | 19 => (.dup2, 1)
    | 20 => (.ifCond (n_cond c) (n_off m pc n), 3)
    | 21 => (.if_icmp (n_cond c) (n_off m pc n), 3)
    | 22 => if c = 0 then (.ifnull (n_off m pc n), 3) else (.ifnonnull (n_off m pc n), 3)
    | 23 => (.goto (n_off m pc n), 3)
    | 25 => (.tableswitch (n_off m pc n) c (c + e.length - 1) (e.map (n_off m pc)).toArray, 13 + n_pad pc + 4 * e.length)
    | 26 => (.lookupswitch (n_off m pc n) (n_prs m pc e).toArray, 9 + n_pad pc + 8 * (n_prs m pc e).length)
    | 27 => (.getfield (n_e0 e), 3)
    | 28 => (.getfield (n_e0 e), 3)
    | 29 => (.putfield (n_e0 e), 3)
    | 30 => (.getstatic (n_e0 e), 3)
    | 31 => (.iaload, 1)
    | 32 => (.iastore, 1)
    | 33 => (.arraylength, 1)
    | 34 => (.aaload, 1)
    | 35 => (.baload, 1)
    | 36 => (.invokestatic (n_e0 e), 3)
    | 37 => (.invokevirtual (n_e0 e), 3)
    | 38 => (.invokevirtual (n_e0 e), 3)
    | 39 => (.invokevirtual (n_e0 e), 3)
    | 40 => (.invokestatic (n_e0 e), 3)
    | 41 => (.ireturn, 1)
    | 42 => (.lreturn, 1)
    | 43 => (.areturn, 1)
    | 44 => (.return_, 1)
    | 45 => (.aconst_null, 1)
    | 46 => (.ldc (n_e0 e), 2)
    | 47 => (.getfield (n_e0 e), 3)
    | 48 => (.invokevirtual (n_e0 e), 3)
    | 50 => (.invokestatic (n_e0 e), 3)
    | 51 => (.invokestatic (n_e0 e), 3)
    | _ => (.nop, 0)
/-- a word of the tables at its place -/
def n_at (p : Nat) (w : Cond) : Bool := decide (n_tb[p]? = some w) && goodWord w
def n_s32 (c : Int) : Bool := decide (-2147483648 ≤ c) && decide (c < 2147483648)
def n_s64 (c : Int) : Bool := decide (-9223372036854775808 ≤ c) && decide (c < 9223372036854775808)
/-- what a call asks beside its link: the callee's words, its room in the caller's -/
def n_np (z : Nat) (n : Int) : Bool := decide ((parseMethodDescriptor (n_y z).desc).map (fun d => d.parameters.length) = some n.toNat) && decide (0 ≤ n)
def n_cal (m z : Nat) (n : Int) : Bool :=
  n_at (n_pcs.getD z 0) (.code (n_y z) (n_c z) (m_mx z) (n_r z)) && n_at (n_pii.getD z 0) (.initialized (n_y z).cls) && n_np z n
  && decide (n_fr z + 1 ≤ n_fr m) && decide (8 + (m_mx z + 11) + n_lo z ≤ n_lo m) && plainName (n_y z).cls && decide ((n_y z).cls ≠ "java/lang/invoke/MethodHandle") && decide ((n_y z).cls ≠ "java/lang/invoke/VarHandle")
def n_nest (m idx z : Nat) : Bool :=
  decide ((n_own m, idx, n_y z) ∈ ([("BrideDoors$Text", 46, ⟨"BrideDoors", "placeAmong", "(ICI)I"⟩), ("BrideDoors$BrideText", 9, ⟨"BrideDoors", "placeAmong", "(ICI)I"⟩), ("BrideDoors$BrideText", 13, ⟨"BrideDoors", "heightOfSign", "(I)I"⟩), ("BrideDoors$HouseText", 17, ⟨"BrideDoors", "heightOfSign", "(I)I"⟩), ("BrideDoors$Table", 24, ⟨"BrideDoors", "isBelow", "(II)Z"⟩), ("BrideDoors$World", 53, ⟨"BrideDoors", "isSet", "(II)Z"⟩), ("BrideDoors$Sheet", 32, ⟨"BrideDoors", "isBelow", "(II)Z"⟩)] : List (String × Nat × MethodName)))
def n_fld (m : Nat) (c : Int) (t pl idx : Nat) : Bool := decide (0 ≤ c) && decide (c < n_N t) && decide (5 ≤ t) && decide (t ≤ 10) && n_at pl (.fieldLink (n_own m) idx (n_T t c.toNat).1 (n_T t c.toNat).2.1 (n_T t c.toNat).2.2.1)
def n_txt (m z idx pl : Nat) (x : MethodName) : Bool :=
  n_at pl (.methodLink (n_own m) idx x) && n_at (n_pin.getD z 0) (.instanceMethod (n_y z)) && decide (x.cls = "BrideDoors$Text")
def k_sd (m : Nat) (i : MIns) : Bool :=
  match i with
  | (op, n, c, e) => match op with
    | 0 => n_s32 c && (if n = 0 then true else if n = 1 then decide ((Int8.ofInt c).toInt32 = Int32.ofInt c) else if n = 2 then decide ((Int16.ofInt c).toInt32 = Int32.ofInt c) else n_at (e.getD 1 0) (.constant (n_own m) (n_e0 e) (Int32.ofInt c)))
    | 1 => n_s64 c && (if n = 0 then decide (c = 0 ∨ c = 1) else n_at (e.getD 1 0) (.constantLong (n_own m) (n_e0 e) (Int64.ofInt c)))
    | 5 => decide (n < m_mx m)
    | 6 => decide (n + 1 < m_mx m)
    | 7 => decide (n < m_mx m)
    | 8 => decide (n < m_mx m) && n_s32 c
    | 20 => decide (0 ≤ c) && decide (c < 6)
    | 21 => decide (0 ≤ c) && decide (c < 6)
    | 22 => decide (c = 0 ∨ c = 1)
    | 25 => n_s32 c && n_s32 (c + e.length)
    | 26 => (((n_prs m 0 e).zip ((n_prs m 0 e).drop 1)).all (fun (a, next) => a.1 < next.1))
    | 27 => match e with
      | [idx, t, rt, pl] => n_fld m c t pl idx && decide ((n_T t c.toNat).2.2.2 = false) && decide (rt = (if n_dt (n_T t c.toNat).2.2.1 = 1 then 0 else n_dt (n_T t c.toNat).2.2.1))
      | _ => false
    | 28 => match e with
      | [idx, t, rt, pl] => n_fld m c t pl idx && decide ((n_T t c.toNat).2.2.2 = true) && decide (rt = (if n_dt (n_T t c.toNat).2.2.1 = 1 then 0 else n_dt (n_T t c.toNat).2.2.1))
      | _ => false
    | 29 => match e with
      | [idx, t, vt, pl] => n_fld m c t pl idx && decide ((n_T t c.toNat).2.2.2 = false) && decide (vt = n_dt (n_T t c.toNat).2.2.1)
      | _ => false
    | 30 => if n = 0 then n_at (e.getD 1 0) (.fieldLink (n_own m) (n_e0 e) "BrideDoors" "HOUSE_YEARS" "[I") else if n = 1 then n_at (e.getD 1 0) (.fieldLink (n_own m) (n_e0 e) "BrideDoors" "DOOR_YEARS" "[I") else decide (n = 2) && n_at (e.getD 1 0) (.fieldLink (n_own m) (n_e0 e) "java/lang/String" "COMPACT_STRINGS" "Z")
    | 36 => match e with
      | [idx, pl, nest] => n_cal m n c && n_at (n_pst.getD n 0) (.static (n_y n)) && (if nest = 0 then n_at pl (.methodLink (n_own m) idx (n_y n)) else n_nest m idx n)
      | _ => false
    | 37 => match e with
      | [idx, pl, t] => n_cal m n c && n_at (n_pin.getD n 0) (.instanceMethod (n_y n)) && n_at (n_pse.getD n 0) (.selects (n_y n).cls (n_y n) (n_y n)) && n_at pl (.methodLink (n_own m) idx (n_y n)) && decide ((n_y n).cls = n_C t) && decide (6 ≤ t) && decide (t ≤ 10)
      | _ => false
    | 38 => match e with
      | [idx, pl] => n_cal m n c && n_txt m n idx pl (n_y n) && (n_tb.contains (.sameMethod "BrideDoors$Text" "BrideDoors$Text" (n_y n).name (n_y n).desc)) && (n_tb.contains (.selects "BrideDoors$BrideText" (n_y n) (n_y n))) && (n_tb.contains (.selects "BrideDoors$HouseText" (n_y n) (n_y n))) && decide ((n_y n).cls = "BrideDoors$Text")
      | _ => false
    | 39 => match e with
      | [idx, pl, h, b] => n_cal m h 2 && n_cal m b 2 && decide (c = 2) && n_at pl (.methodLink (n_own m) idx ⟨"BrideDoors$Text", "valueOf", "(II)I"⟩) && decide (n_y h = ⟨"BrideDoors$HouseText", "valueOf", "(II)I"⟩) && decide (n_y b = ⟨"BrideDoors$BrideText", "valueOf", "(II)I"⟩)
      | _ => false
    | 40 => match e with
      | [idx, pl] => n_at pl (.methodLink (n_own m) idx ⟨"java/lang/System", "arraycopy", "(Ljava/lang/Object;ILjava/lang/Object;II)V"⟩) && decide (1 ≤ n_fr m) && decide (60 ≤ n_lo m)
      | _ => false
    | 41 => if n = 0 then decide (n_r m = some .int) else decide (n_r m = some .boolean ∨ n_r m = some .byte)
    | 42 => decide (n_r m = some .long)
    | 43 => match n_r m with
      | some (.object _) => true
      | _ => false
    | 44 => decide (n_r m = none)
    | 46 => decide (n_e0 e = 9) && decide (n_own m = "BrideDoors$HouseText")
    | 47 => if n = 0 then n_at (e.getD 1 0) (.fieldLink (n_own m) (n_e0 e) "java/lang/String" "value" "[B") else decide (n = 1) && n_at (e.getD 1 0) (.fieldLink (n_own m) (n_e0 e) "java/lang/String" "coder" "B")
    | 48 => match e with
      | [idx, pl] => n_cal m n c && n_at (n_pin.getD n 0) (.instanceMethod (n_y n)) && n_at (n_pse.getD n 0) (.selects (n_y n).cls (n_y n) (n_y n)) && n_at pl (.methodLink (n_own m) idx (n_y n)) && decide ((n_y n).cls = "java/lang/String")
      | _ => false
    | 49 => false
    | 50 => match e with
      | [idx, pl] => n_at pl (.methodLink (n_own m) idx Lib.Math.max.name) && decide (1 ≤ n_fr m) && decide (21 ≤ n_lo m)
      | _ => false
    | 51 => match e with
      | [idx, pl] => n_at pl (.methodLink (n_own m) idx Lib.Math.min.name) && decide (1 ≤ n_fr m) && decide (21 ≤ n_lo m)
      | _ => false
    | _ => true
def k_chk (m pc : Nat) (i : MIns) : Bool := decide (decode (n_c m) pc = .ok (k_enc m pc i)) && k_sd m i
def k_end (op : Nat) : Bool := op == 23 || op == 25 || op == 26 || (41 ≤ op && op ≤ 44)
/-- an instruction that is never come to: the code goes on unchecked behind it -/
def k_fit (m : Nat) : Nat → List MIns → Bool
  | _, [] => false
  | pc, i :: is => if i.1 = 24 then decide (n_lb m i.2.1 = pc) else if i.1 = 49 then true else k_chk m pc i && (k_end i.1 || k_fit m (pc + (k_enc m pc i).2) is)
def k_all (m : Nat) : Bool := (List.range (m_prog.getD m []).length).all (fun l => k_fit m (n_lb m l) (m_bl m l))
