abbrev mx_MC : Type := (Nat × List Value) ⊕ (FieldType × Nat × (Nat → Value))
abbrev mx_MH : Type := (Nat × Nat) × (Nat → Option mx_MC)
abbrev mx_Lo : Type := List (Option Value)
def mx_up {α : Type} (f : Nat → α) (a : Nat) (c : α) : Nat → α := fun b => if b = a then c else f b
def mx_set (h : mx_MH) (a : Nat) (c : mx_MC) : mx_MH := (h.1, mx_up h.2 a (some c))
def mx_new (h : mx_MH) (len : Nat) (c : mx_MC) : mx_MH := ((h.1.1 + 1, h.1.2 + len), mx_up h.2 h.1.1 (some c))
abbrev mx_E : Type := Unit ⊕ ((Nat × mx_MC) ⊕ (Nat × mx_MC))
def mx_ap (e : mx_E) (h : mx_MH) : mx_MH := match e with
  | .inl _ => h
  | .inr (.inl (a, c)) => mx_set h a c
  | .inr (.inr (n, c)) => mx_new h n c
abbrev mx_SR : Type := (Nat × mx_Lo × List Value × mx_E) ⊕ ((Nat × List Value × Nat × mx_Lo × List Value) ⊕ Option Value)
def mx_go (pc : Nat) (ls : mx_Lo) (st : List Value) : Option mx_SR := some (.inl (pc, ls, st, .inl ()))
def mx_jmp (pc : Nat) (off : Int) (ls : mx_Lo) (st : List Value) : Option mx_SR := if (0 : Int) ≤ (pc : Int) + off then mx_go ((pc : Int) + off).toNat ls st else none
def mx_br (b : Bool) (pc : Nat) (off : Int) (ls : mx_Lo) (st : List Value) : Option mx_SR := if (0 : Int) ≤ (pc : Int) + off then (if b = true then mx_go ((pc : Int) + off).toNat ls st else mx_go (pc + 3) ls st) else none
def mx_cmp (c : Jvm.ClassFile.Cond) (x y : Int32) : Bool := match c with
  | .eq => decide (x = y)
  | .ne => decide (x ≠ y)
  | .lt => decide (x < y)
  | .ge => decide (y ≤ x)
  | .gt => decide (y < x)
  | .le => decide (x ≤ y)
def mx_in (j : Int32) (n : Nat) : Bool := decide (¬ (j < 0 ∨ n ≤ j.toNatClampNeg))
def mx_c1 (v : Value) : Bool := match v with
  | .int _ => true
  | .ref _ => true
  | .null => true
  | .retAddr _ => true
  | _ => false
def mx_iref (v : Value) : Bool := match v with
  | .ref _ => true
  | .null => true
  | _ => false
def mx_nar (ty : FieldType) (x : Int32) : Int32 := match narrow ty (.int x) with
  | .int y => y
  | _ => x
/-- an array cell at a -/
def mx_arr (h : mx_MH) (a : Nat) : Option (FieldType × Nat × (Nat → Value)) := match h.2 a with
  | some (.inr q) => some q
  | _ => none
def mx_obj (h : mx_MH) (a : Nat) : Option (Nat × List Value) := match h.2 a with
  | some (.inl q) => some q
  | _ => none
def mx_ld (t : FieldType) (st : List Value) (pc : Nat) (ls : mx_Lo) (h : mx_MH) : Option mx_SR := match st with
  | .int j :: .ref a :: r => match mx_arr h a with
    | some (ty, n, V) => if ty = t ∧ mx_in j n = true then mx_go (pc + 1) ls (V j.toNatClampNeg :: r) else none
    | none => none
  | _ => none
def mx_put (pc : Nat) (ls : mx_Lo) (r : List Value) (a : Nat) (c : mx_MC) : Option mx_SR := if 17 ≤ a then some (.inl (pc, ls, r, .inr (.inl (a, c)))) else none
def mx_stI (t : FieldType) (st : List Value) (pc : Nat) (ls : mx_Lo) (h : mx_MH) : Option mx_SR := match st with
  | .int x :: .int j :: .ref a :: r => match mx_arr h a with
    | some (ty, n, V) => if ty = t ∧ mx_in j n = true then mx_put (pc + 1) ls r a (.inr (ty, n, mx_up V j.toNatClampNeg (.int (mx_nar t x)))) else none
    | none => none
  | _ => none
def mx_stF (st : List Value) (pc : Nat) (ls : mx_Lo) (h : mx_MH) : Option mx_SR := match st with
  | .float x :: .int j :: .ref a :: r => match mx_arr h a with
    | some (ty, n, V) => if ty = .float ∧ mx_in j n = true then mx_put (pc + 1) ls r a (.inr (ty, n, mx_up V j.toNatClampNeg (.float x))) else none
    | none => none
  | _ => none
/-- may a cell of the kind ci stand in a row of the class C: by the tables -/
def mx_cast (ci : Nat) (C : String) : Bool := match tb_cl[ci]? with
  | some r => r.1 == C || (C == "NineSail$Kind" && (ci == 2 || ci == 3 || ci == 4 || ci == 7 || ci == 9))
  | none => false
def mx_aa (st : List Value) (pc : Nat) (ls : mx_Lo) (h : mx_MH) : Option mx_SR := match st with
  | .int j :: .ref a :: r => match mx_arr h a with
    | some (.object _, n, V) => if mx_in j n = true then mx_go (pc + 1) ls (V j.toNatClampNeg :: r) else none
    | _ => none
  | _ => none
def mx_as (st : List Value) (pc : Nat) (ls : mx_Lo) (h : mx_MH) : Option mx_SR := match st with
  | .ref v :: .int j :: .ref a :: r => match mx_arr h a, mx_obj h v with
    | some (.object C, n, V), some (ci, _) => if mx_in j n = true ∧ mx_cast ci C = true ∧ 17 ≤ v then mx_put (pc + 1) ls r a (.inr (.object C, n, mx_up V j.toNatClampNeg (.ref v))) else none
    | _, _ => none
  | .null :: .int j :: .ref a :: r => match mx_arr h a with
    | some (.object C, n, V) => if mx_in j n = true then mx_put (pc + 1) ls r a (.inr (.object C, n, mx_up V j.toNatClampNeg .null)) else none
    | _ => none
  | _ => none
def mx_at (t : ArrayType) : Option FieldType := match t with
  | .int => some .int
  | .byte => some .byte
  | .short => some .short
  | .float => some .float
  | _ => none
def mx_cpy (f g : Nat → Value) (sp dp n : Nat) : Nat → Value := fun k => if dp ≤ k ∧ k < dp + n then f (sp + (k - dp)) else g k
/-- System.arraycopy -/
def mx_ac (st : List Value) (pc : Nat) (ls : mx_Lo) (h : mx_MH) : Option mx_SR := match st with
  | .int n :: .int dp :: .ref d :: .int sp :: .ref s :: r => match mx_arr h s, mx_arr h d with
    | some (t0, n0, f), some (t1, n1, g) => if t0 = t1 ∧ (t0 = .int ∨ t0 = .short ∨ t0 = .float) ∧ ¬ sp < 0 ∧ ¬ dp < 0 ∧ ¬ n < 0 ∧ sp.toNatClampNeg + n.toNatClampNeg ≤ n0 ∧ dp.toNatClampNeg + n.toNatClampNeg ≤ n1 ∧ r.length ≤ 4 ∧ (∀ i, i < n.toNatClampNeg → fits t0 (f (sp.toNatClampNeg + i)) = true) then mx_put (pc + 3) ls r d (.inr (t1, n1, mx_cpy f g sp.toNatClampNeg dp.toNatClampNeg n.toNatClampNeg)) else none
    | _, _ => none
  | _ => none
def mx_tcOk (tc : Nat) (v : Value) : Bool := match tc, v with
  | 0, .int _ => true
  | 1, .int x => x == 0 || x == 1
  | 2, .ref _ => true
  | 2, .null => true
  | _, _ => false
def mx_call (M : Nat) (As : List Value) (pc : Nat) (ls : mx_Lo) (r : List Value) : Option mx_SR := match tb_mt M with
  | some mi => if 0 < M ∧ r.length ≤ 4 ∧ As.all mx_c1 = true ∧ As.length ≤ mi.2.2.1 then some (.inr (.inl (M, As, pc, ls, r))) else none
  | none => none
def mx_ent (M : Nat) (As : List Value) : mx_Lo := As.map some ++ List.replicate (((tb_mt M).map (fun q => q.2.2.1)).getD 0 - As.length) none
def mx_bool (b : Bool) : Value := if b then .int 1 else .int 0
def mx_store (i pc : Nat) (v : Value) (ls : mx_Lo) (r : List Value) : Option mx_SR := if i < ls.length then mx_go pc (ls.set i (some v)) r else none
def mx_load (i pc : Nat) (ls : mx_Lo) (st : List Value) : Option mx_SR := match ls[i]? with
  | some (some v) => mx_go pc ls (v :: st)
  | _ => none
def mx_isI (v : Value) : Bool := match v with
  | .int _ => true
  | _ => false
def mx_loadI (i pc : Nat) (ls : mx_Lo) (st : List Value) : Option mx_SR := match ls[i]? with
  | some (some (.int x)) => mx_go pc ls (.int x :: st)
  | _ => none
def mx_loadA (i pc : Nat) (ls : mx_Lo) (st : List Value) : Option mx_SR := match ls[i]? with
  | some (some (.ref x)) => mx_go pc ls (.ref x :: st)
  | some (some .null) => mx_go pc ls (.null :: st)
  | _ => none
def mx_k (oc idx k : Nat) : Bool := k == oc * 4096 + idx && decide (idx < 4096)
def mx_ck (w : Nat) (v : Value) : Bool := match w, v with
  | 0, .int _ => true
  | 0, .float _ => true
  | 1, .int _ => true
  | 2, .long _ => true
  | _, _ => false
def mx_const (w oc idx pc : Nat) (ls : mx_Lo) (st : List Value) : Option mx_SR := match tb_C.find? (fun e => mx_k oc idx e.1) with
  | some e => if mx_ck w e.2.2 = true then mx_go pc ls (e.2.2 :: st) else none
  | none => none
def mx_gf (oc idx pc : Nat) (ls : mx_Lo) (st : List Value) (h : mx_MH) : Option mx_SR := match st with
  | .ref a :: r => match tb_F.find? (fun e => mx_k oc idx e.1), mx_obj h a with
    | some e, some (ci, fs) => if e.2.2.2.1.contains ci = true then (match fs[e.2.2.1]? with
      | some v => mx_go pc ls (v :: r)
      | none => none) else none
    | _, _ => none
  | _ => none
def mx_decl (ci k oc : Nat) : Bool := match tb_cl[ci]?, tb_cn[oc]? with
  | some r, some C => (r.2.1 k).1 == C
  | _, _ => false
def mx_pf (ini : Bool) (oc idx pc : Nat) (ls : mx_Lo) (st : List Value) (h : mx_MH) : Option mx_SR := match st with
  | v :: .ref a :: r => match tb_F.find? (fun e => mx_k oc idx e.1), mx_obj h a with
    | some e, some (ci, fs) => if e.2.2.2.1.contains ci = true ∧ mx_tcOk e.2.2.2.2.1 v = true ∧ (e.2.2.2.2.2 = true → ini = true ∧ mx_decl ci e.2.2.1 oc = true) ∧ e.2.2.1 < fs.length then mx_put pc ls r a (.inl (ci, fs.set e.2.2.1 v)) else none
    | _, _ => none
  | _ => none
def mx_dv (ci : Nat) : Option (Nat × List Value) := match tb_cl[ci]?, tb_tyl[ci]? with
  | some r, some t => some (r.2.2, (List.range r.2.2).map (fun k => defaultValue (t k)))
  | _, _ => none
def mx_newI (oc idx pc : Nat) (ls : mx_Lo) (st : List Value) (h : mx_MH) : Option mx_SR := match tb_N.find? (fun e => mx_k oc idx e.1) with
  | some e => match mx_dv e.2.2.1 with
    | some (n, fs) => some (.inl (pc, ls, .ref h.1.1 :: st, .inr (.inr (n, .inl (e.2.2.1, fs)))))
    | none => none
  | none => none
def mx_newA (oc idx pc : Nat) (ls : mx_Lo) (st : List Value) (h : mx_MH) : Option mx_SR := match st with
  | .int n :: r => match tb_A.find? (fun e => mx_k oc idx e.1) with
    | some e => if ¬ n < 0 ∧ n.toNatClampNeg ≤ 100000 then some (.inl (pc, ls, .ref h.1.1 :: r, .inr (.inr (n.toNatClampNeg, .inr (.object e.2.2.1, n.toNatClampNeg, fun _ => .null))))) else none
    | none => none
  | _ => none
def mx_newP (t : ArrayType) (pc : Nat) (ls : mx_Lo) (st : List Value) (h : mx_MH) : Option mx_SR := match st with
  | .int n :: r => match mx_at t with
    | some ty => if ¬ n < 0 ∧ n.toNatClampNeg ≤ 100000 then some (.inl (pc, ls, .ref h.1.1 :: r, .inr (.inr (n.toNatClampNeg, .inr (ty, n.toNatClampNeg, fun _ => defaultValue ty))))) else none
    | none => none
  | _ => none
def mx_iv (oc idx pc : Nat) (ls : mx_Lo) (st : List Value) (h : mx_MH) : Option mx_SR := match tb_V.find? (fun e => mx_k oc idx e.1) with
  | some e0 => match st.drop e0.2.2.2.2.1 with
    | .ref a :: r => match mx_obj h a with
      | some (ci, _) => match tb_V.find? (fun e => mx_k oc idx e.1 && e.2.1 == ci) with
        | some e => if e.2.2.2.2.1 = e0.2.2.2.2.1 then mx_call e.2.2.2.1 (.ref a :: (st.take e0.2.2.2.2.1).reverse) pc ls r else none
        | none => none
      | none => none
    | _ => none
  | none => none
def mx_math (op pc : Nat) (ls : mx_Lo) (st : List Value) : Option mx_SR := match op, st with
  | 0, .int y :: .int x :: r => if r.length ≤ 4 then mx_go pc ls (.int (if x < y then y else x) :: r) else none
  | 1, .int y :: .int x :: r => if r.length ≤ 4 then mx_go pc ls (.int (if y < x then y else x) :: r) else none
  | 2, .int x :: r => if r.length ≤ 4 then mx_go pc ls (.int (if 0 ≤ x then x else 0 - x) :: r) else none
  | _, _ => none
def mx_is (oc idx pc : Nat) (ls : mx_Lo) (st : List Value) (h : mx_MH) : Option mx_SR := match tb_P.find? (fun e => mx_k oc idx e.1) with
  | some _ => mx_ac st (pc - 3) ls h
  | none => match tb_Q.find? (fun e => mx_k oc idx e.1) with
    | some _ => (match st with
      | .long z :: .long y :: .long x :: r => if r.length ≤ 4 then mx_go pc ls (mx_bool (decide (y ≤ x) && decide (x ≤ z)) :: r) else none
      | _ => none)
    | none => match tb_Z.find? (fun e => mx_k oc idx e.1) with
     | some e => mx_math e.2.2 pc ls st
     | none => match tb_I.find? (fun e => mx_k oc idx e.1) with
      | some e => if e.2.2.2.1 ≤ st.length then mx_call e.2.2.1 (st.take e.2.2.2.1).reverse pc ls (st.drop e.2.2.2.1) else none
      | none => none
def mx_ip (oc idx pc : Nat) (ls : mx_Lo) (st : List Value) (h : mx_MH) : Option mx_SR := match tb_O.find? (fun e => mx_k oc idx e.1) with
  | some _ => (match st with
    | .ref _ :: r => if r.length ≤ 4 then mx_go pc ls r else none
    | _ => none)
  | none => match tb_K.find? (fun e => mx_k oc idx e.1) with
    | some e => (match st.drop e.2.2.2.1 with
      | .ref a :: r => mx_call e.2.2.1 (.ref a :: (st.take e.2.2.2.1).reverse) pc ls r
      | _ => none)
    | none => match tb_U.find? (fun e => mx_k oc idx e.1) with
      | some e => (match st.drop e.2.2.2.1 with
        | .ref a :: r => (match mx_obj h a with
          | some (ci, _) => if ci < 13 ∧ 17 ≤ a then mx_call e.2.2.1 (.ref a :: (st.take e.2.2.2.1).reverse) pc ls r else none
          | none => none)
        | _ => none)
      | none => none
def mx_sw (pc : Nat) (d lo hi : Int) (offs : Array Int) (x : Int32) (ls : mx_Lo) (r : List Value) : Option mx_SR :=
  if x.toInt < lo ∨ hi < x.toInt then mx_jmp pc d ls r else (match offs[(x.toInt - lo).toNat]? with
    | some off => mx_jmp pc off ls r
    | none => none)
def mx_I (ret : Option FieldType) (ini : Bool) (oc : Nat) (i : Instr) (pc : Nat) (ls : mx_Lo) (st : List Value) (h : mx_MH) : Option mx_SR := match i with
  | .iconst n => mx_go (pc + 1) ls (.int (Int32.ofInt n) :: st)
  | .bipush n => mx_go (pc + 2) ls (.int (Int8.ofInt n).toInt32 :: st)
  | .sipush n => mx_go (pc + 3) ls (.int (Int16.ofInt n).toInt32 :: st)
  | .lconst n => mx_go (pc + 1) ls (.long (Int64.ofNat (n : Nat)) :: st)
  | .fconst n => if (n : Nat) = 0 then mx_go (pc + 1) ls (.float FP.fconst0 :: st) else none
  | .aconst_null => mx_go (pc + 1) ls (.null :: st)
  | .ldc idx => (match tb_X.find? (fun e => mx_k oc idx e.1) with
    | some e => mx_go (pc + 2) ls (.ref e.2.2.2.2 :: st)
    | none => mx_const 0 oc idx (pc + 2) ls st)
  | .ldc_w idx => mx_const 1 oc idx (pc + 3) ls st
  | .ldc2_w idx => mx_const 2 oc idx (pc + 3) ls st
  | .iload k => mx_loadI k (pc + 2) ls st
  | .iload_n k => mx_loadI k (pc + 1) ls st
  | .aload k => mx_loadA k (pc + 2) ls st
  | .aload_n k => mx_loadA k (pc + 1) ls st
  | .istore k => (match st with
    | .int x :: r => mx_store k (pc + 2) (.int x) ls r
    | _ => none)
  | .istore_n k => (match st with
    | .int x :: r => mx_store k (pc + 1) (.int x) ls r
    | _ => none)
  | .astore k => (match st with
    | .ref x :: r => mx_store k (pc + 2) (.ref x) ls r
    | .null :: r => mx_store k (pc + 2) .null ls r
    | _ => none)
  | .astore_n k => (match st with
    | .ref x :: r => mx_store k (pc + 1) (.ref x) ls r
    | .null :: r => mx_store k (pc + 1) .null ls r
    | _ => none)
  | .iinc k n => (match ls[k]? with
    | some (some (.int x)) => mx_store k (pc + 3) (.int (x + Int32.ofInt n)) ls st
    | _ => none)
  | .iadd => (match st with
    | .int y :: .int x :: r => mx_go (pc + 1) ls (.int (x + y) :: r)
    | _ => none)
  | .isub => (match st with
    | .int y :: .int x :: r => mx_go (pc + 1) ls (.int (x - y) :: r)
    | _ => none)
  | .imul => (match st with
    | .int y :: .int x :: r => mx_go (pc + 1) ls (.int (x * y) :: r)
    | _ => none)
  | .idiv => (match st with
    | .int y :: .int x :: r => if y = 0 then none else mx_go (pc + 1) ls (.int (x / y) :: r)
    | _ => none)
  | .irem => (match st with
    | .int y :: .int x :: r => if y = 0 then none else mx_go (pc + 1) ls (.int (x - x / y * y) :: r)
    | _ => none)
  | .ineg => (match st with
    | .int x :: r => mx_go (pc + 1) ls (.int (-x) :: r)
    | _ => none)
  | .ishl => (match st with
    | .int y :: .int x :: r => mx_go (pc + 1) ls (.int (x <<< (y &&& 31)) :: r)
    | _ => none)
  | .ishr => (match st with
    | .int y :: .int x :: r => mx_go (pc + 1) ls (.int (x >>> (y &&& 31)) :: r)
    | _ => none)
  | .iushr => (match st with
    | .int y :: .int x :: r => mx_go (pc + 1) ls (.int ((x.toUInt32 >>> (y.toUInt32 &&& Int32.toUInt32 31)).toInt32) :: r)
    | _ => none)
  | .iand => (match st with
    | .int y :: .int x :: r => mx_go (pc + 1) ls (.int (x &&& y) :: r)
    | _ => none)
  | .ior => (match st with
    | .int y :: .int x :: r => mx_go (pc + 1) ls (.int (x ||| y) :: r)
    | _ => none)
  | .i2l => (match st with
    | .int x :: r => mx_go (pc + 1) ls (.long x.toInt64 :: r)
    | _ => none)
  | .i2b => (match st with
    | .int x :: r => mx_go (pc + 1) ls (.int x.toInt8.toInt32 :: r)
    | _ => none)
  | .i2s => (match st with
    | .int x :: r => mx_go (pc + 1) ls (.int x.toInt16.toInt32 :: r)
    | _ => none)
  | .i2c => (match st with
    | .int x :: r => mx_go (pc + 1) ls (.int (x.toUInt32 % 65536).toInt32 :: r)
    | _ => none)
  | .i2f => (match st with
    | .int x :: r => mx_go (pc + 1) ls (.float (FP.i2f x) :: r)
    | _ => none)
  | .f2i => (match st with
    | .float x :: r => mx_go (pc + 1) ls (.int (FP.f2i x) :: r)
    | _ => none)
  | .ladd => (match st with
    | .long y :: .long x :: r => mx_go (pc + 1) ls (.long (x + y) :: r)
    | _ => none)
  | .lcmp => (match st with
    | .long y :: .long x :: r => mx_go (pc + 1) ls (.int (lg_cmp x y) :: r)
    | _ => none)
  | .dup => (match st with
    | v :: r => if mx_c1 v = true then mx_go (pc + 1) ls (v :: v :: r) else none
    | _ => none)
  | .dup2 => (match st with
    | v :: u :: r => if mx_c1 v = true ∧ mx_c1 u = true then mx_go (pc + 1) ls (v :: u :: v :: u :: r) else none
    | _ => none)
  | .pop => (match st with
    | v :: r => if mx_c1 v = true then mx_go (pc + 1) ls r else none
    | _ => none)
  | .goto off => mx_jmp pc off ls st
  | .ifCond c off => (match st with
    | .int x :: r => mx_br (mx_cmp c x 0) pc off ls r
    | _ => none)
  | .if_icmp c off => (match st with
    | .int y :: .int x :: r => mx_br (mx_cmp c x y) pc off ls r
    | _ => none)
  | .ifnull off => (match st with
    | .ref _ :: r => mx_go (pc + 3) ls r
    | .null :: r => mx_jmp pc off ls r
    | _ => none)
  | .ifnonnull off => (match st with
    | .ref _ :: r => mx_jmp pc off ls r
    | .null :: r => mx_go (pc + 3) ls r
    | _ => none)
  | .tableswitch d lo hi offs => (match st with
    | .int x :: r => mx_sw pc d lo hi offs x ls r
    | _ => none)
  | .lookupswitch d ps => (match st with
    | .int x :: r => if (ps.toList.zip (ps.toList.drop 1)).all (fun (a, next) => a.1 < next.1) = true then mx_jmp pc (Op.lookupswitch.offset ps.toList d x.toInt) ls r else none
    | _ => none)
  | .getfield idx => mx_gf oc idx (pc + 3) ls st h
  | .putfield idx => mx_pf ini oc idx (pc + 3) ls st h
  | .getstatic idx => (match tb_S.find? (fun e => mx_k oc idx e.1) with
    | some e => (match tb_sv[e.2.2.1]? with
      | some q => mx_go (pc + 3) ls (q.2.2.2 :: st)
      | none => none)
    | none => none)
  | .iaload => mx_ld .int st pc ls h
  | .baload => mx_ld .byte st pc ls h
  | .saload => mx_ld .short st pc ls h
  | .faload => mx_ld .float st pc ls h
  | .aaload => mx_aa st pc ls h
  | .iastore => mx_stI .int st pc ls h
  | .bastore => mx_stI .byte st pc ls h
  | .sastore => mx_stI .short st pc ls h
  | .fastore => mx_stF st pc ls h
  | .aastore => mx_as st pc ls h
  | .arraylength => (match st with
    | .ref a :: r => (match mx_arr h a with
      | some (_, n, _) => mx_go (pc + 1) ls (.int (Int32.ofNat n) :: r)
      | none => none)
    | _ => none)
  | .newarray t => mx_newP t (pc + 2) ls st h
  | .anewarray idx => mx_newA oc idx (pc + 3) ls st h
  | .new idx => mx_newI oc idx (pc + 3) ls st h
  | .invokevirtual idx => mx_iv oc idx (pc + 3) ls st h
  | .invokestatic idx => mx_is oc idx (pc + 3) ls st h
  | .invokespecial idx => mx_ip oc idx (pc + 3) ls st h
  | .ireturn => (match st, ret with
    | [.int v], some ty => if narrow ty (.int v) = .int v then some (.inr (.inr (some (.int v)))) else none
    | _, _ => none)
  | .areturn => (match st, ret with
    | [v], some (.object _) => if mx_iref v = true then some (.inr (.inr (some v))) else none
    | [v], some (.array _) => if mx_iref v = true then some (.inr (.inr (some v))) else none
    | _, _ => none)
  | .return_ => (match st, ret with
    | [], none => some (.inr (.inr none))
    | _, _ => none)
  | _ => none
def mx_len (i : Instr) (n : Nat) : Bool := match i with
  | .bipush _ => n == 2
  | .ldc _ => n == 2
  | .iload _ => n == 2
  | .aload _ => n == 2
  | .istore _ => n == 2
  | .astore _ => n == 2
  | .newarray _ => n == 2
  | .sipush _ => n == 3
  | .ldc_w _ => n == 3
  | .ldc2_w _ => n == 3
  | .iinc _ _ => n == 3
  | .goto _ => n == 3
  | .ifCond _ _ => n == 3
  | .if_icmp _ _ => n == 3
  | .ifnull _ => n == 3
  | .ifnonnull _ => n == 3
  | .getfield _ => n == 3
  | .putfield _ => n == 3
  | .getstatic _ => n == 3
  | .anewarray _ => n == 3
  | .new _ => n == 3
  | .invokevirtual _ => n == 3
  | .invokestatic _ => n == 3
  | .invokespecial _ => n == 3
  | .tableswitch _ _ _ _ => true
  | .lookupswitch _ _ => true
  | _ => n == 1
def mx_step (M pc : Nat) (ls : mx_Lo) (st : List Value) (h : mx_MH) : Option mx_SR := match tb_mt M with
  | none => none
  | some mi => match decode mi.2.1 pc with
    | .error _ => none
    | .ok q => if mx_len q.1 q.2 = true then mx_I mi.2.2.2.1 (mi.1.name == "<init>") mi.2.2.2.2 q.1 pc ls st h else none
def mx_ex : Nat → Nat → Nat → Nat → mx_Lo → List Value → mx_MH → Option (Option Value × mx_MH)
  | 0, _, _, _, _, _, _ => none
  | n + 1, d, M, pc, ls, st, h => match mx_step M pc ls st h with
    | none => none
    | some (.inl (pc', ls', st', e)) => mx_ex n d M pc' ls' st' (mx_ap e h)
    | some (.inr (.inr v)) => some (v, h)
    | some (.inr (.inl (M', As, pc', ls', st'))) => match d with
      | 0 => none
      | d' + 1 => match mx_ex n d' M' 0 (mx_ent M' As) [] h with
        | none => none
        | some (v, h1) => mx_ex n (d' + 1) M pc' ls' (v.toList ++ st') h1
theorem mx_mono : ∀ (n d M pc : Nat) (ls : mx_Lo) (st : List Value) (h : mx_MH) (y : Option Value × mx_MH), mx_ex n d M pc ls st h = some y → ∀ n', n ≤ n' → mx_ex n' d M pc ls st h = some y
  | 0, _, _, _, _, _, _, _, he, _, _ => by simp [mx_ex] at he
  | n + 1, d, M, pc, ls, st, h, y, he, n', hn => by
    obtain ⟨k, rfl⟩ : ∃ k, n' = k + 1 := ⟨n' - 1, by omega⟩
    have hk : n ≤ k := by omega
    rw [mx_ex] at he ⊢
    cases hs : mx_step M pc ls st h with
    | none => rw [hs] at he; exact he
    | some q =>
      rw [hs] at he
      match q, he with
      | .inl (pc', ls', st', e), he => exact mx_mono n d M pc' ls' st' (mx_ap e h) y he k hk
      | .inr (.inr v), he => exact he
      | .inr (.inl (M', As, pc', ls', st')), he =>
        match d, he with
        | 0, he => exact he
        | d' + 1, he =>
          dsimp only at he ⊢
          cases hc : mx_ex n d' M' 0 (mx_ent M' As) [] h with
          | none => rw [hc] at he; simp at he
          | some z =>
            rw [hc] at he
            rw [mx_mono n d' M' 0 _ _ h z hc k hk]
            exact mx_mono n (d' + 1) M pc' ls' _ z.2 y he k hk
theorem mx_det {n n' d M pc : Nat} {ls : mx_Lo} {st : List Value} {h : mx_MH} {y y' : Option Value × mx_MH} (h1 : mx_ex n d M pc ls st h = some y) (h2 : mx_ex n' d M pc ls st h = some y') : y = y' := by
  have a := mx_mono n d M pc ls st h y h1 (n + n') (by omega)
  have b := mx_mono n' d M pc ls st h y' h2 (n + n') (by omega)
  exact Option.some.inj (a.symm.trans b)
noncomputable def mx_run (d M pc : Nat) (ls : mx_Lo) (st : List Value) (h : mx_MH) : Option (Option Value × mx_MH) :=
  Classical.epsilon (fun r => ∀ y, r = some y ↔ ∃ n, mx_ex n d M pc ls st h = some y)
theorem mx_run_iff (d M pc : Nat) (ls : mx_Lo) (st : List Value) (h : mx_MH) (y : Option Value × mx_MH) : mx_run d M pc ls st h = some y ↔ ∃ n, mx_ex n d M pc ls st h = some y := by
  have hx : ∃ r : Option (Option Value × mx_MH), ∀ y, r = some y ↔ ∃ n, mx_ex n d M pc ls st h = some y := by
    by_cases hh : ∃ (y : Option Value × mx_MH) (n : Nat), mx_ex n d M pc ls st h = some y
    · obtain ⟨y0, n0, h0⟩ := hh
      exact ⟨some y0, fun y => ⟨fun e => ⟨n0, by rw [h0, ← e]⟩, fun ⟨n, hn⟩ => by rw [mx_det h0 hn]⟩⟩
    · exact ⟨none, fun y => ⟨(fun e => nomatch e), fun ⟨n, hn⟩ => absurd ⟨y, n, hn⟩ hh⟩⟩
  exact Classical.epsilon_spec hx y
theorem mx_run_next {d M pc : Nat} {ls : mx_Lo} {st : List Value} {h : mx_MH} {pc' : Nat} {ls' : mx_Lo} {st' : List Value} {e : mx_E} (hs : mx_step M pc ls st h = some (.inl (pc', ls', st', e))) : mx_run d M pc ls st h = mx_run d M pc' ls' st' (mx_ap e h) := by
  apply Option.ext
  intro y
  rw [mx_run_iff, mx_run_iff]
  constructor
  · rintro ⟨n, hn⟩
    cases n with
    | zero => simp [mx_ex] at hn
    | succ n => rw [mx_ex, hs] at hn; exact ⟨n, hn⟩
  · rintro ⟨n, hn⟩
    exact ⟨n + 1, by rw [mx_ex, hs]; exact hn⟩
theorem mx_run_done {d M pc : Nat} {ls : mx_Lo} {st : List Value} {h : mx_MH} {v : Option Value} (hs : mx_step M pc ls st h = some (.inr (.inr v))) : mx_run d M pc ls st h = some (v, h) := by
  rw [mx_run_iff]
  exact ⟨1, by rw [mx_ex, hs]⟩
theorem mx_run_call {d M pc : Nat} {ls : mx_Lo} {st : List Value} {h : mx_MH} {M' : Nat} {As : List Value} {pc' : Nat} {ls' : mx_Lo} {st' : List Value} (hs : mx_step M pc ls st h = some (.inr (.inl (M', As, pc', ls', st')))) :
    mx_run (d + 1) M pc ls st h = (mx_run d M' 0 (mx_ent M' As) [] h).bind (fun y => mx_run (d + 1) M pc' ls' (y.1.toList ++ st') y.2) := by
  apply Option.ext
  intro y
  rw [mx_run_iff]
  constructor
  · rintro ⟨n, hn⟩
    cases n with
    | zero => simp [mx_ex] at hn
    | succ n =>
      rw [mx_ex, hs] at hn
      dsimp only at hn
      cases hc : mx_ex n d M' 0 (mx_ent M' As) [] h with
      | none => rw [hc] at hn; simp at hn
      | some z =>
        rw [hc] at hn
        rw [(mx_run_iff d M' 0 (mx_ent M' As) [] h z).mpr ⟨n, hc⟩]
        exact (mx_run_iff _ _ _ _ _ _ _).mpr ⟨n, hn⟩
  · intro hy
    cases hc : mx_run d M' 0 (mx_ent M' As) [] h with
    | none => rw [hc] at hy; simp at hy
    | some z =>
      rw [hc] at hy
      obtain ⟨n1, h1⟩ := (mx_run_iff _ _ _ _ _ _ _).mp hc
      obtain ⟨n2, h2⟩ := (mx_run_iff _ _ _ _ _ _ _).mp hy
      refine ⟨n1 + n2 + 1, ?_⟩
      rw [mx_ex, hs]
      dsimp only
      rw [mx_mono n1 _ _ _ _ _ _ _ h1 (n1 + n2) (by omega)]
      exact mx_mono n2 _ _ _ _ _ _ _ h2 (n1 + n2) (by omega)
theorem mx_ap_grow (e : mx_E) (h : mx_MH) : h.1.1 ≤ (mx_ap e h).1.1 ∧ h.1.2 ≤ (mx_ap e h).1.2 := by
  match e with
  | .inl _ => exact ⟨Nat.le_refl _, Nat.le_refl _⟩
  | .inr (.inl (a, c)) => exact ⟨Nat.le_refl _, Nat.le_refl _⟩
  | .inr (.inr (n, c)) => exact ⟨Nat.le_succ _, Nat.le_add_right _ _⟩
theorem mx_grow : ∀ (n d M pc : Nat) (ls : mx_Lo) (st : List Value) (h : mx_MH) (y : Option Value × mx_MH), mx_ex n d M pc ls st h = some y → h.1.1 ≤ y.2.1.1 ∧ h.1.2 ≤ y.2.1.2
  | 0, _, _, _, _, _, _, _, he => by simp [mx_ex] at he
  | n + 1, d, M, pc, ls, st, h, y, he => by
    rw [mx_ex] at he
    cases hs : mx_step M pc ls st h with
    | none => rw [hs] at he; simp at he
    | some q =>
      rw [hs] at he
      match q, he with
      | .inl (pc', ls', st', e), he =>
        have a := mx_grow n d M pc' ls' st' (mx_ap e h) y he
        have b := mx_ap_grow e h
        exact ⟨Nat.le_trans b.1 a.1, Nat.le_trans b.2 a.2⟩
      | .inr (.inr v), he =>
        cases he
        exact ⟨Nat.le_refl _, Nat.le_refl _⟩
      | .inr (.inl (M', As, pc', ls', st')), he =>
        match d, he with
        | 0, he => simp at he
        | d' + 1, he =>
          dsimp only at he
          cases hc : mx_ex n d' M' 0 (mx_ent M' As) [] h with
          | none => rw [hc] at he; simp at he
          | some z =>
            rw [hc] at he
            have a := mx_grow n d' M' 0 _ _ h z hc
            have b := mx_grow n (d' + 1) M pc' ls' _ z.2 y he
            exact ⟨Nat.le_trans a.1 b.1, Nat.le_trans a.2 b.2⟩
