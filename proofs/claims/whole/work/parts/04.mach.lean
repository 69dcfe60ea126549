/-! THE LITTLE MACHINE: what an instruction does to numbered cells. Cells are numbered in the order in which they are made; numbers from 1000 on are constants (static arrays 1000.., texts 1100..). -/
abbrev mm_Ls : Type := List (Option Value)
abbrev mm_M : Type := List (Nat × Nat) × (Nat → Nat → Option Nat) × (Nat → Nat → Int32) × (Nat → Nat → Int64)
def mm_u {α : Type} (f : Nat → Nat → α) (k j : Nat) (v : α) : Nat → Nat → α := fun a b => if a = k then (if b = j then v else f a b) else f a b
def mm_z {α : Type} (f : Nat → Nat → α) (k : Nat) (v : α) : Nat → Nat → α := fun a b => if a = k then v else f a b
def mm_kl (a : Option Value) : Option Value := match a with
  | some v => if v.category = 2 then none else some v
  | none => none
/-- storing in the locals -/
def mm_so : mm_Ls → Nat → Value → mm_Ls
  | [], _, _ => []
  | _ :: t, 0, v => some v :: t
  | a :: t, 1, v => mm_kl a :: mm_so t 0 v
  | a :: t, i + 2, v => a :: mm_so t (i + 1) v
def mm_so2 : mm_Ls → Nat → Value → mm_Ls
  | [], _, _ => []
  | _ :: t, 0, v => some v :: t.set 0 none
  | a :: t, 1, v => mm_kl a :: mm_so2 t 0 v
  | a :: t, i + 2, v => a :: mm_so2 t (i + 1) v
def mm_ar : List Value → mm_Ls
  | [] => []
  | v :: r => if v.category = 2 then some v :: none :: mm_ar r else some v :: mm_ar r
def mm_en (n : Nat) (args : List Value) : mm_Ls := mm_ar args ++ List.replicate (n - (mm_ar args).length) none
def mm_is (t : Nat) (v : Value) : Bool := match v with
  | .int _ => t == 0
  | .long _ => t == 1
  | .ref _ => t == 2
  | _ => false
def mm_ln (i : Instr) : Nat := match i with
  | .aload _ => 2
  | .iload _ => 2
  | .lload _ => 2
  | .astore _ => 2
  | .istore _ => 2
  | .lstore _ => 2
  | .bipush _ => 2
  | .ldc _ => 2
  | .newarray _ => 2
  | .sipush _ => 3
  | .iinc _ _ => 3
  | .getfield _ => 3
  | .putfield _ => 3
  | .getstatic _ => 3
  | .invokestatic _ => 3
  | .invokevirtual _ => 3
  | .invokespecial _ => 3
  | .new _ => 3
  | .anewarray _ => 3
  | .ldc_w _ => 3
  | .ldc2_w _ => 3
  | .goto _ => 3
  | .ifCond _ _ => 3
  | .if_icmp _ _ => 3
  | _ => 1
def mm_sw (i : Instr) : Bool := match i with
  | .tableswitch _ _ _ _ => true
  | .lookupswitch _ _ => true
  | _ => false
def mm_1i (f : Int32 → Value) (st : List Value) : Option (List Value) := match st with
  | .int x :: r => some (f x :: r)
  | _ => none
def mm_2i (f : Int32 → Int32 → Option Value) (st : List Value) : Option (List Value) := match st with
  | .int y :: .int x :: r => match f x y with
    | some v => some (v :: r)
    | none => none
  | _ => none
def mm_2l (f : Int64 → Int64 → Value) (st : List Value) : Option (List Value) := match st with
  | .long y :: .long x :: r => some (f x y :: r)
  | _ => none
/-- the stack alone -/
def mm_pu (i : Instr) (st : List Value) : Option (List Value) := match i with
  | .iconst n => some (.int (Int32.ofInt n) :: st)
  | .bipush n => some (.int (Int8.ofInt n).toInt32 :: st)
  | .sipush n => some (.int (Int16.ofInt n).toInt32 :: st)
  | .lconst n => some (.long (Int64.ofNat n) :: st)
  | .iadd => mm_2i (fun x y => some (.int (x + y))) st
  | .isub => mm_2i (fun x y => some (.int (x - y))) st
  | .imul => mm_2i (fun x y => some (.int (x * y))) st
  | .iand => mm_2i (fun x y => some (.int (x &&& y))) st
  | .ior => mm_2i (fun x y => some (.int (x ||| y))) st
  | .ixor => mm_2i (fun x y => some (.int (x ^^^ y))) st
  | .ishl => mm_2i (fun x y => some (.int (x <<< (y &&& 31)))) st
  | .ishr => mm_2i (fun x y => some (.int (x >>> (y &&& 31)))) st
  | .iushr => mm_2i (fun x y => some (.int (x.toUInt32 >>> (y.toUInt32 &&& Int32.toUInt32 31)).toInt32)) st
  | .idiv => mm_2i (fun x y => if y = 0 then none else some (.int (x / y))) st
  | .irem => mm_2i (fun x y => if y = 0 then none else some (.int (x - x / y * y))) st
  | .ineg => mm_1i (fun x => .int (-x)) st
  | .i2l => mm_1i (fun x => .long x.toInt64) st
  | .i2b => mm_1i (fun x => .int x.toInt8.toInt32) st
  | .i2s => mm_1i (fun x => .int x.toInt16.toInt32) st
  | .l2i => match st with
    | .long x :: r => some (.int x.toInt32 :: r)
    | _ => none
  | .land => mm_2l (fun x y => .long (x &&& y)) st
  | .lor => mm_2l (fun x y => .long (x ||| y)) st
  | .lcmp => mm_2l (fun x y => .int (lg_cmp x y)) st
  | .lshl => match st with
    | .int y :: .long x :: r => some (.long (x <<< (y.toInt64 &&& 63)) :: r)
    | _ => none
  | .dup => match st with
    | v :: r => if v.category = 1 then some (v :: v :: r) else none
    | _ => none
  | .pop => match st with
    | v :: r => if v.category = 1 then some r else none
    | _ => none
  | .dup_x1 => match st with
    | v :: w :: r => if v.category = 1 ∧ w.category = 1 then some (v :: w :: v :: r) else none
    | _ => none
  | .dup2 => match st with
    | v :: w :: r => if v.category = 1 ∧ w.category = 1 then some (v :: w :: v :: w :: r) else none
    | _ => none
  | _ => none
def mm_ld (t k : Nat) (ls : mm_Ls) (st : List Value) : Option (mm_Ls × List Value) := match ls[k]? with
  | some (some v) => if mm_is t v = true then some (ls, v :: st) else none
  | _ => none
def mm_st (t k : Nat) (ls : mm_Ls) (st : List Value) : Option (mm_Ls × List Value) := match st with
  | v :: r => if mm_is t v = true then (if t = 1 then (if k + 1 < ls.length then some (mm_so2 ls k v, r) else none) else (if k < ls.length then some (mm_so ls k v, r) else none)) else none
  | _ => none
/-- loads and stores -/
def mm_lo (i : Instr) (ls : mm_Ls) (st : List Value) : Option (mm_Ls × List Value) := match i with
  | .iload k => mm_ld 0 k ls st
  | .iload_n k => mm_ld 0 k ls st
  | .lload k => mm_ld 1 k ls st
  | .lload_n k => mm_ld 1 k ls st
  | .aload k => mm_ld 2 k ls st
  | .aload_n k => mm_ld 2 k ls st
  | .istore k => mm_st 0 k ls st
  | .istore_n k => mm_st 0 k ls st
  | .lstore k => mm_st 1 k ls st
  | .lstore_n k => mm_st 1 k ls st
  | .astore k => mm_st 2 k ls st
  | .astore_n k => mm_st 2 k ls st
  | .iinc k n => match ls[k]? with
    | some (some (.int x)) => some (mm_so ls k (.int (x + Int32.ofInt n)), st)
    | _ => none
  | _ => none
def mm_tg (pc : Nat) (off : Int) : Option Nat := if 0 ≤ (pc : Int) + off then some ((pc : Int) + off).toNat else none
def mm_nx (pc : Nat) (off : Int) : Option Nat := if 0 ≤ (pc : Int) + off then some (pc + 3) else none
def mm_c1 (c : Jvm.ClassFile.Cond) (x : Int32) : Bool := match c with
  | .eq => decide (x = 0)
  | .ne => decide (¬ x = 0)
  | .lt => decide (x < 0)
  | .ge => decide (0 ≤ x)
  | .gt => decide (0 < x)
  | .le => decide (x ≤ 0)
def mm_c2 (c : Jvm.ClassFile.Cond) (x y : Int32) : Bool := match c with
  | .eq => decide (x = y)
  | .ne => decide (¬ x = y)
  | .lt => decide (x < y)
  | .ge => decide (y ≤ x)
  | .gt => decide (y < x)
  | .le => decide (x ≤ y)
def mm_to (o : Option Nat) (r : List Value) : Option (Nat × List Value) := match o with
  | some t => some (t, r)
  | none => none
/-- the switches' offsets -/
def mm_ts (x dflt lo hi : Int) (offs : Array Int) : Option Int := if x < lo ∨ hi < x then some dflt else offs[(x - lo).toNat]?
/-- jumps -/
def mm_br (pc : Nat) (i : Instr) (st : List Value) : Option (Nat × List Value) := match i with
  | .goto off => mm_to (mm_tg pc off) st
  | .ifCond c off => match st with
    | .int x :: r => mm_to (if mm_c1 c x = true then mm_tg pc off else mm_nx pc off) r
    | _ => none
  | .if_icmp c off => match st with
    | .int y :: .int x :: r => mm_to (if mm_c2 c x y = true then mm_tg pc off else mm_nx pc off) r
    | _ => none
  | .tableswitch dflt lo hi offs => match st with
    | .int x :: r => match mm_ts x.toInt dflt lo hi offs with
      | some off => mm_to (mm_tg pc off) r
      | none => none
    | _ => none
  | .lookupswitch dflt ps => match st with
    | .int x :: r => if (ps.toList.zip (ps.toList.drop 1)).all (fun (a, next) => a.1 < next.1) = true then mm_to (mm_tg pc (Op.lookupswitch.offset ps.toList dflt x.toInt)) r else none
    | _ => none
  | _ => none
/-- what the constants' arrays hold: static arrays, and (1004) what the law was given -/
abbrev mm_Cs : Type := Nat → Option (Nat × (Nat → Int32))
def mm_cs0 : mm_Cs := fun k => match k with
  | 1000 => some (7, fun j => ([-1, 0, 0, 1, 0, 2, 4] : List Int32).getD j 0)
  | 1001 => some (4, fun j => ([1, 1, 0, 0] : List Int32).getD j 0)
  | 1002 => some (4, fun j => ([200, 20, 9, 60] : List Int32).getD j 0)
  | 1003 => some (21, fun j => ([10, 20, 0, 0, 51, 0, 70, 11, 0, 30, 40, 0, 0, 71, 12, 0, 0, 0, 50, 60, 0] : List Int32).getD j 0)
  | _ => none
def mm_in (i : Int32) (n : Nat) : Bool := !(decide (i < 0)) && decide (i.toNatClampNeg < n)
def mm_ga (M : mm_M) (k j : Nat) (t : Nat) : Value := if t = 2 then va_rf (M.2.1 k j) else .int (M.2.2.1 k j)
/-- reading -/
def mm_rd (cs : mm_Cs) (own : Nat) (i : Instr) (st : List Value) (M : mm_M) : Option (List Value) := match i with
  | .getfield idx => match st with
    | .ref k :: r => match mm_fld own idx with
      | some (c, j) => if M.1[k]? = some (c, 0) then some (mm_ga M k j (mm_ft c j) :: r) else none
      | none => none
    | _ => none
  | .getstatic idx => match mm_sta own idx with
    | some (a, _) => some (.ref a :: st)
    | none => none
  | .ldc idx => match mm_con own idx with
    | some v => some (.int v :: st)
    | none => match mm_str own idx with
      | some a => some (.ref a :: st)
      | none => none
  | .ldc_w idx => match mm_con own idx with
    | some v => some (.int v :: st)
    | none => none
  | .ldc2_w idx => if own = 10 ∧ idx = 18 then some (.long 4294967295 :: st) else none
  | .arraylength => match st with
    | .ref k :: r => match cs k with
      | some (n, _) => some (.int (Int32.ofNat n) :: r)
      | none => match M.1[k]? with
        | some (t, n) => if 100 ≤ t then some (.int (Int32.ofNat n) :: r) else none
        | none => none
    | _ => none
  | .iaload => match st with
    | .int x :: .ref k :: r => match cs k with
      | some (n, f) => if mm_in x n = true then some (.int (f x.toNatClampNeg) :: r) else none
      | none => match M.1[k]? with
        | some (t, n) => if t = 100 ∧ mm_in x n = true then some (.int (M.2.2.1 k x.toNatClampNeg) :: r) else none
        | none => none
    | _ => none
  | .laload => match st with
    | .int x :: .ref k :: r => match M.1[k]? with
      | some (t, n) => if t = 101 ∧ mm_in x n = true then some (.long (M.2.2.2 k x.toNatClampNeg) :: r) else none
      | none => none
    | _ => none
  | .aaload => match st with
    | .int x :: .ref k :: r => match M.1[k]? with
      | some (t, n) => if 102 ≤ t ∧ mm_in x n = true then some (va_rf (M.2.1 k x.toNatClampNeg) :: r) else none
      | none => none
    | _ => none
  | _ => none
def mm_ok (M : mm_M) (a : Nat) : Bool := decide (a < M.1.length)
/-- writing a field -/
def mm_pf (M : mm_M) (k j : Nat) (t : Nat) (v : Value) : Option mm_M := match v with
  | .int x => if t = 0 ∨ (t = 1 ∧ (x = 0 ∨ x = 1)) then some (M.1, M.2.1, mm_u M.2.2.1 k j x, M.2.2.2) else none
  | .ref a => if t = 2 ∧ mm_ok M a = true then some (M.1, mm_u M.2.1 k j (some a), M.2.2.1, M.2.2.2) else none
  | _ => none
/-- writing -/
def mm_wr (ini : Bool) (own : Nat) (i : Instr) (st : List Value) (M : mm_M) : Option (List Value × mm_M) := match i with
  | .putfield idx => match st with
    | v :: .ref k :: r => match mm_fld own idx with
      | some (c, j) => if M.1[k]? = some (c, 0) ∧ (mm_fi c j = false ∨ (ini = true ∧ c = own)) then (match mm_pf M k j (mm_ft c j) v with
        | some M' => some (r, M')
        | none => none) else none
      | none => none
    | _ => none
  | .iastore => match st with
    | .int y :: .int x :: .ref k :: r => match M.1[k]? with
      | some (t, n) => if t = 100 ∧ mm_in x n = true then some (r, M.1, M.2.1, mm_u M.2.2.1 k x.toNatClampNeg y, M.2.2.2) else none
      | none => none
    | _ => none
  | .lastore => match st with
    | .long y :: .int x :: .ref k :: r => match M.1[k]? with
      | some (t, n) => if t = 101 ∧ mm_in x n = true then some (r, M.1, M.2.1, M.2.2.1, mm_u M.2.2.2 k x.toNatClampNeg y) else none
      | none => none
    | _ => none
  | .aastore => match st with
    | .ref a :: .int x :: .ref k :: r => match M.1[k]? with
      | some (t, n) => match M.1[a]? with
        | some (c, _) => if t = 102 + c ∧ c < 10 ∧ mm_in x n = true then some (r, M.1, mm_u M.2.1 k x.toNatClampNeg (some a), M.2.2.1, M.2.2.2) else none
        | none => none
      | none => none
    | _ => none
  | _ => none
/-- no cell is told of that isn't there -/
def mm_vo (n : Nat) (v : Value) : Bool := match v with
  | .ref a => decide (a < n ∨ 1000 ≤ a)
  | _ => true
def mm_vl (n : Nat) (ls : mm_Ls) : Bool := ls.all (fun o => match o with
  | some v => mm_vo n v
  | none => true)
def mm_nw (M : mm_M) (q : Nat × Nat) : mm_M := (M.1 ++ [q], mm_z M.2.1 M.1.length none, mm_z M.2.2.1 M.1.length 0, mm_z M.2.2.2 M.1.length 0)
/-- making -/
def mm_al (own : Nat) (i : Instr) (ls : mm_Ls) (st : List Value) (M : mm_M) : Option (List Value × mm_M) := if mm_vl M.1.length ls = true ∧ st.all (mm_vo M.1.length) = true ∧ M.1.length < 900 then (match i with
  | .new idx => match mm_cls own idx with
    | some c => some (.ref M.1.length :: st, mm_nw M (c, 0))
    | none => none
  | .newarray t => match st with
    | .int n :: r => if n < 0 ∨ 100000 < n.toNatClampNeg then none else match t with
      | .int => some (.ref M.1.length :: r, mm_nw M (100, n.toNatClampNeg))
      | .long => some (.ref M.1.length :: r, mm_nw M (101, n.toNatClampNeg))
      | _ => none
    | _ => none
  | .anewarray idx => match st with
    | .int n :: r => if n < 0 ∨ 100000 < n.toNatClampNeg then none else match mm_cls own idx with
      | some c => if c ∈ ([0, 4, 6, 7] : List Nat) then some (.ref M.1.length :: r, mm_nw M (102 + c, n.toNatClampNeg)) else none
      | none => none
    | _ => none
  | _ => none) else none
/-- the texts -/
def mm_sy (i : Nat) : List Int32 := (([[99, 104, 105, 108, 100], [115, 97, 99, 107], [119, 101, 97, 114, 115], [97, 104, 101, 97, 100], [119, 97, 121], [117, 112], [114, 111, 112, 101], [119, 105, 110, 100]] : List (List Int32))).getD i []
def mm_cy {α : Type} (f : Nat → Nat → α) (p q sp dp n : Nat) : Nat → Nat → α := fun a b => if a = q then va_cpy (f p) (f q) sp dp n b else f a b
/-- members of the JDK -/
def mm_bi (d b : Nat) (a : List Value) (M : mm_M) : Option (Option Value × mm_M) := match b with
  | 900 => match a with
    | [.ref _] => some (none, M)
    | _ => none
  | 901 => match a with
    | [.int x] => some (some (.int (if 0 ≤ x then x else 0 - x)), M)
    | _ => none
  | 902 => match a with
    | [.int x, .int y] => some (some (.int (if x < y then y else x)), M)
    | _ => none
  | 903 => match a with
    | [.int x, .int y] => some (some (.int (if y < x then y else x)), M)
    | _ => none
  | 904 => match a with
    | [.ref k] => if 4 ≤ d ∧ 1100 ≤ k ∧ k < 1108 then some (some (.int (Int32.ofNat (mm_sy (k - 1100)).length)), M) else none
    | _ => none
  | 905 => match a with
    | [.ref k, .int x] => if 4 ≤ d ∧ 1100 ≤ k ∧ k < 1108 ∧ mm_in x (mm_sy (k - 1100)).length = true then some (some (.int ((mm_sy (k - 1100)).getD x.toNatClampNeg 0)), M) else none
    | _ => none
  | 906 => match a with
    | [.ref p, .int sp, .ref q, .int dp, .int n] => if sp < 0 ∨ dp < 0 ∨ n < 0 then none else match M.1[p]? with
      | some (t0, n0) => match M.1[q]? with
        | some (t1, n1) => if sp.toNatClampNeg + n.toNatClampNeg ≤ n0 ∧ dp.toNatClampNeg + n.toNatClampNeg ≤ n1 ∧ t0 = t1 then (
            if t0 = 100 then some (none, M.1, M.2.1, mm_cy M.2.2.1 p q sp.toNatClampNeg dp.toNatClampNeg n.toNatClampNeg, M.2.2.2)
            else if t0 = 101 then some (none, M.1, M.2.1, M.2.2.1, mm_cy M.2.2.2 p q sp.toNatClampNeg dp.toNatClampNeg n.toNatClampNeg) else none) else none
        | none => none
      | none => none
    | _ => none
  | _ => none
/-- how many words a call takes, and whether it has no receiver -/
def mm_nb (b : Nat) : Nat := match b with
  | 902 => 2
  | 903 => 2
  | 905 => 2
  | 906 => 5
  | _ => 1
abbrev mm_Ca : Type := Nat → List Value → mm_M → Option (Option Value × mm_M)
/-- 0 static, 1 virtual, 2 special: which instruction calls what -/
def mm_kd (e : mm_Me) : Nat := if e.2.2.2.2.2.2.2 = true then 0 else if e.2.2.2.2.2.1 = true then 2 else 1
def mm_cw (st : List Value) : Bool := decide ((st.map fun v => v.category).sum ≤ 8)
def mm_pop (o : Option (Option Value × mm_M)) (rest : List Value) : Option (List Value × mm_M) := match o with
  | some (r, M') => some (r.toList ++ rest, M')
  | none => none
def mm_bk (b : Nat) : Nat := match b with
  | 900 => 2
  | 904 => 1
  | 905 => 1
  | _ => 0
/-- a receiver of the method's own class -/
def mm_rc (e : mm_Me) (a : List Value) (M : mm_M) : Bool := if e.2.2.2.2.2.2.2 = true then true else match a with
  | .ref k :: _ => decide (M.1[k]? = some (e.2.1, 0))
  | _ => false
def mm_ci (cal : mm_Ca) (d : Nat) (own idx kind : Nat) (st : List Value) (M : mm_M) : Option (List Value × mm_M) := match mm_mt own idx with
  | some q =>
    if 900 ≤ q.1 then
      (if mm_nb q.1 ≤ st.length ∧ mm_cw (st.drop (mm_nb q.1)) = true ∧ mm_bk q.1 = kind then mm_pop (mm_bi d q.1 (st.take (mm_nb q.1)).reverse M) (st.drop (mm_nb q.1)) else none)
    else match mm_me q.1 with
      | some e => if mm_kd e = kind ∧ e.2.2.2.2.2.2.1 ≤ st.length ∧ mm_cw (st.drop e.2.2.2.2.2.2.1) = true ∧ mm_rc e (st.take e.2.2.2.2.2.2.1).reverse M = true then mm_pop (cal q.1 (st.take e.2.2.2.2.2.2.1).reverse M) (st.drop e.2.2.2.2.2.2.1) else none
      | none => none
  | none => none
def mm_ca (cal : mm_Ca) (d : Nat) (own : Nat) (i : Instr) (st : List Value) (M : mm_M) : Option (List Value × mm_M) := match i with
  | .invokestatic idx => mm_ci cal d own idx 0 st M
  | .invokevirtual idx => mm_ci cal d own idx 1 st M
  | .invokespecial idx => mm_ci cal d own idx 2 st M
  | _ => none
def mm_re (rt : Option FieldType) (i : Instr) (st : List Value) : Option (Option Value) := match i with
  | .ireturn => match st with
    | [.int v] => if rt = some .int ∨ (rt = some .boolean ∧ (v = 0 ∨ v = 1)) then some (some (.int v)) else none
    | _ => none
  | .lreturn => match st with
    | [.long v] => if rt = some .long then some (some (.long v)) else none
    | _ => none
  | .areturn => match st with
    | [.ref a] => if rt = some (.object "java/lang/String") then some (some (.ref a)) else none
    | _ => none
  | .return_ => match st with
    | [] => if rt = none then some none else none
    | _ => none
  | _ => none
