/-! ===== A small machine over which the methods are read. Values are the model's; a heap is a function of addresses; locals are a function of places. A cell: an array (number of its type, contents), or an object (number of its class, fields). ===== -/
abbrev mx_C : Type := (Nat × vp_A) ⊕ (Nat × List Value)
/-- cells, how many there are, slots used -/
abbrev mx_H : Type := (Nat → Option mx_C) × Nat × Nat
abbrev mx_L : Type := Nat → Option Value
/-- returned, or threw: the exception's number, its address -/
abbrev mx_O : Type := Option Value ⊕ (Nat × Nat)
/-- class number, name, code, locals, type of the answer, places of longs, frames and locals' room below -/
abbrev mx_M : Type := Nat × MethodName × ByteArray × Nat × Option FieldType × List Nat × Nat × Nat
abbrev mx_mc (M : mx_M) : Nat := M.1
abbrev mx_my (M : mx_M) : MethodName := M.2.1
abbrev mx_mb (M : mx_M) : ByteArray := M.2.2.1
abbrev mx_ml (M : mx_M) : Nat := M.2.2.2.1
abbrev mx_mr (M : mx_M) : Option FieldType := M.2.2.2.2.1
abbrev mx_mg (M : mx_M) : List Nat := M.2.2.2.2.2.1
abbrev mx_mf (M : mx_M) : Nat := M.2.2.2.2.2.2.1
abbrev mx_mw (M : mx_M) : Nat := M.2.2.2.2.2.2.2
/-- a program's tables, by class number and pool index: fields (class, place, type, final), constants, classes to make (number, first fields), array types to make, casts (classes that pass), statics, calls (kind, arguments, method); the array types; which classes a reference array of a type takes; the first address that may be written -/
abbrev mx_T : Type := (Nat → Nat → Option (Nat × Nat × FieldType × Bool)) × (Nat → Nat → Option Value) × (Nat → Nat → Option (Nat × List Value)) × (Nat → Nat → Option Nat) × (Nat → Nat → Option (List Nat)) × (Nat → Nat → Option Value) × (Nat → Nat → Option (Nat × Nat × mx_M)) × List FieldType × (Nat → Nat → Bool) × Nat × Nat × (Nat → Nat → Nat → Option Value) × (Nat → Option Nat)
abbrev mx_tf (P : mx_T) : Nat → Nat → Option (Nat × Nat × FieldType × Bool) := P.1
abbrev mx_tc (P : mx_T) : Nat → Nat → Option Value := P.2.1
abbrev mx_tn (P : mx_T) : Nat → Nat → Option (Nat × List Value) := P.2.2.1
abbrev mx_ta (P : mx_T) : Nat → Nat → Option Nat := P.2.2.2.1
abbrev mx_tk (P : mx_T) : Nat → Nat → Option (List Nat) := P.2.2.2.2.1
abbrev mx_ts (P : mx_T) : Nat → Nat → Option Value := P.2.2.2.2.2.1
abbrev mx_tm (P : mx_T) : Nat → Nat → Option (Nat × Nat × mx_M) := P.2.2.2.2.2.2.1
abbrev mx_ty (P : mx_T) : List FieldType := P.2.2.2.2.2.2.2.1
abbrev mx_tg (P : mx_T) : Nat → Nat → Bool := P.2.2.2.2.2.2.2.2.1
abbrev mx_t0 (P : mx_T) : Nat := P.2.2.2.2.2.2.2.2.2.1
/-- the class object of Object[] -/
abbrev mx_tr (P : mx_T) : Nat := P.2.2.2.2.2.2.2.2.2.2.1
/-- what constant objects' fields hold, by address; their class -/
abbrev mx_te (P : mx_T) : Nat → Nat → Nat → Option Value := P.2.2.2.2.2.2.2.2.2.2.2.1
abbrev mx_to (P : mx_T) : Nat → Option Nat := P.2.2.2.2.2.2.2.2.2.2.2.2
/-- a cell anew; a cell more -/
def mx_up (G : mx_H) (a : Nat) (c : mx_C) : mx_H := (fun b => if b = a then some c else G.1 b, G.2.1, G.2.2)
def mx_pu (G : mx_H) (c : mx_C) (n : Nat) : mx_H := (fun b => if b = G.2.1 then some c else G.1 b, G.2.1 + 1, G.2.2 + n)
theorem mx_up_s (G : mx_H) (a : Nat) (c : mx_C) : (mx_up G a c).1 a = some c := by simp [mx_up]
theorem mx_up_n (G : mx_H) {a b : Nat} (c : mx_C) (h : b ≠ a) : (mx_up G a c).1 b = G.1 b := by simp [mx_up, h]
theorem mx_pu_s (G : mx_H) (c : mx_C) (n : Nat) : (mx_pu G c n).1 G.2.1 = some c := by simp [mx_pu]
theorem mx_pu_n (G : mx_H) {b : Nat} (c : mx_C) (n : Nat) (h : b ≠ G.2.1) : (mx_pu G c n).1 b = G.1 b := by simp [mx_pu, h]
/-- a local of one word, of two words -/
def mx_s1 (g : List Nat) (L : mx_L) (i : Nat) (v : Value) : mx_L := fun j => bif Nat.beq j i then some v else bif Nat.beq (j + 1) i && g.any (Nat.beq j) then none else L j
def mx_s2 (g : List Nat) (L : mx_L) (i : Nat) (v : Value) : mx_L := fun j => bif Nat.beq j i then some v else bif Nat.beq j (i + 1) then none else bif Nat.beq (j + 1) i && g.any (Nat.beq j) then none else L j
/-- the locals with which a method begins -/
def mx_en : Nat → List Value → mx_L
  | _, [] => fun _ => none
  | i, v :: vs => fun j => bif Nat.beq j i then some v else mx_en (match v with | .long _ => i + 2 | .double _ => i + 2 | _ => i + 1) vs j
/-- the longs among the arguments lie where the method keeps longs -/
def mx_eg (g : List Nat) : Nat → List Value → Bool
  | _, [] => true
  | i, v :: vs => match v with
    | .long _ => g.any (Nat.beq i) && mx_eg g (i + 2) vs
    | .double _ => false
    | _ => mx_eg g (i + 1) vs
def mx_rv (v : Value) : Prop := v = .null ∨ ∃ a : Nat, v = .ref a
def mx_cd (k : Jvm.ClassFile.Cond) (x y : Int32) : Prop := match k with
  | .eq => x = y
  | .ne => ¬ x = y
  | .lt => x < y
  | .ge => y ≤ x
  | .gt => y < x
  | .le => x ≤ y
def mx_aq (f : Nat → Option Nat) : (Nat → Int32) ⊕ (Nat → Int64) ⊕ (Nat → UInt32) ⊕ (Nat → UInt64) ⊕ (Nat → Option Nat) := .inr (.inr (.inr (.inr f)))
/-- one instruction that is neither a call nor an end: what must hold for it to go on, and how it goes on -/
def mx_nx (P : mx_T) (M : mx_M) (pc : Nat) (L : mx_L) (st : List Value) (G : mx_H) (n : Nat) (K : Nat → mx_L → List Value → mx_H → Prop) (i : Instr) : Prop :=
  match i with
  | .aconst_null => n = 1 ∧ K (pc + 1) L (.null :: st) G
  | .iconst k => n = 1 ∧ K (pc + 1) L (.int (Int32.ofInt k) :: st) G
  | .lconst k => n = 1 ∧ K (pc + 1) L (.long (Int64.ofNat k) :: st) G
  | .bipush k => n = 2 ∧ K (pc + 2) L (.int (Int8.ofInt k).toInt32 :: st) G
  | .sipush k => n = 3 ∧ K (pc + 3) L (.int (Int16.ofInt k).toInt32 :: st) G
  | .ldc k => n = 2 ∧ ∃ x, mx_tc P (mx_mc M) k = some x ∧ ((∃ y, x = .int y) ∨ x = .ref (mx_tr P)) ∧ K (pc + 2) L (x :: st) G
  | .ldc_w k => n = 3 ∧ ∃ x, mx_tc P (mx_mc M) k = some (.int x) ∧ K (pc + 3) L (.int x :: st) G
  | .ldc2_w k => n = 3 ∧ ∃ x, mx_tc P (mx_mc M) k = some (.long x) ∧ K (pc + 3) L (.long x :: st) G
  | .iload_n k => n = 1 ∧ ∃ x, L k = some (.int x) ∧ K (pc + 1) L (.int x :: st) G
  | .iload k => n = 2 ∧ ∃ x, L k = some (.int x) ∧ K (pc + 2) L (.int x :: st) G
  | .lload_n k => n = 1 ∧ ∃ x, L k = some (.long x) ∧ K (pc + 1) L (.long x :: st) G
  | .lload k => n = 2 ∧ ∃ x, L k = some (.long x) ∧ K (pc + 2) L (.long x :: st) G
  | .aload_n k => n = 1 ∧ ∃ x, L k = some x ∧ mx_rv x ∧ K (pc + 1) L (x :: st) G
  | .aload k => n = 2 ∧ ∃ x, L k = some x ∧ mx_rv x ∧ K (pc + 2) L (x :: st) G
  | .istore_n k => n = 1 ∧ ∃ x r, st = .int x :: r ∧ (k : Nat) < mx_ml M ∧ K (pc + 1) (mx_s1 (mx_mg M) L k (.int x)) r G
  | .istore k => n = 2 ∧ ∃ x r, st = .int x :: r ∧ k < mx_ml M ∧ K (pc + 2) (mx_s1 (mx_mg M) L k (.int x)) r G
  | .lstore_n k => n = 1 ∧ ∃ x r, st = .long x :: r ∧ (k : Nat) + 1 < mx_ml M ∧ (mx_mg M).any (Nat.beq k) = true ∧ K (pc + 1) (mx_s2 (mx_mg M) L k (.long x)) r G
  | .lstore k => n = 2 ∧ ∃ x r, st = .long x :: r ∧ k + 1 < mx_ml M ∧ (mx_mg M).any (Nat.beq k) = true ∧ K (pc + 2) (mx_s2 (mx_mg M) L k (.long x)) r G
  | .astore_n k => n = 1 ∧ ∃ x r, st = x :: r ∧ mx_rv x ∧ (k : Nat) < mx_ml M ∧ K (pc + 1) (mx_s1 (mx_mg M) L k x) r G
  | .astore k => n = 2 ∧ ∃ x r, st = x :: r ∧ mx_rv x ∧ k < mx_ml M ∧ K (pc + 2) (mx_s1 (mx_mg M) L k x) r G
  | .iinc k c => n = 3 ∧ ∃ x, L k = some (.int x) ∧ k < mx_ml M ∧ K (pc + 3) (mx_s1 (mx_mg M) L k (.int (x + Int32.ofInt c))) st G
  | .iadd => n = 1 ∧ ∃ x y r, st = .int y :: .int x :: r ∧ K (pc + 1) L (.int (x + y) :: r) G
  | .isub => n = 1 ∧ ∃ x y r, st = .int y :: .int x :: r ∧ K (pc + 1) L (.int (x - y) :: r) G
  | .imul => n = 1 ∧ ∃ x y r, st = .int y :: .int x :: r ∧ K (pc + 1) L (.int (x * y) :: r) G
  | .iand => n = 1 ∧ ∃ x y r, st = .int y :: .int x :: r ∧ K (pc + 1) L (.int (x &&& y) :: r) G
  | .ixor => n = 1 ∧ ∃ x y r, st = .int y :: .int x :: r ∧ K (pc + 1) L (.int (x ^^^ y) :: r) G
  | .ishr => n = 1 ∧ ∃ x y r, st = .int y :: .int x :: r ∧ K (pc + 1) L (.int (x >>> (y &&& 31)) :: r) G
  | .ladd => n = 1 ∧ ∃ x y r, st = .long y :: .long x :: r ∧ K (pc + 1) L (.long (x + y) :: r) G
  | .lsub => n = 1 ∧ ∃ x y r, st = .long y :: .long x :: r ∧ K (pc + 1) L (.long (x - y) :: r) G
  | .lmul => n = 1 ∧ ∃ x y r, st = .long y :: .long x :: r ∧ K (pc + 1) L (.long (x * y) :: r) G
  | .ldiv => n = 1 ∧ ∃ x y r, st = .long y :: .long x :: r ∧ ¬ y = 0 ∧ K (pc + 1) L (.long (x / y) :: r) G
  | .lrem => n = 1 ∧ ∃ x y r, st = .long y :: .long x :: r ∧ ¬ y = 0 ∧ K (pc + 1) L (.long (x - x / y * y) :: r) G
  | .land => n = 1 ∧ ∃ x y r, st = .long y :: .long x :: r ∧ K (pc + 1) L (.long (x &&& y) :: r) G
  | .lor => n = 1 ∧ ∃ x y r, st = .long y :: .long x :: r ∧ K (pc + 1) L (.long (x ||| y) :: r) G
  | .lxor => n = 1 ∧ ∃ x y r, st = .long y :: .long x :: r ∧ K (pc + 1) L (.long (x ^^^ y) :: r) G
  | .lshl => n = 1 ∧ ∃ x y r, st = .int y :: .long x :: r ∧ K (pc + 1) L (.long (x <<< (y.toInt64 &&& 63)) :: r) G
  | .lshr => n = 1 ∧ ∃ x y r, st = .int y :: .long x :: r ∧ K (pc + 1) L (.long (x >>> (y.toInt64 &&& 63)) :: r) G
  | .i2l => n = 1 ∧ ∃ x r, st = .int x :: r ∧ K (pc + 1) L (.long x.toInt64 :: r) G
  | .l2i => n = 1 ∧ ∃ x r, st = .long x :: r ∧ K (pc + 1) L (.int x.toInt32 :: r) G
  | .i2b => n = 1 ∧ ∃ x r, st = .int x :: r ∧ K (pc + 1) L (.int x.toInt8.toInt32 :: r) G
  | .lcmp => n = 1 ∧ ∃ x y r, st = .long y :: .long x :: r ∧ K (pc + 1) L (.int (lg_cmp x y) :: r) G
  | .dup => n = 1 ∧ ∃ x r, st = x :: r ∧ x.category = 1 ∧ K (pc + 1) L (x :: x :: r) G
  | .dup_x1 => n = 1 ∧ ∃ x y r, st = x :: y :: r ∧ x.category = 1 ∧ y.category = 1 ∧ K (pc + 1) L (x :: y :: x :: r) G
  | .pop => n = 1 ∧ ∃ x r, st = x :: r ∧ x.category = 1 ∧ K (pc + 1) L r G
  | .ifCond k off => n = 3 ∧ ∃ x r, ∃ t : Nat, st = .int x :: r ∧ (pc : Int) + off = (t : Int) ∧ (mx_cd k x 0 → K t L r G) ∧ (¬ mx_cd k x 0 → K (pc + 3) L r G)
  | .if_icmp k off => n = 3 ∧ ∃ x y r, ∃ t : Nat, st = .int y :: .int x :: r ∧ (pc : Int) + off = (t : Int) ∧ (mx_cd k x y → K t L r G) ∧ (¬ mx_cd k x y → K (pc + 3) L r G)
  | .if_acmp .eq off => n = 3 ∧ ∃ x y r, ∃ t : Nat, st = va_rf y :: va_rf x :: r ∧ (pc : Int) + off = (t : Int) ∧ (x = y → K t L r G) ∧ (¬ x = y → K (pc + 3) L r G)
  | .if_acmp .ne off => n = 3 ∧ ∃ x y r, ∃ t : Nat, st = va_rf y :: va_rf x :: r ∧ (pc : Int) + off = (t : Int) ∧ (¬ x = y → K t L r G) ∧ (x = y → K (pc + 3) L r G)
  | .ifnull off => n = 3 ∧ ∃ x r, ∃ t : Nat, st = va_rf x :: r ∧ (pc : Int) + off = (t : Int) ∧ (x = none → K t L r G) ∧ (¬ x = none → K (pc + 3) L r G)
  | .ifnonnull off => n = 3 ∧ ∃ x r, ∃ t : Nat, st = va_rf x :: r ∧ (pc : Int) + off = (t : Int) ∧ (¬ x = none → K t L r G) ∧ (x = none → K (pc + 3) L r G)
  | .goto off => n = 3 ∧ ∃ t : Nat, (pc : Int) + off = (t : Int) ∧ K t L st G
  | .tableswitch d lo hi offs => ∃ x r, st = .int x :: r ∧ ((x.toInt < lo ∨ hi < x.toInt) → ∃ t : Nat, (pc : Int) + d = (t : Int) ∧ K t L r G) ∧ (¬ (x.toInt < lo ∨ hi < x.toInt) → ∃ off, ∃ t : Nat, offs[(x.toInt - lo).toNat]? = some off ∧ (pc : Int) + off = (t : Int) ∧ K t L r G)
  | .lookupswitch d ps => ∃ x r, ∃ t : Nat, st = .int x :: r ∧ (ps.toList.zip (ps.toList.drop 1)).all (fun (a, next) => a.1 < next.1) = true ∧ (pc : Int) + Op.lookupswitch.offset ps.toList d x.toInt = (t : Int) ∧ K t L r G
  | .arraylength => n = 1 ∧ ∃ a t x r, st = .ref a :: r ∧ G.1 a = some (.inl (t, x)) ∧ (t < (mx_ty P).length ∨ t = 98 ∨ t = 99) ∧ K (pc + 1) L (.int (Int32.ofNat x.1) :: r) G
  | .iaload => n = 1 ∧ ∃ i a t m f r, st = .int i :: .ref a :: r ∧ (t = 0 ∨ t = 99) ∧ G.1 a = some (.inl (t, m, .inl f)) ∧ vp_in i m ∧ K (pc + 1) L (.int (f i.toNatClampNeg) :: r) G
  | .laload => n = 1 ∧ ∃ i a m f r, st = .int i :: .ref a :: r ∧ G.1 a = some (.inl (1, m, .inr (.inl f))) ∧ vp_in i m ∧ K (pc + 1) L (.long (f i.toNatClampNeg) :: r) G
  | .baload => n = 1 ∧ ∃ i a t m f r, st = .int i :: .ref a :: r ∧ (t = 2 ∨ t = 3) ∧ G.1 a = some (.inl (t, m, .inl f)) ∧ vp_in i m ∧ K (pc + 1) L (.int (f i.toNatClampNeg) :: r) G
  | .aaload => n = 1 ∧ ∃ i a t m f r, st = .int i :: .ref a :: r ∧ (4 ≤ t ∧ t < (mx_ty P).length ∨ t = 98) ∧ G.1 a = some (.inl (t, m, mx_aq f)) ∧ vp_in i m ∧ K (pc + 1) L (va_rf (f i.toNatClampNeg) :: r) G
  | .iastore => n = 1 ∧ ∃ x i a m f r, st = .int x :: .int i :: .ref a :: r ∧ G.1 a = some (.inl (0, m, .inl f)) ∧ mx_t0 P ≤ a ∧ vp_in i m ∧ K (pc + 1) L r (mx_up G a (.inl (0, m, .inl (upd f i.toNatClampNeg x))))
  | .lastore => n = 1 ∧ ∃ x i a m f r, st = .long x :: .int i :: .ref a :: r ∧ G.1 a = some (.inl (1, m, .inr (.inl f))) ∧ mx_t0 P ≤ a ∧ vp_in i m ∧ K (pc + 1) L r (mx_up G a (.inl (1, m, .inr (.inl (vp_updL f i.toNatClampNeg x)))))
  | .bastore => n = 1 ∧ ∃ x i a t m f r, st = .int x :: .int i :: .ref a :: r ∧ (t = 2 ∨ t = 3) ∧ G.1 a = some (.inl (t, m, .inl f)) ∧ mx_t0 P ≤ a ∧ vp_in i m ∧ K (pc + 1) L r (mx_up G a (.inl (t, m, .inl (upd f i.toNatClampNeg (vp_nar (if t = 2 then .byte else .boolean) x)))))
  | .aastore => n = 1 ∧ ∃ x i a t m f r, st = va_rf x :: .int i :: .ref a :: r ∧ 4 ≤ t ∧ t < (mx_ty P).length ∧ G.1 a = some (.inl (t, m, mx_aq f)) ∧ mx_t0 P ≤ a ∧ vp_in i m ∧ (∀ q, x = some q → ∃ c fs, G.1 q = some (.inr (c, fs)) ∧ mx_tg P t c = true) ∧ K (pc + 1) L r (mx_up G a (.inl (t, m, mx_aq (va_up f i.toNatClampNeg x))))
  | .newarray .int => n = 2 ∧ ∃ k r, st = .int k :: r ∧ ¬ k < 0 ∧ k.toNatClampNeg ≤ 1000000 ∧ K (pc + 2) L (.ref G.2.1 :: r) (mx_pu G (.inl (0, k.toNatClampNeg, .inl (fun _ => 0))) k.toNatClampNeg)
  | .newarray .long => n = 2 ∧ ∃ k r, st = .int k :: r ∧ ¬ k < 0 ∧ k.toNatClampNeg ≤ 1000000 ∧ K (pc + 2) L (.ref G.2.1 :: r) (mx_pu G (.inl (1, k.toNatClampNeg, .inr (.inl (fun _ => 0)))) k.toNatClampNeg)
  | .newarray .byte => n = 2 ∧ ∃ k r, st = .int k :: r ∧ ¬ k < 0 ∧ k.toNatClampNeg ≤ 1000000 ∧ K (pc + 2) L (.ref G.2.1 :: r) (mx_pu G (.inl (2, k.toNatClampNeg, .inl (fun _ => 0))) k.toNatClampNeg)
  | .newarray .boolean => n = 2 ∧ ∃ k r, st = .int k :: r ∧ ¬ k < 0 ∧ k.toNatClampNeg ≤ 1000000 ∧ K (pc + 2) L (.ref G.2.1 :: r) (mx_pu G (.inl (3, k.toNatClampNeg, .inl (fun _ => 0))) k.toNatClampNeg)
  | .anewarray j => n = 3 ∧ ∃ k t r, st = .int k :: r ∧ mx_ta P (mx_mc M) j = some t ∧ ¬ k < 0 ∧ k.toNatClampNeg ≤ 1000000 ∧ K (pc + 3) L (.ref G.2.1 :: r) (mx_pu G (.inl (t, k.toNatClampNeg, mx_aq (fun _ => none))) k.toNatClampNeg)
  | .new j => n = 3 ∧ ∃ c fs, mx_tn P (mx_mc M) j = some (c, fs) ∧ K (pc + 3) L (.ref G.2.1 :: st) (mx_pu G (.inr (c, fs)) fs.length)
  | .getfield j => n = 3 ∧ ∃ a v r, st = .ref a :: r ∧ ((∃ c k t b fs, mx_tf P (mx_mc M) j = some (c, k, t, b) ∧ G.1 a = some (.inr (c, fs)) ∧ fs[k]? = some v) ∨ mx_te P (mx_mc M) j a = some v) ∧ K (pc + 3) L (v :: r) G
  | .putfield j => n = 3 ∧ ∃ v a c k t b fs r, st = v :: .ref a :: r ∧ mx_tf P (mx_mc M) j = some (c, k, t, b) ∧ G.1 a = some (.inr (c, fs)) ∧ mx_t0 P ≤ a ∧ (b = true → (mx_my M).name = "<init>" ∧ c = mx_mc M) ∧ narrow t v = v ∧ fits t v = true ∧ k < fs.length ∧ K (pc + 3) L r (mx_up G a (.inr (c, fs.set k v)))
  | .getstatic j => n = 3 ∧ ∃ v, mx_ts P (mx_mc M) j = some v ∧ K (pc + 3) L (v :: st) G
  | .checkcast j => n = 3 ∧ ∃ x r, st = va_rf x :: r ∧ (∀ a, x = some a → ∃ cs c fs, mx_tk P (mx_mc M) j = some cs ∧ G.1 a = some (.inr (c, fs)) ∧ c ∈ cs) ∧ K (pc + 3) L (va_rf x :: r) G
  | .invokevirtual j => n = 3 ∧ ∃ a x r na M', st = .ref a :: r ∧ mx_tm P (mx_mc M) j = some (21, na, M') ∧ G.1 a = some (.inl (4, x)) ∧ (r.map fun v => v.category).sum ≤ 8 ∧ 1 ≤ mx_mf M ∧ 22 ≤ mx_mw M ∧ K (pc + 3) L (.ref (mx_tr P) :: r) G
  | .invokestatic j => n = 3 ∧ ((∃ sp dp cn a0 a n0 n1 f g r na M', st = .int cn :: .int dp :: .ref a :: .int sp :: .ref a0 :: r ∧ mx_tm P (mx_mc M) j = some (20, na, M') ∧ G.1 a0 = some (.inl (4, n0, mx_aq f)) ∧ G.1 a = some (.inl (4, n1, mx_aq g)) ∧ mx_t0 P ≤ a0 ∧ mx_t0 P ≤ a ∧ ¬ sp < 0 ∧ ¬ dp < 0 ∧ ¬ cn < 0 ∧ sp.toNatClampNeg + cn.toNatClampNeg ≤ n0 ∧ dp.toNatClampNeg + cn.toNatClampNeg ≤ n1 ∧ (∀ i, i < cn.toNatClampNeg → ∀ y, f (sp.toNatClampNeg + i) = some y → ∃ c fs, G.1 y = some (.inr (c, fs)) ∧ mx_tg P 4 c = true) ∧ (r.map fun v => v.category).sum ≤ 8 ∧ 1 ≤ mx_mf M ∧ 40 ≤ mx_mw M ∧ K (pc + 3) L r (mx_up G a (.inl (4, n1, mx_aq (va_cpy f g sp.toNatClampNeg dp.toNatClampNeg cn.toNatClampNeg))))) ∨ (∃ x y r na M', st = .int y :: .int x :: r ∧ mx_tm P (mx_mc M) j = some (22, na, M') ∧ (r.map fun v => v.category).sum ≤ 8 ∧ 1 ≤ mx_mf M ∧ 24 ≤ mx_mw M ∧ K (pc + 3) L (.int (if y < x then y else x) :: r) G) ∨ (∃ x y r na M', st = .int y :: .int x :: r ∧ mx_tm P (mx_mc M) j = some (23, na, M') ∧ (r.map fun v => v.category).sum ≤ 8 ∧ 1 ≤ mx_mf M ∧ 24 ≤ mx_mw M ∧ K (pc + 3) L (.int (if x < y then y else x) :: r) G) ∨ (∃ x y r na M', st = .long y :: .long x :: r ∧ mx_tm P (mx_mc M) j = some (24, na, M') ∧ (r.map fun v => v.category).sum ≤ 8 ∧ 1 ≤ mx_mf M ∧ 24 ≤ mx_mw M ∧ K (pc + 3) L (.long (if y < x then y else x) :: r) G) ∨ (∃ x y r na M', st = .long y :: .long x :: r ∧ mx_tm P (mx_mc M) j = some (25, na, M') ∧ (r.map fun v => v.category).sum ≤ 8 ∧ 1 ≤ mx_mf M ∧ 24 ≤ mx_mw M ∧ K (pc + 3) L (.long (if y < x then x else y) :: r) G))
  | _ => False
/-- a method's end -/
def mx_rt (M : mx_M) (st : List Value) (G : mx_H) (n : Nat) (Q : mx_O → mx_H → Prop) (i : Instr) : Prop :=
  match i with
  | .ireturn => n = 1 ∧ ∃ x ty, st = [.int x] ∧ mx_mr M = some ty ∧ narrow ty (.int x) = .int x ∧ Q (.inl (some (.int x))) G
  | .lreturn => n = 1 ∧ ∃ x, st = [.long x] ∧ mx_mr M = some .long ∧ Q (.inl (some (.long x))) G
  | .areturn => n = 1 ∧ ∃ x ty, st = [x] ∧ mx_rv x ∧ mx_mr M = some ty ∧ ((∃ n, ty = .object n) ∨ ∃ t, ty = .array t) ∧ Q (.inl (some x)) G
  | .return_ => n = 1 ∧ st = [] ∧ mx_mr M = none ∧ Q (.inl none) G
  | _ => False
/-- a call: kind (0 of an object's method, 1 a constructor, 11 one of a nest mate's, 2 static), the method, its arguments as they come, the operand stack below; the room below -/
def mx_ca (P : mx_T) (M : mx_M) (st : List Value) (G : mx_H) (n : Nat) (i : Instr) (M' : mx_M) (as rest : List Value) : Prop :=
  n = 3 ∧ (rest.map fun v => v.category).sum ≤ 8 ∧ (lg_sl as).length ≤ mx_ml M' ∧ mx_mf M' + 1 ≤ mx_mf M ∧ 8 + (mx_ml M' + 11) + mx_mw M' ≤ mx_mw M ∧ mx_eg (mx_mg M') 0 as = true ∧ match i with
  | .invokevirtual j => ∃ na a bs, mx_tm P (mx_mc M) j = some (0, na, M') ∧ bs.length = na ∧ as = .ref a :: bs ∧ st = bs.reverse ++ .ref a :: rest ∧ ((∃ fs, G.1 a = some (.inr (mx_mc M', fs))) ∨ mx_to P a = some (mx_mc M'))
  | .invokespecial j => ∃ k na a bs, mx_tm P (mx_mc M) j = some (k, na, M') ∧ (k = 1 ∨ k = 11) ∧ bs.length = na ∧ as = .ref a :: bs ∧ st = bs.reverse ++ .ref a :: rest
  | .invokestatic j => ∃ na, mx_tm P (mx_mc M) j = some (2, na, M') ∧ as.length = na ∧ st = as.reverse ++ rest
  | _ => False
/-- Object's constructor -/
def mx_oi (P : mx_T) (M : mx_M) (st : List Value) (n : Nat) (i : Instr) (rest : List Value) : Prop :=
  match i with
  | .invokespecial j => n = 3 ∧ (∃ na M', mx_tm P (mx_mc M) j = some (3, na, M')) ∧ (rest.map fun v => v.category).sum ≤ 8 ∧ 1 ≤ mx_mf M ∧ 20 ≤ mx_mw M ∧ ∃ a : Nat, st = .ref a :: rest
  | _ => False
/-- throws of the class's own: the exception's number; places in the pool: its class, its text, its constructor -/
def mx_xt : List (Nat × Nat × Nat × Nat) := [(1, 214, 216, 218), (2, 221, 223, 225), (1, 214, 230, 218), (2, 221, 235, 225), (1, 214, 259, 218), (2, 221, 261, 225)]
/-- new, dup, ldc, invokespecial, athrow: an end -/
def mx_th (M : mx_M) (pc : Nat) (st : List Value) (G : mx_H) (n : Nat) (Q : mx_O → mx_H → Prop) (i : Instr) : Prop :=
  match i with
  | .new j => n = 3 ∧ st = [] ∧ mx_mc M = 8 ∧ ∃ e tx ic, (e, j, tx, ic) ∈ mx_xt ∧ decode (mx_mb M) (pc + 3) = .ok (.dup, 1) ∧ (decode (mx_mb M) (pc + 4) = .ok (.ldc tx, 2) ∧ decode (mx_mb M) (pc + 6) = .ok (.invokespecial ic, 3) ∧ decode (mx_mb M) (pc + 9) = .ok (.athrow, 1) ∨ decode (mx_mb M) (pc + 4) = .ok (.ldc_w tx, 3) ∧ decode (mx_mb M) (pc + 7) = .ok (.invokespecial ic, 3) ∧ decode (mx_mb M) (pc + 10) = .ok (.athrow, 1)) ∧ Q (.inr (e, 0)) G
  | _ => False
/-- the law's three helpers that catch: place in the law's pool of the helper, of what the helper calls -/
def mx_tj (j : Nat) : Option Nat := if j = 78 then some 7 else if j = 87 then some 17 else if j = 97 then some 20 else none
/-- a call of such a helper: what it calls, with what, the array for the answer -/
def mx_ct (P : mx_T) (M : mx_M) (st : List Value) (G : mx_H) (n : Nat) (i : Instr) (M' : mx_M) (as : List Value) (a : Nat) (rest : List Value) : Prop :=
  match i with
  | .invokestatic j => n = 3 ∧ mx_mc M = 12 ∧ mx_mf M = 12 ∧ mx_mw M = 287 ∧ (rest.map fun v => v.category).sum ≤ 8 ∧ mx_t0 P ≤ a ∧ (∃ f, G.1 a = some (.inl (1, 1, .inr (.inl f)))) ∧ ∃ j' na g, ∃ xs : List Int32, mx_tj j = some j' ∧ mx_tm P 12 j' = some (0, na, M') ∧ xs.length = na ∧ as = .ref g :: xs.map Value.int ∧ st = .ref a :: ((xs.map Value.int).reverse ++ .ref g :: rest) ∧ ∃ fs, G.1 g = some (.inr (mx_mc M', fs))
  | _ => False
/-- a cell more, of which nothing is said -/
def mx_pv (G : mx_H) : mx_H := (G.1, G.2.1 + 1, G.2.2 + 6)
/-- what the helper makes of the end -/
def mx_tq (a : Nat) (o : mx_O) (G : mx_H) (K : Int32 → mx_H → Prop) : Prop :=
  match o with
  | .inl (some (.long b)) => ∃ f, G.1 a = some (.inl (1, 1, .inr (.inl f))) ∧ K 0 (mx_up G a (.inl (1, 1, .inr (.inl (vp_updL f 0 b)))))
  | .inr (e, _) => (e = 1 ∨ e = 2) ∧ K (nI e) (mx_pv G)
  | _ => False
/-- the weakest start from which at most k steps (calls counted by their depth and length) come to an end with Q -/
def mx_wp (P : mx_T) : Nat → mx_M → Nat → mx_L → List Value → mx_H → (mx_O → mx_H → Prop) → Prop
  | 0, _, _, _, _, _, _ => False
  | k + 1, M, pc, L, st, G, Q => ∃ i n, decode (mx_mb M) pc = .ok (i, n) ∧
      (mx_nx P M pc L st G n (fun pc' L' st' G' => mx_wp P k M pc' L' st' G' Q) i ∨ mx_rt M st G n Q i ∨
       (∃ rest, mx_oi P M st n i rest ∧ mx_wp P k M (pc + 3) L rest G Q) ∨
       (∃ M' as rest, mx_ca P M st G n i M' as rest ∧ mx_wp P k M' 0 (mx_en 0 as) [] G (fun o G' => ∃ v, o = .inl v ∧ mx_wp P k M (pc + 3) L (v.toList ++ rest) G' Q)) ∨
       mx_th M pc st G n Q i ∨
       (∃ M' as a rest, mx_ct P M st G n i M' as a rest ∧ mx_wp P k M' 0 (mx_en 0 as) [] G (fun o G' => mx_tq a o G' (fun x G'' => mx_wp P k M (pc + 3) L (.int x :: rest) G'' Q))))
