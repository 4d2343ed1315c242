section
/-! ===== A small machine over which the methods are read. Values are the model's; a heap is a function of addresses; locals are a function of places. A cell: an array (number of its type, contents), or an object (number of its class, fields). ===== -/
abbrev mx_C : Type := (Nat × vp_A) ⊕ (Nat × List Value)
/-- cells, how many there are, slots used -/
abbrev mx_H : Type := (Nat → Option mx_C) × Nat × Nat
abbrev mx_L : Type := Nat → Option Value
/-- returned, or threw: the exception's number, its address -/
abbrev mx_O : Type := Option Value ⊕ (Nat × Nat)
/-- class number, name, code, locals, type of the answer, places of longs, frames and locals' room below -/
abbrev mx_M : Type := Nat × MethodName × ByteArray × Nat × Option FieldType × List Nat × Nat × Nat
abbrev mx_mc (M : mx_M) : Nat := M.1
abbrev mx_my (M : mx_M) : MethodName := M.2.1
abbrev mx_mb (M : mx_M) : ByteArray := M.2.2.1
abbrev mx_ml (M : mx_M) : Nat := M.2.2.2.1
abbrev mx_mr (M : mx_M) : Option FieldType := M.2.2.2.2.1
abbrev mx_mg (M : mx_M) : List Nat := M.2.2.2.2.2.1
abbrev mx_mf (M : mx_M) : Nat := M.2.2.2.2.2.2.1
abbrev mx_mw (M : mx_M) : Nat := M.2.2.2.2.2.2.2
/-- a program's tables, by class number and pool index: fields (class, place, type, final), constants, classes to make (number, first fields), array types to make, casts (classes that pass), statics, calls (kind, arguments, method); the array types; which classes a reference array of a type takes; the first address that may be written -/
abbrev mx_T : Type := (Nat → Nat → Option (Nat × Nat × FieldType × Bool)) × (Nat → Nat → Option Value) × (Nat → Nat → Option (Nat × List Value)) × (Nat → Nat → Option Nat) × (Nat → Nat → Option (List Nat)) × (Nat → Nat → Option Value) × (Nat → Nat → Option (Nat × Nat × mx_M)) × List FieldType × (Nat → Nat → Bool) × Nat × Nat
abbrev mx_tf (P : mx_T) : Nat → Nat → Option (Nat × Nat × FieldType × Bool) := P.1
abbrev mx_tc (P : mx_T) : Nat → Nat → Option Value := P.2.1
abbrev mx_tn (P : mx_T) : Nat → Nat → Option (Nat × List Value) := P.2.2.1
abbrev mx_ta (P : mx_T) : Nat → Nat → Option Nat := P.2.2.2.1
abbrev mx_tk (P : mx_T) : Nat → Nat → Option (List Nat) := P.2.2.2.2.1
abbrev mx_ts (P : mx_T) : Nat → Nat → Option Value := P.2.2.2.2.2.1
abbrev mx_tm (P : mx_T) : Nat → Nat → Option (Nat × Nat × mx_M) := P.2.2.2.2.2.2.1
abbrev mx_ty (P : mx_T) : List FieldType := P.2.2.2.2.2.2.2.1
abbrev mx_tg (P : mx_T) : Nat → Nat → Bool := P.2.2.2.2.2.2.2.2.1
abbrev mx_t0 (P : mx_T) : Nat := P.2.2.2.2.2.2.2.2.2.1
/-- the class object of Object[] -/
abbrev mx_tr (P : mx_T) : Nat := P.2.2.2.2.2.2.2.2.2.2
/-- a cell anew; a cell more -/
def mx_up (G : mx_H) (a : Nat) (c : mx_C) : mx_H := (fun b => if b = a then some c else G.1 b, G.2.1, G.2.2)
def mx_pu (G : mx_H) (c : mx_C) (n : Nat) : mx_H := (fun b => if b = G.2.1 then some c else G.1 b, G.2.1 + 1, G.2.2 + n)
theorem mx_up_s (G : mx_H) (a : Nat) (c : mx_C) : (mx_up G a c).1 a = some c := by simp [mx_up]
theorem mx_up_n (G : mx_H) {a b : Nat} (c : mx_C) (h : b ≠ a) : (mx_up G a c).1 b = G.1 b := by simp [mx_up, h]
theorem mx_pu_s (G : mx_H) (c : mx_C) (n : Nat) : (mx_pu G c n).1 G.2.1 = some c := by simp [mx_pu]
theorem mx_pu_n (G : mx_H) {b : Nat} (c : mx_C) (n : Nat) (h : b ≠ G.2.1) : (mx_pu G c n).1 b = G.1 b := by simp [mx_pu, h]
/-- a local of one word, of two words -/
def mx_s1 (g : List Nat) (L : mx_L) (i : Nat) (v : Value) : mx_L := fun j => bif Nat.beq j i then some v else bif Nat.beq (j + 1) i && g.any (Nat.beq j) then none else L j
def mx_s2 (g : List Nat) (L : mx_L) (i : Nat) (v : Value) : mx_L := fun j => bif Nat.beq j i then some v else bif Nat.beq j (i + 1) then none else bif Nat.beq (j + 1) i && g.any (Nat.beq j) then none else L j
/-- the locals with which a method begins -/
def mx_en : Nat → List Value → mx_L
  | _, [] => fun _ => none
  | i, v :: vs => fun j => bif Nat.beq j i then some v else mx_en (match v with | .long _ => i + 2 | .double _ => i + 2 | _ => i + 1) vs j
/-- the longs among the arguments lie where the method keeps longs -/
def mx_eg (g : List Nat) : Nat → List Value → Bool
  | _, [] => true
  | i, v :: vs => match v with
    | .long _ => g.any (Nat.beq i) && mx_eg g (i + 2) vs
    | .double _ => false
    | _ => mx_eg g (i + 1) vs
def mx_rv (v : Value) : Prop := v = .null ∨ ∃ a : Nat, v = .ref a
def mx_cd (k : Jvm.ClassFile.Cond) (x y : Int32) : Prop := match k with
  | .eq => x = y
  | .ne => ¬ x = y
  | .lt => x < y
  | .ge => y ≤ x
  | .gt => y < x
  | .le => x ≤ y
def mx_aq (f : Nat → Option Nat) : (Nat → Int32) ⊕ (Nat → Int64) ⊕ (Nat → UInt32) ⊕ (Nat → UInt64) ⊕ (Nat → Option Nat) := .inr (.inr (.inr (.inr f)))
/-- one instruction that is neither a call nor an end: what must hold for it to go on, and how it goes on -/
def mx_nx (P : mx_T) (M : mx_M) (pc : Nat) (L : mx_L) (st : List Value) (G : mx_H) (n : Nat) (K : Nat → mx_L → List Value → mx_H → Prop) (i : Instr) : Prop :=
  match i with
  | .aconst_null => n = 1 ∧ K (pc + 1) L (.null :: st) G
  | .iconst k => n = 1 ∧ K (pc + 1) L (.int (Int32.ofInt k) :: st) G
  | .lconst k => n = 1 ∧ K (pc + 1) L (.long (Int64.ofNat k) :: st) G
  | .bipush k => n = 2 ∧ K (pc + 2) L (.int (Int8.ofInt k).toInt32 :: st) G
  | .sipush k => n = 3 ∧ K (pc + 3) L (.int (Int16.ofInt k).toInt32 :: st) G
  | .ldc k => n = 2 ∧ ∃ x, mx_tc P (mx_mc M) k = some x ∧ ((∃ y, x = .int y) ∨ x = .ref (mx_tr P)) ∧ K (pc + 2) L (x :: st) G
  | .ldc_w k => n = 3 ∧ ∃ x, mx_tc P (mx_mc M) k = some (.int x) ∧ K (pc + 3) L (.int x :: st) G
  | .ldc2_w k => n = 3 ∧ ∃ x, mx_tc P (mx_mc M) k = some (.long x) ∧ K (pc + 3) L (.long x :: st) G
  | .iload_n k => n = 1 ∧ ∃ x, L k = some (.int x) ∧ K (pc + 1) L (.int x :: st) G
  | .iload k => n = 2 ∧ ∃ x, L k = some (.int x) ∧ K (pc + 2) L (.int x :: st) G
  | .lload_n k => n = 1 ∧ ∃ x, L k = some (.long x) ∧ K (pc + 1) L (.long x :: st) G
  | .lload k => n = 2 ∧ ∃ x, L k = some (.long x) ∧ K (pc + 2) L (.long x :: st) G
  | .aload_n k => n = 1 ∧ ∃ x, L k = some x ∧ mx_rv x ∧ K (pc + 1) L (x :: st) G
  | .aload k => n = 2 ∧ ∃ x, L k = some x ∧ mx_rv x ∧ K (pc + 2) L (x :: st) G
  | .istore_n k => n = 1 ∧ ∃ x r, st = .int x :: r ∧ (k : Nat) < mx_ml M ∧ K (pc + 1) (mx_s1 (mx_mg M) L k (.int x)) r G
  | .istore k => n = 2 ∧ ∃ x r, st = .int x :: r ∧ k < mx_ml M ∧ K (pc + 2) (mx_s1 (mx_mg M) L k (.int x)) r G
  | .lstore_n k => n = 1 ∧ ∃ x r, st = .long x :: r ∧ (k : Nat) + 1 < mx_ml M ∧ (mx_mg M).any (Nat.beq k) = true ∧ K (pc + 1) (mx_s2 (mx_mg M) L k (.long x)) r G
  | .lstore k => n = 2 ∧ ∃ x r, st = .long x :: r ∧ k + 1 < mx_ml M ∧ (mx_mg M).any (Nat.beq k) = true ∧ K (pc + 2) (mx_s2 (mx_mg M) L k (.long x)) r G
  | .astore_n k => n = 1 ∧ ∃ x r, st = x :: r ∧ mx_rv x ∧ (k : Nat) < mx_ml M ∧ K (pc + 1) (mx_s1 (mx_mg M) L k x) r G
  | .astore k => n = 2 ∧ ∃ x r, st = x :: r ∧ mx_rv x ∧ k < mx_ml M ∧ K (pc + 2) (mx_s1 (mx_mg M) L k x) r G
  | .iinc k c => n = 3 ∧ ∃ x, L k = some (.int x) ∧ k < mx_ml M ∧ K (pc + 3) (mx_s1 (mx_mg M) L k (.int (x + Int32.ofInt c))) st G
  | .iadd => n = 1 ∧ ∃ x y r, st = .int y :: .int x :: r ∧ K (pc + 1) L (.int (x + y) :: r) G
  | .isub => n = 1 ∧ ∃ x y r, st = .int y :: .int x :: r ∧ K (pc + 1) L (.int (x - y) :: r) G
  | .imul => n = 1 ∧ ∃ x y r, st = .int y :: .int x :: r ∧ K (pc + 1) L (.int (x * y) :: r) G
  | .iand => n = 1 ∧ ∃ x y r, st = .int y :: .int x :: r ∧ K (pc + 1) L (.int (x &&& y) :: r) G
  | .ixor => n = 1 ∧ ∃ x y r, st = .int y :: .int x :: r ∧ K (pc + 1) L (.int (x ^^^ y) :: r) G
  | .ishr => n = 1 ∧ ∃ x y r, st = .int y :: .int x :: r ∧ K (pc + 1) L (.int (x >>> (y &&& 31)) :: r) G
  | .ladd => n = 1 ∧ ∃ x y r, st = .long y :: .long x :: r ∧ K (pc + 1) L (.long (x + y) :: r) G
  | .lsub => n = 1 ∧ ∃ x y r, st = .long y :: .long x :: r ∧ K (pc + 1) L (.long (x - y) :: r) G
  | .lmul => n = 1 ∧ ∃ x y r, st = .long y :: .long x :: r ∧ K (pc + 1) L (.long (x * y) :: r) G
  | .ldiv => n = 1 ∧ ∃ x y r, st = .long y :: .long x :: r ∧ ¬ y = 0 ∧ K (pc + 1) L (.long (x / y) :: r) G
  | .lrem => n = 1 ∧ ∃ x y r, st = .long y :: .long x :: r ∧ ¬ y = 0 ∧ K (pc + 1) L (.long (x - x / y * y) :: r) G
  | .land => n = 1 ∧ ∃ x y r, st = .long y :: .long x :: r ∧ K (pc + 1) L (.long (x &&& y) :: r) G
  | .lor => n = 1 ∧ ∃ x y r, st = .long y :: .long x :: r ∧ K (pc + 1) L (.long (x ||| y) :: r) G
  | .lxor => n = 1 ∧ ∃ x y r, st = .long y :: .long x :: r ∧ K (pc + 1) L (.long (x ^^^ y) :: r) G
  | .lshl => n = 1 ∧ ∃ x y r, st = .int y :: .long x :: r ∧ K (pc + 1) L (.long (x <<< (y.toInt64 &&& 63)) :: r) G
  | .lshr => n = 1 ∧ ∃ x y r, st = .int y :: .long x :: r ∧ K (pc + 1) L (.long (x >>> (y.toInt64 &&& 63)) :: r) G
  | .i2l => n = 1 ∧ ∃ x r, st = .int x :: r ∧ K (pc + 1) L (.long x.toInt64 :: r) G
  | .l2i => n = 1 ∧ ∃ x r, st = .long x :: r ∧ K (pc + 1) L (.int x.toInt32 :: r) G
  | .i2b => n = 1 ∧ ∃ x r, st = .int x :: r ∧ K (pc + 1) L (.int x.toInt8.toInt32 :: r) G
  | .lcmp => n = 1 ∧ ∃ x y r, st = .long y :: .long x :: r ∧ K (pc + 1) L (.int (lg_cmp x y) :: r) G
  | .dup => n = 1 ∧ ∃ x r, st = x :: r ∧ x.category = 1 ∧ K (pc + 1) L (x :: x :: r) G
  | .dup_x1 => n = 1 ∧ ∃ x y r, st = x :: y :: r ∧ x.category = 1 ∧ y.category = 1 ∧ K (pc + 1) L (x :: y :: x :: r) G
  | .pop => n = 1 ∧ ∃ x r, st = x :: r ∧ x.category = 1 ∧ K (pc + 1) L r G
  | .ifCond k off => n = 3 ∧ ∃ x r, ∃ t : Nat, st = .int x :: r ∧ (pc : Int) + off = (t : Int) ∧ (mx_cd k x 0 → K t L r G) ∧ (¬ mx_cd k x 0 → K (pc + 3) L r G)
  | .if_icmp k off => n = 3 ∧ ∃ x y r, ∃ t : Nat, st = .int y :: .int x :: r ∧ (pc : Int) + off = (t : Int) ∧ (mx_cd k x y → K t L r G) ∧ (¬ mx_cd k x y → K (pc + 3) L r G)
  | .if_acmp .eq off => n = 3 ∧ ∃ x y r, ∃ t : Nat, st = va_rf y :: va_rf x :: r ∧ (pc : Int) + off = (t : Int) ∧ (x = y → K t L r G) ∧ (¬ x = y → K (pc + 3) L r G)
  | .if_acmp .ne off => n = 3 ∧ ∃ x y r, ∃ t : Nat, st = va_rf y :: va_rf x :: r ∧ (pc : Int) + off = (t : Int) ∧ (¬ x = y → K t L r G) ∧ (x = y → K (pc + 3) L r G)
  | .ifnull off => n = 3 ∧ ∃ x r, ∃ t : Nat, st = va_rf x :: r ∧ (pc : Int) + off = (t : Int) ∧ (x = none → K t L r G) ∧ (¬ x = none → K (pc + 3) L r G)
  | .ifnonnull off => n = 3 ∧ ∃ x r, ∃ t : Nat, st = va_rf x :: r ∧ (pc : Int) + off = (t : Int) ∧ (¬ x = none → K t L r G) ∧ (x = none → K (pc + 3) L r G)
  | .goto off => n = 3 ∧ ∃ t : Nat, (pc : Int) + off = (t : Int) ∧ K t L st G
  | .tableswitch d lo hi offs => ∃ x r, st = .int x :: r ∧ ((x.toInt < lo ∨ hi < x.toInt) → ∃ t : Nat, (pc : Int) + d = (t : Int) ∧ K t L r G) ∧ (¬ (x.toInt < lo ∨ hi < x.toInt) → ∃ off, ∃ t : Nat, offs[(x.toInt - lo).toNat]? = some off ∧ (pc : Int) + off = (t : Int) ∧ K t L r G)
  | .lookupswitch d ps => ∃ x r, ∃ t : Nat, st = .int x :: r ∧ (ps.toList.zip (ps.toList.drop 1)).all (fun (a, next) => a.1 < next.1) = true ∧ (pc : Int) + Op.lookupswitch.offset ps.toList d x.toInt = (t : Int) ∧ K t L r G
  | .arraylength => n = 1 ∧ ∃ a t x r, st = .ref a :: r ∧ G.1 a = some (.inl (t, x)) ∧ (t < (mx_ty P).length ∨ t = 99) ∧ K (pc + 1) L (.int (Int32.ofNat x.1) :: r) G
  | .iaload => n = 1 ∧ ∃ i a t m f r, st = .int i :: .ref a :: r ∧ (t = 0 ∨ t = 99) ∧ G.1 a = some (.inl (t, m, .inl f)) ∧ vp_in i m ∧ K (pc + 1) L (.int (f i.toNatClampNeg) :: r) G
  | .laload => n = 1 ∧ ∃ i a m f r, st = .int i :: .ref a :: r ∧ G.1 a = some (.inl (1, m, .inr (.inl f))) ∧ vp_in i m ∧ K (pc + 1) L (.long (f i.toNatClampNeg) :: r) G
  | .baload => n = 1 ∧ ∃ i a t m f r, st = .int i :: .ref a :: r ∧ (t = 2 ∨ t = 3) ∧ G.1 a = some (.inl (t, m, .inl f)) ∧ vp_in i m ∧ K (pc + 1) L (.int (f i.toNatClampNeg) :: r) G
  | .aaload => n = 1 ∧ ∃ i a t m f r, st = .int i :: .ref a :: r ∧ 4 ≤ t ∧ t < (mx_ty P).length ∧ G.1 a = some (.inl (t, m, mx_aq f)) ∧ vp_in i m ∧ K (pc + 1) L (va_rf (f i.toNatClampNeg) :: r) G
  | .iastore => n = 1 ∧ ∃ x i a m f r, st = .int x :: .int i :: .ref a :: r ∧ G.1 a = some (.inl (0, m, .inl f)) ∧ mx_t0 P ≤ a ∧ vp_in i m ∧ K (pc + 1) L r (mx_up G a (.inl (0, m, .inl (upd f i.toNatClampNeg x))))
  | .lastore => n = 1 ∧ ∃ x i a m f r, st = .long x :: .int i :: .ref a :: r ∧ G.1 a = some (.inl (1, m, .inr (.inl f))) ∧ mx_t0 P ≤ a ∧ vp_in i m ∧ K (pc + 1) L r (mx_up G a (.inl (1, m, .inr (.inl (vp_updL f i.toNatClampNeg x)))))
  | .bastore => n = 1 ∧ ∃ x i a t m f r, st = .int x :: .int i :: .ref a :: r ∧ (t = 2 ∨ t = 3) ∧ G.1 a = some (.inl (t, m, .inl f)) ∧ mx_t0 P ≤ a ∧ vp_in i m ∧ K (pc + 1) L r (mx_up G a (.inl (t, m, .inl (upd f i.toNatClampNeg (vp_nar (if t = 2 then .byte else .boolean) x)))))
  | .aastore => n = 1 ∧ ∃ x i a t m f r, st = va_rf x :: .int i :: .ref a :: r ∧ 4 ≤ t ∧ t < (mx_ty P).length ∧ G.1 a = some (.inl (t, m, mx_aq f)) ∧ mx_t0 P ≤ a ∧ vp_in i m ∧ (∀ q, x = some q → ∃ c fs, G.1 q = some (.inr (c, fs)) ∧ mx_tg P t c = true) ∧ K (pc + 1) L r (mx_up G a (.inl (t, m, mx_aq (va_up f i.toNatClampNeg x))))
  | .newarray .int => n = 2 ∧ ∃ k r, st = .int k :: r ∧ ¬ k < 0 ∧ k.toNatClampNeg ≤ 1000000 ∧ K (pc + 2) L (.ref G.2.1 :: r) (mx_pu G (.inl (0, k.toNatClampNeg, .inl (fun _ => 0))) k.toNatClampNeg)
  | .newarray .long => n = 2 ∧ ∃ k r, st = .int k :: r ∧ ¬ k < 0 ∧ k.toNatClampNeg ≤ 1000000 ∧ K (pc + 2) L (.ref G.2.1 :: r) (mx_pu G (.inl (1, k.toNatClampNeg, .inr (.inl (fun _ => 0)))) k.toNatClampNeg)
  | .newarray .byte => n = 2 ∧ ∃ k r, st = .int k :: r ∧ ¬ k < 0 ∧ k.toNatClampNeg ≤ 1000000 ∧ K (pc + 2) L (.ref G.2.1 :: r) (mx_pu G (.inl (2, k.toNatClampNeg, .inl (fun _ => 0))) k.toNatClampNeg)
  | .newarray .boolean => n = 2 ∧ ∃ k r, st = .int k :: r ∧ ¬ k < 0 ∧ k.toNatClampNeg ≤ 1000000 ∧ K (pc + 2) L (.ref G.2.1 :: r) (mx_pu G (.inl (3, k.toNatClampNeg, .inl (fun _ => 0))) k.toNatClampNeg)
  | .anewarray j => n = 3 ∧ ∃ k t r, st = .int k :: r ∧ mx_ta P (mx_mc M) j = some t ∧ ¬ k < 0 ∧ k.toNatClampNeg ≤ 1000000 ∧ K (pc + 3) L (.ref G.2.1 :: r) (mx_pu G (.inl (t, k.toNatClampNeg, mx_aq (fun _ => none))) k.toNatClampNeg)
  | .new j => n = 3 ∧ ∃ c fs, mx_tn P (mx_mc M) j = some (c, fs) ∧ K (pc + 3) L (.ref G.2.1 :: st) (mx_pu G (.inr (c, fs)) fs.length)
  | .getfield j => n = 3 ∧ ∃ a c k t b fs v r, st = .ref a :: r ∧ mx_tf P (mx_mc M) j = some (c, k, t, b) ∧ G.1 a = some (.inr (c, fs)) ∧ fs[k]? = some v ∧ K (pc + 3) L (v :: r) G
  | .putfield j => n = 3 ∧ ∃ v a c k t b fs r, st = v :: .ref a :: r ∧ mx_tf P (mx_mc M) j = some (c, k, t, b) ∧ G.1 a = some (.inr (c, fs)) ∧ mx_t0 P ≤ a ∧ (b = true → (mx_my M).name = "<init>") ∧ narrow t v = v ∧ fits t v = true ∧ k < fs.length ∧ K (pc + 3) L r (mx_up G a (.inr (c, fs.set k v)))
  | .getstatic j => n = 3 ∧ ∃ v, mx_ts P (mx_mc M) j = some v ∧ K (pc + 3) L (v :: st) G
  | .checkcast j => n = 3 ∧ ∃ x r, st = va_rf x :: r ∧ (∀ a, x = some a → ∃ cs c fs, mx_tk P (mx_mc M) j = some cs ∧ G.1 a = some (.inr (c, fs)) ∧ c ∈ cs) ∧ K (pc + 3) L (va_rf x :: r) G
  | .invokevirtual j => n = 3 ∧ ∃ a x r na M', st = .ref a :: r ∧ mx_tm P (mx_mc M) j = some (21, na, M') ∧ G.1 a = some (.inl (4, x)) ∧ (r.map fun v => v.category).sum ≤ 8 ∧ 1 ≤ mx_mf M ∧ 22 ≤ mx_mw M ∧ K (pc + 3) L (.ref (mx_tr P) :: r) G
  | .invokestatic j => n = 3 ∧ ∃ sp dp cn a0 a n0 n1 f g r na M', st = .int cn :: .int dp :: .ref a :: .int sp :: .ref a0 :: r ∧ mx_tm P (mx_mc M) j = some (20, na, M') ∧ G.1 a0 = some (.inl (4, n0, mx_aq f)) ∧ G.1 a = some (.inl (4, n1, mx_aq g)) ∧ mx_t0 P ≤ a0 ∧ mx_t0 P ≤ a ∧ ¬ sp < 0 ∧ ¬ dp < 0 ∧ ¬ cn < 0 ∧ sp.toNatClampNeg + cn.toNatClampNeg ≤ n0 ∧ dp.toNatClampNeg + cn.toNatClampNeg ≤ n1 ∧ (∀ i, i < cn.toNatClampNeg → ∀ y, f (sp.toNatClampNeg + i) = some y → ∃ c fs, G.1 y = some (.inr (c, fs)) ∧ mx_tg P 4 c = true) ∧ (r.map fun v => v.category).sum ≤ 8 ∧ 1 ≤ mx_mf M ∧ 40 ≤ mx_mw M ∧ K (pc + 3) L r (mx_up G a (.inl (4, n1, mx_aq (va_cpy f g sp.toNatClampNeg dp.toNatClampNeg cn.toNatClampNeg))))
  | _ => False
/-- a method's end -/
def mx_rt (M : mx_M) (st : List Value) (G : mx_H) (n : Nat) (Q : mx_O → mx_H → Prop) (i : Instr) : Prop :=
  match i with
  | .ireturn => n = 1 ∧ ∃ x ty, st = [.int x] ∧ mx_mr M = some ty ∧ narrow ty (.int x) = .int x ∧ Q (.inl (some (.int x))) G
  | .lreturn => n = 1 ∧ ∃ x, st = [.long x] ∧ mx_mr M = some .long ∧ Q (.inl (some (.long x))) G
  | .areturn => n = 1 ∧ ∃ x ty, st = [x] ∧ mx_rv x ∧ mx_mr M = some ty ∧ ((∃ n, ty = .object n) ∨ ∃ t, ty = .array t) ∧ Q (.inl (some x)) G
  | .return_ => n = 1 ∧ st = [] ∧ mx_mr M = none ∧ Q (.inl none) G
  | _ => False
/-- a call: kind (0 of an object's method, 1 a constructor, 11 one of a nest mate's, 2 static), the method, its arguments as they come, the operand stack below; the room below -/
def mx_ca (P : mx_T) (M : mx_M) (st : List Value) (G : mx_H) (n : Nat) (i : Instr) (M' : mx_M) (as rest : List Value) : Prop :=
  n = 3 ∧ (rest.map fun v => v.category).sum ≤ 8 ∧ (lg_sl as).length ≤ mx_ml M' ∧ mx_mf M' + 1 ≤ mx_mf M ∧ 8 + (mx_ml M' + 11) + mx_mw M' ≤ mx_mw M ∧ mx_eg (mx_mg M') 0 as = true ∧ match i with
  | .invokevirtual j => ∃ na a bs c fs, mx_tm P (mx_mc M) j = some (0, na, M') ∧ bs.length = na ∧ as = .ref a :: bs ∧ st = bs.reverse ++ .ref a :: rest ∧ G.1 a = some (.inr (c, fs)) ∧ c = mx_mc M'
  | .invokespecial j => ∃ k na a bs, mx_tm P (mx_mc M) j = some (k, na, M') ∧ (k = 1 ∨ k = 11) ∧ bs.length = na ∧ as = .ref a :: bs ∧ st = bs.reverse ++ .ref a :: rest
  | .invokestatic j => ∃ na, mx_tm P (mx_mc M) j = some (2, na, M') ∧ as.length = na ∧ st = as.reverse ++ rest
  | _ => False
/-- Object's constructor -/
def mx_oi (P : mx_T) (M : mx_M) (st : List Value) (n : Nat) (i : Instr) (rest : List Value) : Prop :=
  match i with
  | .invokespecial j => n = 3 ∧ (∃ na M', mx_tm P (mx_mc M) j = some (3, na, M')) ∧ (rest.map fun v => v.category).sum ≤ 8 ∧ 1 ≤ mx_mf M ∧ 20 ≤ mx_mw M ∧ ∃ a : Nat, st = .ref a :: rest
  | _ => False
/-- the weakest start from which at most k steps (calls counted by their depth and length) come to an end with Q -/
def mx_wp (P : mx_T) : Nat → mx_M → Nat → mx_L → List Value → mx_H → (mx_O → mx_H → Prop) → Prop
  | 0, _, _, _, _, _, _ => False
  | k + 1, M, pc, L, st, G, Q => ∃ i n, decode (mx_mb M) pc = .ok (i, n) ∧
      (mx_nx P M pc L st G n (fun pc' L' st' G' => mx_wp P k M pc' L' st' G' Q) i ∨ mx_rt M st G n Q i ∨
       (∃ rest, mx_oi P M st n i rest ∧ mx_wp P k M (pc + 3) L rest G Q) ∨
       (∃ M' as rest, mx_ca P M st G n i M' as rest ∧ mx_wp P k M' 0 (mx_en 0 as) [] G (fun o G' => ∃ v, o = .inl v ∧ mx_wp P k M (pc + 3) L (v.toList ++ rest) G' Q)))
end
section
set_option maxHeartbeats 4000000 in
/-- an instruction goes on in one way, and takes nothing back -/
theorem mx_nx_one {P : mx_T} {M : mx_M} {pc : Nat} {L : mx_L} {st : List Value} {G : mx_H} {n : Nat} {K : Nat → mx_L → List Value → mx_H → Prop} {i : Instr} (h : mx_nx P M pc L st G n K i) :
    ∃ pc' L' st' G', K pc' L' st' G' ∧ G.2.1 ≤ G'.2.1 ∧ G.2.2 ≤ G'.2.2 ∧ ∀ K' : Nat → mx_L → List Value → mx_H → Prop, K' pc' L' st' G' → mx_nx P M pc L st G n K' i := by
  cases i
  case ifCond k off =>
    obtain ⟨e, x, r, t, e1, e2, ht, hf⟩ := h
    by_cases hc : mx_cd k x 0
    · exact ⟨_, _, _, _, ht hc, Nat.le_refl _, Nat.le_refl _, fun K' h' => ⟨e, x, r, t, e1, e2, fun _ => h', fun q => absurd hc q⟩⟩
    · exact ⟨_, _, _, _, hf hc, Nat.le_refl _, Nat.le_refl _, fun K' h' => ⟨e, x, r, t, e1, e2, fun q => absurd q hc, fun _ => h'⟩⟩
  case if_icmp k off =>
    obtain ⟨e, x, y, r, t, e1, e2, ht, hf⟩ := h
    by_cases hc : mx_cd k x y
    · exact ⟨_, _, _, _, ht hc, Nat.le_refl _, Nat.le_refl _, fun K' h' => ⟨e, x, y, r, t, e1, e2, fun _ => h', fun q => absurd hc q⟩⟩
    · exact ⟨_, _, _, _, hf hc, Nat.le_refl _, Nat.le_refl _, fun K' h' => ⟨e, x, y, r, t, e1, e2, fun q => absurd q hc, fun _ => h'⟩⟩
  case if_acmp k off =>
    cases k
    case eq =>
      obtain ⟨e, x, y, r, t, e1, e2, ht, hf⟩ := h
      by_cases hc : x = y
      · exact ⟨_, _, _, _, ht hc, Nat.le_refl _, Nat.le_refl _, fun K' h' => ⟨e, x, y, r, t, e1, e2, fun _ => h', fun q => absurd hc q⟩⟩
      · exact ⟨_, _, _, _, hf hc, Nat.le_refl _, Nat.le_refl _, fun K' h' => ⟨e, x, y, r, t, e1, e2, fun q => absurd q hc, fun _ => h'⟩⟩
    case ne =>
      obtain ⟨e, x, y, r, t, e1, e2, ht, hf⟩ := h
      by_cases hc : x = y
      · exact ⟨_, _, _, _, hf hc, Nat.le_refl _, Nat.le_refl _, fun K' h' => ⟨e, x, y, r, t, e1, e2, fun q => absurd hc q, fun _ => h'⟩⟩
      · exact ⟨_, _, _, _, ht hc, Nat.le_refl _, Nat.le_refl _, fun K' h' => ⟨e, x, y, r, t, e1, e2, fun _ => h', fun q => absurd q hc⟩⟩
  case ifnull off =>
    obtain ⟨e, x, r, t, e1, e2, ht, hf⟩ := h
    by_cases hc : x = none
    · exact ⟨_, _, _, _, ht hc, Nat.le_refl _, Nat.le_refl _, fun K' h' => ⟨e, x, r, t, e1, e2, fun _ => h', fun q => absurd hc q⟩⟩
    · exact ⟨_, _, _, _, hf hc, Nat.le_refl _, Nat.le_refl _, fun K' h' => ⟨e, x, r, t, e1, e2, fun q => absurd q hc, fun _ => h'⟩⟩
  case ifnonnull off =>
    obtain ⟨e, x, r, t, e1, e2, ht, hf⟩ := h
    by_cases hc : x = none
    · exact ⟨_, _, _, _, hf hc, Nat.le_refl _, Nat.le_refl _, fun K' h' => ⟨e, x, r, t, e1, e2, fun q => absurd hc q, fun _ => h'⟩⟩
    · exact ⟨_, _, _, _, ht hc, Nat.le_refl _, Nat.le_refl _, fun K' h' => ⟨e, x, r, t, e1, e2, fun _ => h', fun q => absurd q hc⟩⟩
  case tableswitch d lo hi offs =>
    obtain ⟨x, r, e1, ht, hf⟩ := h
    by_cases hc : x.toInt < lo ∨ hi < x.toInt
    · obtain ⟨t, e2, h⟩ := ht hc
      exact ⟨_, _, _, _, h, Nat.le_refl _, Nat.le_refl _, fun K' h' => ⟨x, r, e1, fun _ => ⟨t, e2, h'⟩, fun q => absurd hc q⟩⟩
    · obtain ⟨off, t, e2, e3, h⟩ := hf hc
      exact ⟨_, _, _, _, h, Nat.le_refl _, Nat.le_refl _, fun K' h' => ⟨x, r, e1, fun q => absurd q hc, fun _ => ⟨off, t, e2, e3, h'⟩⟩⟩
  case lookupswitch d ps =>
    obtain ⟨x, r, t, e1, e2, e3, h⟩ := h
    exact ⟨_, _, _, _, h, Nat.le_refl _, Nat.le_refl _, fun K' h' => ⟨x, r, t, e1, e2, e3, h'⟩⟩
  case newarray at9 =>
    cases at9
    all_goals first
    | exact False.elim h
    | (obtain ⟨e, a0, a1, a2, h⟩ := h; exact ⟨_, _, _, _, h, by first | exact Nat.le_refl _ | exact Nat.le_add_right _ _, by first | exact Nat.le_refl _ | exact Nat.le_add_right _ _, fun K' h' => ⟨e, a0, a1, a2, h'⟩⟩)
    | (obtain ⟨e, a0, a1, a2, a3, h⟩ := h; exact ⟨_, _, _, _, h, by first | exact Nat.le_refl _ | exact Nat.le_add_right _ _, by first | exact Nat.le_refl _ | exact Nat.le_add_right _ _, fun K' h' => ⟨e, a0, a1, a2, a3, h'⟩⟩)
    | (obtain ⟨e, a0, a1, a2, a3, a4, h⟩ := h; exact ⟨_, _, _, _, h, by first | exact Nat.le_refl _ | exact Nat.le_add_right _ _, by first | exact Nat.le_refl _ | exact Nat.le_add_right _ _, fun K' h' => ⟨e, a0, a1, a2, a3, a4, h'⟩⟩)
  all_goals first
    | exact False.elim h
    | (obtain ⟨e, h⟩ := h; exact ⟨_, _, _, _, h, by first | exact Nat.le_refl _ | exact Nat.le_add_right _ _, by first | exact Nat.le_refl _ | exact Nat.le_add_right _ _, fun K' h' => ⟨e, h'⟩⟩)
    | (obtain ⟨e, a0, h⟩ := h; exact ⟨_, _, _, _, h, by first | exact Nat.le_refl _ | exact Nat.le_add_right _ _, by first | exact Nat.le_refl _ | exact Nat.le_add_right _ _, fun K' h' => ⟨e, a0, h'⟩⟩)
    | (obtain ⟨e, a0, a1, h⟩ := h; exact ⟨_, _, _, _, h, by first | exact Nat.le_refl _ | exact Nat.le_add_right _ _, by first | exact Nat.le_refl _ | exact Nat.le_add_right _ _, fun K' h' => ⟨e, a0, a1, h'⟩⟩)
    | (obtain ⟨e, a0, a1, a2, h⟩ := h; exact ⟨_, _, _, _, h, by first | exact Nat.le_refl _ | exact Nat.le_add_right _ _, by first | exact Nat.le_refl _ | exact Nat.le_add_right _ _, fun K' h' => ⟨e, a0, a1, a2, h'⟩⟩)
    | (obtain ⟨e, a0, a1, a2, a3, h⟩ := h; exact ⟨_, _, _, _, h, by first | exact Nat.le_refl _ | exact Nat.le_add_right _ _, by first | exact Nat.le_refl _ | exact Nat.le_add_right _ _, fun K' h' => ⟨e, a0, a1, a2, a3, h'⟩⟩)
    | (obtain ⟨e, a0, a1, a2, a3, a4, h⟩ := h; exact ⟨_, _, _, _, h, by first | exact Nat.le_refl _ | exact Nat.le_add_right _ _, by first | exact Nat.le_refl _ | exact Nat.le_add_right _ _, fun K' h' => ⟨e, a0, a1, a2, a3, a4, h'⟩⟩)
    | (obtain ⟨e, a0, a1, a2, a3, a4, a5, h⟩ := h; exact ⟨_, _, _, _, h, by first | exact Nat.le_refl _ | exact Nat.le_add_right _ _, by first | exact Nat.le_refl _ | exact Nat.le_add_right _ _, fun K' h' => ⟨e, a0, a1, a2, a3, a4, a5, h'⟩⟩)
    | (obtain ⟨e, a0, a1, a2, a3, a4, a5, a6, h⟩ := h; exact ⟨_, _, _, _, h, by first | exact Nat.le_refl _ | exact Nat.le_add_right _ _, by first | exact Nat.le_refl _ | exact Nat.le_add_right _ _, fun K' h' => ⟨e, a0, a1, a2, a3, a4, a5, a6, h'⟩⟩)
    | (obtain ⟨e, a0, a1, a2, a3, a4, a5, a6, a7, h⟩ := h; exact ⟨_, _, _, _, h, by first | exact Nat.le_refl _ | exact Nat.le_add_right _ _, by first | exact Nat.le_refl _ | exact Nat.le_add_right _ _, fun K' h' => ⟨e, a0, a1, a2, a3, a4, a5, a6, a7, h'⟩⟩)
    | (obtain ⟨e, a0, a1, a2, a3, a4, a5, a6, a7, a8, h⟩ := h; exact ⟨_, _, _, _, h, by first | exact Nat.le_refl _ | exact Nat.le_add_right _ _, by first | exact Nat.le_refl _ | exact Nat.le_add_right _ _, fun K' h' => ⟨e, a0, a1, a2, a3, a4, a5, a6, a7, a8, h'⟩⟩)
    | (obtain ⟨e, a0, a1, a2, a3, a4, a5, a6, a7, a8, a9, h⟩ := h; exact ⟨_, _, _, _, h, by first | exact Nat.le_refl _ | exact Nat.le_add_right _ _, by first | exact Nat.le_refl _ | exact Nat.le_add_right _ _, fun K' h' => ⟨e, a0, a1, a2, a3, a4, a5, a6, a7, a8, a9, h'⟩⟩)
    | (obtain ⟨e, a0, a1, a2, a3, a4, a5, a6, a7, a8, a9, a10, h⟩ := h; exact ⟨_, _, _, _, h, by first | exact Nat.le_refl _ | exact Nat.le_add_right _ _, by first | exact Nat.le_refl _ | exact Nat.le_add_right _ _, fun K' h' => ⟨e, a0, a1, a2, a3, a4, a5, a6, a7, a8, a9, a10, h'⟩⟩)
    | (obtain ⟨e, a0, a1, a2, a3, a4, a5, a6, a7, a8, a9, a10, a11, h⟩ := h; exact ⟨_, _, _, _, h, by first | exact Nat.le_refl _ | exact Nat.le_add_right _ _, by first | exact Nat.le_refl _ | exact Nat.le_add_right _ _, fun K' h' => ⟨e, a0, a1, a2, a3, a4, a5, a6, a7, a8, a9, a10, a11, h'⟩⟩)
    | (obtain ⟨e, a0, a1, a2, a3, a4, a5, a6, a7, a8, a9, a10, a11, a12, h⟩ := h; exact ⟨_, _, _, _, h, by first | exact Nat.le_refl _ | exact Nat.le_add_right _ _, by first | exact Nat.le_refl _ | exact Nat.le_add_right _ _, fun K' h' => ⟨e, a0, a1, a2, a3, a4, a5, a6, a7, a8, a9, a10, a11, a12, h'⟩⟩)
    | (obtain ⟨e, a0, a1, a2, a3, a4, a5, a6, a7, a8, a9, a10, a11, a12, a13, h⟩ := h; exact ⟨_, _, _, _, h, by first | exact Nat.le_refl _ | exact Nat.le_add_right _ _, by first | exact Nat.le_refl _ | exact Nat.le_add_right _ _, fun K' h' => ⟨e, a0, a1, a2, a3, a4, a5, a6, a7, a8, a9, a10, a11, a12, a13, h'⟩⟩)
    | (obtain ⟨e, a0, a1, a2, a3, a4, a5, a6, a7, a8, a9, a10, a11, a12, a13, a14, h⟩ := h; exact ⟨_, _, _, _, h, by first | exact Nat.le_refl _ | exact Nat.le_add_right _ _, by first | exact Nat.le_refl _ | exact Nat.le_add_right _ _, fun K' h' => ⟨e, a0, a1, a2, a3, a4, a5, a6, a7, a8, a9, a10, a11, a12, a13, a14, h'⟩⟩)
    | (obtain ⟨e, a0, a1, a2, a3, a4, a5, a6, a7, a8, a9, a10, a11, a12, a13, a14, a15, h⟩ := h; exact ⟨_, _, _, _, h, by first | exact Nat.le_refl _ | exact Nat.le_add_right _ _, by first | exact Nat.le_refl _ | exact Nat.le_add_right _ _, fun K' h' => ⟨e, a0, a1, a2, a3, a4, a5, a6, a7, a8, a9, a10, a11, a12, a13, a14, a15, h'⟩⟩)
    | (obtain ⟨e, a0, a1, a2, a3, a4, a5, a6, a7, a8, a9, a10, a11, a12, a13, a14, a15, a16, h⟩ := h; exact ⟨_, _, _, _, h, by first | exact Nat.le_refl _ | exact Nat.le_add_right _ _, by first | exact Nat.le_refl _ | exact Nat.le_add_right _ _, fun K' h' => ⟨e, a0, a1, a2, a3, a4, a5, a6, a7, a8, a9, a10, a11, a12, a13, a14, a15, a16, h'⟩⟩)
    | (obtain ⟨e, a0, a1, a2, a3, a4, a5, a6, a7, a8, a9, a10, a11, a12, a13, a14, a15, a16, a17, h⟩ := h; exact ⟨_, _, _, _, h, by first | exact Nat.le_refl _ | exact Nat.le_add_right _ _, by first | exact Nat.le_refl _ | exact Nat.le_add_right _ _, fun K' h' => ⟨e, a0, a1, a2, a3, a4, a5, a6, a7, a8, a9, a10, a11, a12, a13, a14, a15, a16, a17, h'⟩⟩)
    | (obtain ⟨e, a0, a1, a2, a3, a4, a5, a6, a7, a8, a9, a10, a11, a12, a13, a14, a15, a16, a17, a18, h⟩ := h; exact ⟨_, _, _, _, h, by first | exact Nat.le_refl _ | exact Nat.le_add_right _ _, by first | exact Nat.le_refl _ | exact Nat.le_add_right _ _, fun K' h' => ⟨e, a0, a1, a2, a3, a4, a5, a6, a7, a8, a9, a10, a11, a12, a13, a14, a15, a16, a17, a18, h'⟩⟩)
    | (obtain ⟨e, a0, a1, a2, a3, a4, a5, a6, a7, a8, a9, a10, a11, a12, a13, a14, a15, a16, a17, a18, a19, h⟩ := h; exact ⟨_, _, _, _, h, by first | exact Nat.le_refl _ | exact Nat.le_add_right _ _, by first | exact Nat.le_refl _ | exact Nat.le_add_right _ _, fun K' h' => ⟨e, a0, a1, a2, a3, a4, a5, a6, a7, a8, a9, a10, a11, a12, a13, a14, a15, a16, a17, a18, a19, h'⟩⟩)
    | (obtain ⟨e, a0, a1, a2, a3, a4, a5, a6, a7, a8, a9, a10, a11, a12, a13, a14, a15, a16, a17, a18, a19, a20, h⟩ := h; exact ⟨_, _, _, _, h, by first | exact Nat.le_refl _ | exact Nat.le_add_right _ _, by first | exact Nat.le_refl _ | exact Nat.le_add_right _ _, fun K' h' => ⟨e, a0, a1, a2, a3, a4, a5, a6, a7, a8, a9, a10, a11, a12, a13, a14, a15, a16, a17, a18, a19, a20, h'⟩⟩)
    | (obtain ⟨e, a0, a1, a2, a3, a4, a5, a6, a7, a8, a9, a10, a11, a12, a13, a14, a15, a16, a17, a18, a19, a20, a21, h⟩ := h; exact ⟨_, _, _, _, h, by first | exact Nat.le_refl _ | exact Nat.le_add_right _ _, by first | exact Nat.le_refl _ | exact Nat.le_add_right _ _, fun K' h' => ⟨e, a0, a1, a2, a3, a4, a5, a6, a7, a8, a9, a10, a11, a12, a13, a14, a15, a16, a17, a18, a19, a20, a21, h'⟩⟩)
    | (obtain ⟨e, a0, a1, a2, a3, a4, a5, a6, a7, a8, a9, a10, a11, a12, a13, a14, a15, a16, a17, a18, a19, a20, a21, a22, h⟩ := h; exact ⟨_, _, _, _, h, by first | exact Nat.le_refl _ | exact Nat.le_add_right _ _, by first | exact Nat.le_refl _ | exact Nat.le_add_right _ _, fun K' h' => ⟨e, a0, a1, a2, a3, a4, a5, a6, a7, a8, a9, a10, a11, a12, a13, a14, a15, a16, a17, a18, a19, a20, a21, a22, h'⟩⟩)
    | (obtain ⟨e, a0, a1, a2, a3, a4, a5, a6, a7, a8, a9, a10, a11, a12, a13, a14, a15, a16, a17, a18, a19, a20, a21, a22, a23, h⟩ := h; exact ⟨_, _, _, _, h, by first | exact Nat.le_refl _ | exact Nat.le_add_right _ _, by first | exact Nat.le_refl _ | exact Nat.le_add_right _ _, fun K' h' => ⟨e, a0, a1, a2, a3, a4, a5, a6, a7, a8, a9, a10, a11, a12, a13, a14, a15, a16, a17, a18, a19, a20, a21, a22, a23, h'⟩⟩)
    | (obtain ⟨e, a0, a1, a2, a3, a4, a5, a6, a7, a8, a9, a10, a11, a12, a13, a14, a15, a16, a17, a18, a19, a20, a21, a22, a23, a24, h⟩ := h; exact ⟨_, _, _, _, h, by first | exact Nat.le_refl _ | exact Nat.le_add_right _ _, by first | exact Nat.le_refl _ | exact Nat.le_add_right _ _, fun K' h' => ⟨e, a0, a1, a2, a3, a4, a5, a6, a7, a8, a9, a10, a11, a12, a13, a14, a15, a16, a17, a18, a19, a20, a21, a22, a23, a24, h'⟩⟩)
    | (obtain ⟨e, a0, a1, a2, a3, a4, a5, a6, a7, a8, a9, a10, a11, a12, a13, a14, a15, a16, a17, a18, a19, a20, a21, a22, a23, a24, a25, h⟩ := h; exact ⟨_, _, _, _, h, by first | exact Nat.le_refl _ | exact Nat.le_add_right _ _, by first | exact Nat.le_refl _ | exact Nat.le_add_right _ _, fun K' h' => ⟨e, a0, a1, a2, a3, a4, a5, a6, a7, a8, a9, a10, a11, a12, a13, a14, a15, a16, a17, a18, a19, a20, a21, a22, a23, a24, a25, h'⟩⟩)
    | (obtain ⟨e, a0, a1, a2, a3, a4, a5, a6, a7, a8, a9, a10, a11, a12, a13, a14, a15, a16, a17, a18, a19, a20, a21, a22, a23, a24, a25, a26, h⟩ := h; exact ⟨_, _, _, _, h, by first | exact Nat.le_refl _ | exact Nat.le_add_right _ _, by first | exact Nat.le_refl _ | exact Nat.le_add_right _ _, fun K' h' => ⟨e, a0, a1, a2, a3, a4, a5, a6, a7, a8, a9, a10, a11, a12, a13, a14, a15, a16, a17, a18, a19, a20, a21, a22, a23, a24, a25, a26, h'⟩⟩)
    | (obtain ⟨e, a0, a1, a2, a3, a4, a5, a6, a7, a8, a9, a10, a11, a12, a13, a14, a15, a16, a17, a18, a19, a20, a21, a22, a23, a24, a25, a26, a27, h⟩ := h; exact ⟨_, _, _, _, h, by first | exact Nat.le_refl _ | exact Nat.le_add_right _ _, by first | exact Nat.le_refl _ | exact Nat.le_add_right _ _, fun K' h' => ⟨e, a0, a1, a2, a3, a4, a5, a6, a7, a8, a9, a10, a11, a12, a13, a14, a15, a16, a17, a18, a19, a20, a21, a22, a23, a24, a25, a26, a27, h'⟩⟩)
    | (obtain ⟨e, a0, a1, a2, a3, a4, a5, a6, a7, a8, a9, a10, a11, a12, a13, a14, a15, a16, a17, a18, a19, a20, a21, a22, a23, a24, a25, a26, a27, a28, h⟩ := h; exact ⟨_, _, _, _, h, by first | exact Nat.le_refl _ | exact Nat.le_add_right _ _, by first | exact Nat.le_refl _ | exact Nat.le_add_right _ _, fun K' h' => ⟨e, a0, a1, a2, a3, a4, a5, a6, a7, a8, a9, a10, a11, a12, a13, a14, a15, a16, a17, a18, a19, a20, a21, a22, a23, a24, a25, a26, a27, a28, h'⟩⟩)
theorem mx_nx_mono {P : mx_T} {M : mx_M} {pc : Nat} {L : mx_L} {st : List Value} {G : mx_H} {n : Nat} {K K' : Nat → mx_L → List Value → mx_H → Prop} {i : Instr} (hK : ∀ pc L st G, K pc L st G → K' pc L st G) (h : mx_nx P M pc L st G n K i) : mx_nx P M pc L st G n K' i := by
  obtain ⟨pc', L', st', G', h1, -, -, h2⟩ := mx_nx_one h
  exact h2 K' (hK _ _ _ _ h1)
theorem mx_rt_one {M : mx_M} {st : List Value} {G : mx_H} {n : Nat} {Q : mx_O → mx_H → Prop} {i : Instr} (h : mx_rt M st G n Q i) : ∃ o, Q o G ∧ ∀ Q' : mx_O → mx_H → Prop, Q' o G → mx_rt M st G n Q' i := by
  cases i
  all_goals first
    | exact False.elim h
    | (obtain ⟨e, x, ty, e1, e2, e3, h⟩ := h; exact ⟨_, h, fun Q' h' => ⟨e, x, ty, e1, e2, e3, h'⟩⟩)
    | (obtain ⟨e, x, ty, e1, e2, e3, e4, h⟩ := h; exact ⟨_, h, fun Q' h' => ⟨e, x, ty, e1, e2, e3, e4, h'⟩⟩)
    | (obtain ⟨e, x, e1, e2, h⟩ := h; exact ⟨_, h, fun Q' h' => ⟨e, x, e1, e2, h'⟩⟩)
    | (obtain ⟨e, e1, e2, h⟩ := h; exact ⟨_, h, fun Q' h' => ⟨e, e1, e2, h'⟩⟩)
theorem mx_rt_mono {M : mx_M} {st : List Value} {G : mx_H} {n : Nat} {Q Q' : mx_O → mx_H → Prop} {i : Instr} (hQ : ∀ o G, Q o G → Q' o G) (h : mx_rt M st G n Q i) : mx_rt M st G n Q' i := by
  obtain ⟨o, h1, h2⟩ := mx_rt_one h
  exact h2 Q' (hQ _ _ h1)
/-- more steps, a weaker end -/
theorem mx_mono {P : mx_T} : ∀ {k : Nat} {M : mx_M} {pc : Nat} {L : mx_L} {st : List Value} {G : mx_H} {Q Q' : mx_O → mx_H → Prop}, (∀ o G, Q o G → Q' o G) → mx_wp P k M pc L st G Q → mx_wp P k M pc L st G Q' := by
  intro k
  induction k with
  | zero => intro M pc L st G Q Q' _ h; exact h
  | succ k ih =>
    intro M pc L st G Q Q' hQ h
    obtain ⟨i, n, hd, h⟩ := h
    refine ⟨i, n, hd, ?_⟩
    rcases h with h | h | ⟨rest, h1, h2⟩ | ⟨M', as, rest, h1, h2⟩
    · exact Or.inl (mx_nx_mono (fun _ _ _ _ h => ih hQ h) h)
    · exact Or.inr (Or.inl (mx_rt_mono hQ h))
    · exact Or.inr (Or.inr (Or.inl ⟨rest, h1, ih hQ h2⟩))
    · exact Or.inr (Or.inr (Or.inr ⟨M', as, rest, h1, ih (fun o G ⟨v, e, h⟩ => ⟨v, e, ih hQ h⟩) h2⟩))
theorem mx_more {P : mx_T} : ∀ {k : Nat} {M : mx_M} {pc : Nat} {L : mx_L} {st : List Value} {G : mx_H} {Q : mx_O → mx_H → Prop}, mx_wp P k M pc L st G Q → mx_wp P (k + 1) M pc L st G Q := by
  intro k
  induction k with
  | zero => intro M pc L st G Q h; exact h.elim
  | succ k ih =>
    intro M pc L st G Q h
    obtain ⟨i, n, hd, h⟩ := h
    refine ⟨i, n, hd, ?_⟩
    rcases h with h | h | ⟨rest, h1, h2⟩ | ⟨M', as, rest, h1, h2⟩
    · exact Or.inl (mx_nx_mono (fun _ _ _ _ h => ih h) h)
    · exact Or.inr (Or.inl h)
    · exact Or.inr (Or.inr (Or.inl ⟨rest, h1, ih h2⟩))
    · exact Or.inr (Or.inr (Or.inr ⟨M', as, rest, h1, mx_mono (fun o G ⟨v, e, h⟩ => ⟨v, e, ih h⟩) (ih h2)⟩))
theorem mx_le {P : mx_T} {k k' : Nat} {M : mx_M} {pc : Nat} {L : mx_L} {st : List Value} {G : mx_H} {Q : mx_O → mx_H → Prop} (hk : k ≤ k') (h : mx_wp P k M pc L st G Q) : mx_wp P k' M pc L st G Q := by
  induction hk with
  | refl => exact h
  | step _ ih => exact mx_more ih
/-- the end that there is; the heap has only grown -/
theorem mx_exact {P : mx_T} : ∀ {k : Nat} {M : mx_M} {pc : Nat} {L : mx_L} {st : List Value} {G : mx_H} {Q : mx_O → mx_H → Prop}, mx_wp P k M pc L st G Q → ∃ o G', Q o G' ∧ G.2.1 ≤ G'.2.1 ∧ G.2.2 ≤ G'.2.2 ∧ mx_wp P k M pc L st G (fun a b => a = o ∧ b = G') := by
  intro k
  induction k with
  | zero => intro M pc L st G Q h; exact h.elim
  | succ k ih =>
    intro M pc L st G Q h
    obtain ⟨i, n, hd, h⟩ := h
    rcases h with h | h | ⟨rest, h1, h2⟩ | ⟨M', as, rest, h1, h2⟩
    · obtain ⟨pc', L', st', G', h1, s1, s2, h2⟩ := mx_nx_one h
      obtain ⟨o, G'', q1, q2, q3, q4⟩ := ih h1
      exact ⟨o, G'', q1, Nat.le_trans s1 q2, Nat.le_trans s2 q3, i, n, hd, Or.inl (h2 _ q4)⟩
    · obtain ⟨o, q1, q2⟩ := mx_rt_one h
      exact ⟨o, G, q1, Nat.le_refl _, Nat.le_refl _, i, n, hd, Or.inr (Or.inl (q2 _ ⟨rfl, rfl⟩))⟩
    · obtain ⟨o, G'', q1, q2, q3, q4⟩ := ih h2
      exact ⟨o, G'', q1, q2, q3, i, n, hd, Or.inr (Or.inr (Or.inl ⟨rest, h1, q4⟩))⟩
    · obtain ⟨o1, G1, ⟨v, e, h3⟩, s1, s2, h4⟩ := ih h2
      obtain ⟨o, G'', q1, q2, q3, q4⟩ := ih h3
      exact ⟨o, G'', q1, Nat.le_trans s1 q2, Nat.le_trans s2 q3, i, n, hd, Or.inr (Or.inr (Or.inr ⟨M', as, rest, h1, mx_mono (fun a b ⟨e1, e2⟩ => ⟨v, e1.trans e, by rw [e2]; exact q4⟩) h4⟩))⟩
/-- some number of steps does -/
def mx_W (P : mx_T) (M : mx_M) (pc : Nat) (L : mx_L) (st : List Value) (G : mx_H) (Q : mx_O → mx_H → Prop) : Prop := ∃ k, mx_wp P k M pc L st G Q
theorem mx_W.mono {P : mx_T} {M : mx_M} {pc : Nat} {L : mx_L} {st : List Value} {G : mx_H} {Q Q' : mx_O → mx_H → Prop} (hQ : ∀ o G, Q o G → Q' o G) (h : mx_W P M pc L st G Q) : mx_W P M pc L st G Q' := h.elim fun k hk => ⟨k, mx_mono hQ hk⟩
theorem mx_W.step {P : mx_T} {M : mx_M} {pc : Nat} {L : mx_L} {st : List Value} {G : mx_H} {Q : mx_O → mx_H → Prop} {i : Instr} {n : Nat} (hd : decode (mx_mb M) pc = .ok (i, n)) {pc' : Nat} {L' : mx_L} {st' : List Value} {G' : mx_H} (h : ∀ K : Nat → mx_L → List Value → mx_H → Prop, K pc' L' st' G' → mx_nx P M pc L st G n K i) (k : mx_W P M pc' L' st' G' Q) : mx_W P M pc L st G Q := by
  obtain ⟨k, hk⟩ := k
  exact ⟨k + 1, i, n, hd, Or.inl (h _ hk)⟩
theorem mx_W.two {P : mx_T} {M : mx_M} {pc : Nat} {L : mx_L} {st : List Value} {G : mx_H} {Q : mx_O → mx_H → Prop} {i : Instr} {n : Nat} (hd : decode (mx_mb M) pc = .ok (i, n)) {c : Prop} {p1 p2 : Nat} {L' : mx_L} {st' : List Value} {G' : mx_H} (h : ∀ K : Nat → mx_L → List Value → mx_H → Prop, (c → K p1 L' st' G') → (¬ c → K p2 L' st' G') → mx_nx P M pc L st G n K i) (kt : c → mx_W P M p1 L' st' G' Q) (kf : ¬ c → mx_W P M p2 L' st' G' Q) : mx_W P M pc L st G Q := by
  by_cases hc : c
  · obtain ⟨k, hk⟩ := kt hc
    exact ⟨k + 1, i, n, hd, Or.inl (h _ (fun _ => hk) (fun q => absurd hc q))⟩
  · obtain ⟨k, hk⟩ := kf hc
    exact ⟨k + 1, i, n, hd, Or.inl (h _ (fun q => absurd q hc) (fun _ => hk))⟩
end
section
/-! ===== What the small machine says, the machine does ===== -/
def mx_e (aC : Nat → ClassId) (c : mx_C) : va_E := match c with
  | .inl x => .inl (aC x.1, x.2)
  | .inr o => .inr o
/-- an array's place as a value -/
def mx_av (q : (Nat → Int32) ⊕ (Nat → Int64) ⊕ (Nat → UInt32) ⊕ (Nat → UInt64) ⊕ (Nat → Option Nat)) (j : Nat) : Value := match q with
  | .inl f => .int (f j)
  | .inr (.inl f) => .long (f j)
  | .inr (.inr (.inl f)) => .float (f j)
  | .inr (.inr (.inr (.inl f))) => .double (f j)
  | .inr (.inr (.inr (.inr f))) => va_rf (f j)
/-- a cell that was there before: it is read alone -/
def mx_old (cl : List vw_C) (D : va_G) (aC : Nat → ClassId) (a : Nat) (c : mx_C) (H : Heap) : Prop := match c with
  | .inl x => ∃ cell, H[a]? = some cell ∧ cell.cls = aC x.1 ∧ cell.vm.isStatics = false ∧ cell.vm ≠ .unknown ∧ cell.slots.size = x.2.1 ∧ ∀ j, j < x.2.1 → cell.slots[j]? = some (mx_av x.2.2 j)
  | .inr o => ∃ r cell, cl[o.1]? = some r ∧ H[a]? = some cell ∧ cell.cls = D.1 o.1 ∧ cell.vm.isStatics = false ∧ cell.vm ≠ .unknown ∧ ∀ k, k < r.2.2 → cell.slots[D.2 o.1 k]? = some (vp_V o.2 k)
/-- the heap H holds what G says -/
def mx_R (P : mx_T) (cl : List vw_C) (D : va_G) (aC : Nat → ClassId) (H : Heap) (G : mx_H) : Prop := H.size = G.2.1 ∧ ∀ a c, G.1 a = some c → (mx_t0 P ≤ a → va_at D cl (a, mx_e aC c) H) ∧ (a < mx_t0 P → mx_old cl D aC a c H)
def mx_A (P : mx_T) : Nat → Prop := fun q => mx_t0 P ≤ q
def mx_tl (P : mx_T) (aC : Nat → ClassId) : List (ClassId × FieldType) := (mx_ty P).mapIdx fun t ty => (aC t, ty)
/-- what is known of a state: classes, words that aren't of the tables' plain kind, statics -/
def mx_U (P : mx_T) (cn : Nat → String) (cl : List vw_C) (D : va_G) (aC : Nat → ClassId) (tbl nst : List Cond) (ao : List String) (U : State) : Prop :=
  va_K D cl (mx_tl P aC) U ∧ (∀ w ∈ nst, va_Nw w U) ∧ (∀ C ∈ ao, va_AO C U) ∧ (∀ c i v, mx_ts P c i = some v → ∃ C n d, va_Z C n d v (mx_A P) U U.heap ∧ Cond.fieldLink (cn c) i C n d ∈ tbl) ∧ mx_t0 P ≤ U.heap.size ∧ ArrOfT U (aC 99) .int ∧ va_Mi "[Ljava/lang/Object;" (mx_tr P) U ∧ va_Dc U
/-- the tables say what the words say -/
def mx_okC (cn : Nat → String) (cl : List vw_C) (tbl : List Cond) : Prop := ∀ ci C T N, cl[ci]? = some (C, T, N) → cn ci = C ∧ (∀ w ∈ u_ws C T N, w ∈ tbl) ∧ ∃ ty : Nat → FieldType, (∀ k, k < N → parseFieldDescriptor (T k).2.2.1 = some (ty k)) ∧ ∀ a, a < N → ∀ b, b < N → a ≠ b → (T a).2.1 ≠ (T b).2.1
def mx_okF (P : mx_T) (cn : Nat → String) (cl : List vw_C) (tbl : List Cond) : Prop := ∀ c i ci j ty fin, mx_tf P c i = some (ci, j, ty, fin) → ∃ C T N ref, cl[ci]? = some (C, T, N) ∧ j < N ∧ parseFieldDescriptor (T j).2.2.1 = some ty ∧ (T j).2.2.2 = fin ∧ (fin = true → (T j).1 = cn c) ∧ Cond.fieldLink (cn c) i ref (T j).2.1 (T j).2.2.1 ∈ tbl ∧ (ref = (T j).1 ∨ Cond.sameField ref (T j).1 (T j).2.1 (T j).2.2.1 ∈ tbl)
def mx_okK (P : mx_T) (cn : Nat → String) (tbl : List Cond) : Prop := (∀ c i x, mx_tc P c i = some (.int x) → Jvm.Cond.constant (cn c) i x ∈ tbl) ∧ (∀ c i x, mx_tc P c i = some (.long x) → Jvm.Cond.constantLong (cn c) i x ∈ tbl) ∧ ∀ c i a, mx_tc P c i = some (.ref a) → Cond.classLink (cn c) i "[Ljava/lang/Object;" ∈ tbl
def mx_okN (P : mx_T) (cn : Nat → String) (cl : List vw_C) (tbl : List Cond) : Prop := ∀ c i ci fs, mx_tn P c i = some (ci, fs) → ∃ C T, cl[ci]? = some (C, T, fs.length) ∧ Cond.classLink (cn c) i C ∈ tbl ∧ Cond.instantiable C fs.length ∈ tbl ∧ Cond.initialized C ∈ tbl ∧ ∀ j, j < fs.length → (parseFieldDescriptor (T j).2.2.1).map defaultValue = some (vp_V fs j)
def mx_okA (P : mx_T) (cn : Nat → String) (tbl : List Cond) (ao : List String) : Prop := ∀ c i t, mx_ta P c i = some t → ∃ C, (mx_ty P)[t]? = some (.object C) ∧ Cond.classLink (cn c) i C ∈ tbl ∧ C ∈ ao
def mx_okY (P : mx_T) (tbl : List Cond) : Prop := (mx_ty P)[0]? = some .int ∧ (mx_ty P)[1]? = some .long ∧ (mx_ty P)[2]? = some .byte ∧ (mx_ty P)[3]? = some .boolean ∧ (mx_ty P)[4]? = some (.object "java/lang/Object") ∧ (∀ t, 4 ≤ t → t < (mx_ty P).length → ∃ C, (mx_ty P)[t]? = some (.object C)) ∧ (∀ a : ArrayType, a = .int ∨ a = .long ∨ a = .byte ∨ a = .boolean → Cond.arrayClass (newarray.typeOf a) ∈ tbl)
def mx_okG (P : mx_T) (cl : List vw_C) (nst : List Cond) : Prop := ∀ t c, mx_tg P t c = true → ∃ E r, (mx_ty P)[t]? = some (.object E) ∧ cl[c]? = some r ∧ (Cond.castable r.1 E ∈ nst ∨ r.1 = E)
def mx_okT (P : mx_T) (cn : Nat → String) (cl : List vw_C) (tbl : List Cond) : Prop := ∀ c i cs, mx_tk P c i = some cs → ∃ nm, Cond.classLink (cn c) i nm ∈ tbl ∧ ∀ ci ∈ cs, ∃ T N, cl[ci]? = some (nm, T, N)
def mx_okM (P : mx_T) (cn : Nat → String) (cl : List vw_C) (tbl nst : List Cond) : Prop := ∀ c i k na M', mx_tm P c i = some (k, na, M') →
  (k = 3 → Cond.methodLink (cn c) i Lib.objectInit ∈ tbl ∧ Cond.instanceMethod Lib.objectInit ∈ tbl ∧ Cond.code Lib.objectInit ⟨#[0xb1]⟩ 1 none ∈ tbl) ∧
  (k = 20 → Cond.methodLink (cn c) i arraycopyName ∈ tbl ∧ Cond.native arraycopyName ∈ tbl ∧ Cond.static arraycopyName ∈ tbl ∧ Cond.initialized "java/lang/System" ∈ tbl) ∧
  (k = 21 → Cond.methodLink (cn c) i ⟨"java/lang/Object", "getClass", "()Ljava/lang/Class;"⟩ ∈ tbl ∧ Cond.selects "[Ljava/lang/Object;" ⟨"java/lang/Object", "getClass", "()Ljava/lang/Class;"⟩ ⟨"java/lang/Object", "getClass", "()Ljava/lang/Class;"⟩ ∈ tbl ∧ Cond.instanceMethod ⟨"java/lang/Object", "getClass", "()Ljava/lang/Class;"⟩ ∈ tbl ∧ Cond.native ⟨"java/lang/Object", "getClass", "()Ljava/lang/Class;"⟩ ∈ tbl) ∧
  (k ≠ 3 → k ≠ 20 → k ≠ 21 → plainName (mx_my M').cls = true ∧ Cond.code (mx_my M') (mx_mb M') (mx_ml M') (mx_mr M') ∈ tbl ∧ Cond.initialized (mx_my M').cls ∈ tbl ∧ ((mx_my M').cls ≠ "java/lang/invoke/MethodHandle" ∧ (mx_my M').cls ≠ "java/lang/invoke/VarHandle") ∧ (parseMethodDescriptor (mx_my M').desc).map (fun d => d.parameters.length) = some na ∧ (mx_my M').cls = cn (mx_mc M')) ∧
  (k = 0 → Cond.methodLink (cn c) i (mx_my M') ∈ tbl ∧ Cond.instanceMethod (mx_my M') ∈ tbl ∧ Cond.selects (cn (mx_mc M')) (mx_my M') (mx_my M') ∈ tbl ∧ ∃ r, cl[mx_mc M']? = some r) ∧
  (k = 1 → Cond.methodLink (cn c) i (mx_my M') ∈ tbl ∧ Cond.instanceMethod (mx_my M') ∈ tbl ∧ (mx_my M').name = "<init>" ∧ mx_mr M' = none) ∧
  (k = 11 → (∃ host, Cond.methodLinkNest (cn c) i (mx_my M') host ∈ nst) ∧ Cond.instanceMethod (mx_my M') ∈ tbl ∧ (mx_my M').name = "<init>" ∧ mx_mr M' = none) ∧
  (k = 2 → Cond.methodLink (cn c) i (mx_my M') ∈ tbl ∧ Cond.static (mx_my M') ∈ tbl)
def mx_okW (tbl nst : List Cond) : Prop := (∀ w ∈ tbl, goodWord w = true) ∧ ∀ w ∈ nst, (∃ a i x h, w = Cond.methodLinkNest a i x h) ∨ ∃ a b, w = Cond.castable a b
def mx_ok (P : mx_T) (cn : Nat → String) (cl : List vw_C) (tbl nst : List Cond) (ao : List String) : Prop :=
  mx_okW tbl nst ∧ mx_okC cn cl tbl ∧ mx_okF P cn cl tbl ∧ mx_okK P cn tbl ∧ mx_okN P cn cl tbl ∧ mx_okA P cn tbl ao ∧ mx_okY P tbl ∧ mx_okG P cl nst ∧ mx_okT P cn cl tbl ∧ mx_okM P cn cl tbl nst
/-- locals -/
def mx_RL (g : List Nat) (n : Nat) (ls : Array Slot) (L : mx_L) : Prop := ls.size = n ∧ lv_wf ls ∧ ∀ i v, L i = some v → ls[i]? = some (.val v) ∧ (v.category = 2 → g.any (Nat.beq i) = true)
def mx_lv (n : Nat) (L : mx_L) : List (Nat × Value) := (List.range n).filterMap fun j => (L j).map fun v => (j, v)
theorem mx_lv_mem {n : Nat} {L : mx_L} {j : Nat} {v : Value} : (j, v) ∈ mx_lv n L ↔ j < n ∧ L j = some v := by
  simp only [mx_lv, List.mem_filterMap, List.mem_range, Option.map_eq_some_iff]
  constructor
  · rintro ⟨a, h1, w, h2, h3⟩
    cases h3
    exact ⟨h1, h2⟩
  · rintro ⟨h1, h2⟩
    exact ⟨j, h1, v, h2, rfl⟩
theorem mx_lv_has {g : List Nat} {n : Nat} {ls : Array Slot} {L : mx_L} (h : mx_RL g n ls L) : lv_has ls n (mx_lv n L) :=
  ⟨h.1, h.2.1, fun q hq => (h.2.2 q.1 q.2 (mx_lv_mem.mp (show (q.1, q.2) ∈ _ from hq)).2).1⟩
theorem mx_beq {a b : Nat} : Nat.beq a b = true ↔ a = b := ⟨Nat.eq_of_beq_eq_true, fun h => by subst h; exact Nat.beq_refl a⟩
theorem mx_s1_i {g : List Nat} {L : mx_L} {i : Nat} {v : Value} : mx_s1 g L i v i = some v := by simp [mx_s1, Nat.beq_refl]
theorem mx_s1_ne {g : List Nat} {L : mx_L} {i j : Nat} {v w : Value} (hj : j ≠ i) (h : mx_s1 g L i v j = some w) : L j = some w ∧ ¬ (j + 1 = i ∧ g.any (Nat.beq j) = true) := by
  unfold mx_s1 at h
  have h1 : Nat.beq j i = false := by
    cases hb : Nat.beq j i with
    | false => rfl
    | true => exact absurd (mx_beq.mp hb) hj
  rw [h1, cond_false] at h
  cases hb : (Nat.beq (j + 1) i && g.any (Nat.beq j)) with
  | true => rw [hb, cond_true] at h; cases h
  | false =>
    rw [hb, cond_false] at h
    refine ⟨h, fun ⟨q1, q2⟩ => ?_⟩
    rw [mx_beq.mpr q1, q2] at hb
    cases hb
theorem mx_RL1 {g : List Nat} {n : Nat} {ls : Array Slot} {L : mx_L} {i : Nat} {v : Value} (h : mx_RL g n ls L) (hi : i < n) (hv : v.category = 1) {ls' : Array Slot} (h' : lv_has ls' n ((i, v) :: (mx_lv n L).filter (fun q => !(q.1 == i) && !(q.1 + 1 == i && q.2.category == 2)))) : mx_RL g n ls' (mx_s1 g L i v) := by
  refine ⟨h'.1, h'.2.1, fun j w hw => ?_⟩
  by_cases hj : j = i
  · subst hj
    rw [mx_s1_i] at hw
    cases hw
    exact ⟨h'.2.2 _ List.mem_cons_self, fun q => by omega⟩
  · obtain ⟨h1, h2⟩ := mx_s1_ne hj hw
    obtain ⟨h3, h4⟩ := h.2.2 j w h1
    have hjn : j < n := by rw [← h.1]; exact lv_lt h3
    refine ⟨h'.2.2 (j, w) (List.mem_cons_of_mem _ (List.mem_filter.mpr ⟨mx_lv_mem.mpr ⟨hjn, h1⟩, ?_⟩)), h4⟩
    have e1 : (j == i) = false := by simpa using hj
    by_cases hc : j + 1 = i ∧ w.category = 2
    · exact absurd ⟨hc.1, h4 hc.2⟩ h2
    · simp only [e1, Bool.not_false, Bool.true_and, Bool.not_eq_true', Bool.and_eq_false_iff, beq_eq_false_iff_ne]
      by_cases q1 : j + 1 = i
      · exact Or.inr fun q2 => hc ⟨q1, q2⟩
      · exact Or.inl q1
theorem mx_s2_i {g : List Nat} {L : mx_L} {i : Nat} {v : Value} : mx_s2 g L i v i = some v := by simp [mx_s2, Nat.beq_refl]
theorem mx_s2_ne {g : List Nat} {L : mx_L} {i j : Nat} {v w : Value} (hj : j ≠ i) (h : mx_s2 g L i v j = some w) : L j = some w ∧ j ≠ i + 1 ∧ ¬ (j + 1 = i ∧ g.any (Nat.beq j) = true) := by
  unfold mx_s2 at h
  have h1 : Nat.beq j i = false := by
    cases hb : Nat.beq j i with
    | false => rfl
    | true => exact absurd (mx_beq.mp hb) hj
  rw [h1, cond_false] at h
  cases hb0 : Nat.beq j (i + 1) with
  | true => rw [hb0, cond_true] at h; cases h
  | false =>
    rw [hb0, cond_false] at h
    cases hb : (Nat.beq (j + 1) i && g.any (Nat.beq j)) with
    | true => rw [hb, cond_true] at h; cases h
    | false =>
      rw [hb, cond_false] at h
      refine ⟨h, fun q => ?_, fun ⟨q1, q2⟩ => ?_⟩
      · rw [mx_beq.mpr q] at hb0; cases hb0
      · rw [mx_beq.mpr q1, q2] at hb
        cases hb
theorem mx_RL2 {g : List Nat} {n : Nat} {ls : Array Slot} {L : mx_L} {i : Nat} {v : Value} (h : mx_RL g n ls L) (hi : i + 1 < n) (hg : g.any (Nat.beq i) = true) {ls' : Array Slot} (h' : lv_has ls' n ((i, v) :: (mx_lv n L).filter (fun q => !(q.1 == i) && (!(q.1 == i + 1) && !(q.1 + 1 == i && q.2.category == 2))))) : mx_RL g n ls' (mx_s2 g L i v) := by
  refine ⟨h'.1, h'.2.1, fun j w hw => ?_⟩
  by_cases hj : j = i
  · subst hj
    rw [mx_s2_i] at hw
    cases hw
    exact ⟨h'.2.2 _ List.mem_cons_self, fun _ => hg⟩
  · obtain ⟨h1, h0, h2⟩ := mx_s2_ne hj hw
    obtain ⟨h3, h4⟩ := h.2.2 j w h1
    have hjn : j < n := by rw [← h.1]; exact lv_lt h3
    refine ⟨h'.2.2 (j, w) (List.mem_cons_of_mem _ (List.mem_filter.mpr ⟨mx_lv_mem.mpr ⟨hjn, h1⟩, ?_⟩)), h4⟩
    have e1 : (j == i) = false := by simpa using hj
    have e2 : (j == i + 1) = false := by simpa using h0
    by_cases hc : j + 1 = i ∧ w.category = 2
    · exact absurd ⟨hc.1, h4 hc.2⟩ h2
    · simp only [e1, e2, Bool.not_false, Bool.true_and, Bool.not_eq_true', Bool.and_eq_false_iff, beq_eq_false_iff_ne]
      by_cases q1 : j + 1 = i
      · exact Or.inr fun q2 => hc ⟨q1, q2⟩
      · exact Or.inl q1
theorem mx_en_mem : ∀ {as : List Value} {i j : Nat} {v : Value}, mx_en i as j = some v → (j, v) ∈ lv_args i as := by
  intro as
  induction as with
  | nil => intro i j v h; cases h
  | cons w ws ih =>
    intro i j v h
    simp only [mx_en] at h
    cases hb : Nat.beq j i with
    | true =>
      rw [hb, cond_true] at h
      cases h
      rw [mx_beq.mp hb]
      exact List.mem_cons_self
    | false =>
      rw [hb, cond_false] at h
      refine List.mem_cons_of_mem _ ?_
      have := ih h
      cases w <;> simpa [lv_args, Value.category] using this
theorem mx_eg_ok {g : List Nat} : ∀ {as : List Value} {i j : Nat} {v : Value}, mx_eg g i as = true → mx_en i as j = some v → v.category = 2 → g.any (Nat.beq j) = true := by
  intro as
  induction as with
  | nil => intro i j v _ h; cases h
  | cons w ws ih =>
    intro i j v hg h hc
    simp only [mx_en] at h
    cases hb : Nat.beq j i with
    | true =>
      rw [hb, cond_true] at h
      cases h
      have hji := mx_beq.mp hb
      subst hji
      cases w <;> simp [Value.category] at hc
      · simp only [mx_eg, Bool.and_eq_true] at hg
        exact hg.1
      · simp [mx_eg] at hg
    | false =>
      rw [hb, cond_false] at h
      cases w <;> first | (simp only [mx_eg, Bool.and_eq_true] at hg; exact ih hg.2 h hc) | (simp only [mx_eg] at hg; exact ih hg h hc) | (simp [mx_eg] at hg)
theorem mx_RL0 {g : List Nat} {n : Nat} {as : List Value} (h : (lg_sl as).length ≤ n) (hg : mx_eg g 0 as = true) : mx_RL g n ((lg_sl as ++ List.replicate (n - (lg_sl as).length) Slot.unset).toArray) (mx_en 0 as) := by
  have hl := lv_entry as h
  exact ⟨hl.1, hl.2.1, fun i v hv => ⟨hl.2.2 (i, v) (mx_en_mem hv), fun hc => mx_eg_ok hg hv hc⟩⟩
/-- heaps -/
theorem mx_old.kept {cl : List vw_C} {D : va_G} {aC : Nat → ClassId} {a : Nat} {c : mx_C} {H H1 : Heap} (h : mx_old cl D aC a c H) (hq : H1[a]? = H[a]?) : mx_old cl D aC a c H1 := by
  cases c with
  | inl x => obtain ⟨cell, h1, h2⟩ := h; exact ⟨cell, hq.trans h1, h2⟩
  | inr o => obtain ⟨r, cell, h0, h1, h2⟩ := h; exact ⟨r, cell, h0, hq.trans h1, h2⟩
theorem mx_old.lt {cl : List vw_C} {D : va_G} {aC : Nat → ClassId} {a : Nat} {c : mx_C} {H : Heap} (h : mx_old cl D aC a c H) : a < H.size := by
  cases c with
  | inl x => obtain ⟨cell, h1, h2⟩ := h; exact (Array.getElem?_eq_some_iff.mp h1).1
  | inr o => obtain ⟨r, cell, h0, h1, h2⟩ := h; exact (Array.getElem?_eq_some_iff.mp h1).1
theorem mx_R.lt {P : mx_T} {cl : List vw_C} {D : va_G} {aC : Nat → ClassId} {H : Heap} {G : mx_H} {a : Nat} {c : mx_C} (h : mx_R P cl D aC H G) (hc : G.1 a = some c) : a < H.size := by
  rcases Nat.lt_or_ge a (mx_t0 P) with q | q
  · exact ((h.2 a c hc).2 q).lt
  · exact ((h.2 a c hc).1 q).lt
theorem mx_R.up {P : mx_T} {cl : List vw_C} {D : va_G} {aC : Nat → ClassId} {H H1 : Heap} {G : mx_H} {a : Nat} {c : mx_C} (h : mx_R P cl D aC H G) (ha : mx_t0 P ≤ a) (z : H1.size = H.size) (oq : ∀ q : Nat, q ≠ a → H1[q]? = H[q]?) (hc : va_at D cl (a, mx_e aC c) H1) : mx_R P cl D aC H1 (mx_up G a c) := by
  refine ⟨z.trans h.1, fun b d hb => ?_⟩
  by_cases hab : b = a
  · subst hab
    rw [mx_up_s] at hb
    cases hb
    exact ⟨fun _ => hc, fun q => by omega⟩
  · rw [mx_up_n _ _ hab] at hb
    exact ⟨fun q => ((h.2 b d hb).1 q).kept (oq b hab), fun q => ((h.2 b d hb).2 q).kept (oq b hab)⟩
theorem mx_R.pu {P : mx_T} {cl : List vw_C} {D : va_G} {aC : Nat → ClassId} {H H1 : Heap} {G : mx_H} {c : mx_C} {n : Nat} (h : mx_R P cl D aC H G) (h0 : mx_t0 P ≤ H.size) (z : H1.size = H.size + 1) (oq : ∀ q : Nat, q < H.size → H1[q]? = H[q]?) (hc : va_at D cl (H.size, mx_e aC c) H1) : mx_R P cl D aC H1 (mx_pu G c n) := by
  refine ⟨by rw [z, h.1]; rfl, fun b d hb => ?_⟩
  by_cases hab : b = G.2.1
  · subst hab
    rw [mx_pu_s] at hb
    cases hb
    rw [h.1] at hc h0
    exact ⟨fun _ => hc, fun q => by omega⟩
  · rw [mx_pu_n _ _ _ hab] at hb
    have hl := h.lt hb
    exact ⟨fun q => ((h.2 b d hb).1 q).kept (oq b hl), fun q => ((h.2 b d hb).2 q).kept (oq b hl)⟩
/-- an array, an object, wherever it lies -/
theorem mx_arr {P : mx_T} {cl : List vw_C} {D : va_G} {aC : Nat → ClassId} {H : Heap} {G : mx_H} {a t n : Nat} {q : (Nat → Int32) ⊕ (Nat → Int64) ⊕ (Nat → UInt32) ⊕ (Nat → UInt64) ⊕ (Nat → Option Nat)} (h : mx_R P cl D aC H G) (hc : G.1 a = some (.inl (t, n, q))) : ∃ cell, H[a]? = some cell ∧ cell.cls = aC t ∧ cell.vm.isStatics = false ∧ cell.vm ≠ .unknown ∧ cell.slots.size = n ∧ ∀ j, j < n → cell.slots[j]? = some (mx_av q j) := by
  rcases Nat.lt_or_ge a (mx_t0 P) with z | z
  · exact (h.2 a _ hc).2 z
  · have h1 : H[a]? = some (vp_cell (aC t) (n, q)) := (h.2 a _ hc).1 z
    refine ⟨_, h1, ?_⟩
    obtain f | f | f | f | f := q
    · exact ⟨rfl, rfl, (fun e => by cases e), arrV_size _ _ _, fun j hj => arrV_read _ _ hj⟩
    · exact ⟨rfl, rfl, (fun e => by cases e), arrV_size _ _ _, fun j hj => arrV_read _ _ hj⟩
    · exact ⟨rfl, rfl, (fun e => by cases e), arrV_size _ _ _, fun j hj => arrV_read _ _ hj⟩
    · exact ⟨rfl, rfl, (fun e => by cases e), arrV_size _ _ _, fun j hj => arrV_read _ _ hj⟩
    · exact ⟨rfl, rfl, (fun e => by cases e), arrV_size _ _ _, fun j hj => arrV_read _ _ hj⟩
theorem mx_obj {P : mx_T} {cl : List vw_C} {D : va_G} {aC : Nat → ClassId} {H : Heap} {G : mx_H} {a ci : Nat} {fs : List Value} (h : mx_R P cl D aC H G) (hc : G.1 a = some (.inr (ci, fs))) : ∃ r cell, cl[ci]? = some r ∧ H[a]? = some cell ∧ cell.cls = D.1 ci ∧ cell.vm.isStatics = false ∧ cell.vm ≠ .unknown ∧ ∀ k, k < r.2.2 → cell.slots[D.2 ci k]? = some (vp_V fs k) := by
  rcases Nat.lt_or_ge a (mx_t0 P) with z | z
  · exact (h.2 a _ hc).2 z
  · obtain ⟨r, h1, cell, h2, h3, h4, h5⟩ := (h.2 a _ hc).1 z
    exact ⟨r, cell, h1, h2, h3, by rw [h4]; rfl, (by rw [h4]; exact (fun e => by cases e)), h5⟩
theorem mx_isarr {s : State} {cA : ClassId} {ty : FieldType} {cell : Cell} (h : ArrOfT s cA ty) (h1 : cell.cls = cA) (h2 : cell.vm.isStatics = false) : s.isArrayOf cell ty := by
  obtain ⟨-, k, hk, comp, hkind⟩ := h 0 (fun _ => .null)
  exact ⟨(fun z hz => by rw [hz] at h2; cases h2), k, by rw [h1]; exact hk, comp, hkind⟩
theorem mx_recv {P : mx_T} {s : State} {H : Heap} {D : va_G} {cl : List vw_C} {aC : Nat → ClassId} {G : mx_H} {a ci : Nat} {q : vw_C} {fs : List Value} {tys : List (ClassId × FieldType)} (hK : va_K D cl tys s) (hR : mx_R P cl D aC H G) (hc : cl[ci]? = some q) (he : G.1 a = some (.inr (ci, fs))) : ∃ cell : Cell, H[a]? = some cell ∧ cell.vm.isStatics = false ∧ s.vm.findClass q.1 = some cell.cls := by
  obtain ⟨r, cell, h1, h2, h3, h4, h5, h6⟩ := mx_obj hR he
  exact ⟨cell, h2, h4, by rw [h3]; exact (hK.1 ci q hc).2.1⟩
theorem mx_S.pu {A : Nat → Prop} {H0 H H1 : Heap} {locs : List Loc} (hS : va_S A H0 H locs) (z : H1.size = H.size + 1) (oq : ∀ q : Nat, q < H.size → H1[q]? = H[q]?) : va_S A H0 H1 locs :=
  ⟨Nat.le_trans hS.1 (by omega), fun x h1 h2 => (oq x (Nat.lt_of_lt_of_le h1 hS.1)).trans (hS.2.1 x h1 h2), hS.2.2⟩
theorem mx_tl_at {P : mx_T} {aC : Nat → ClassId} {t : Nat} {ty : FieldType} (h : (mx_ty P)[t]? = some ty) : (mx_tl P aC)[t]? = some (aC t, ty) := by
  simp [mx_tl, List.getElem?_mapIdx, h]
theorem mx_U.moved {P : mx_T} {cn : Nat → String} {cl : List vw_C} {D : va_G} {aC : Nat → ClassId} {tbl nst : List Cond} {ao : List String} {s U : State} (hw : mx_okW tbl nst) (h : mx_U P cn cl D aC tbl nst ao s) (hW : s.WarmedH U.vm) {locs : List Loc} (hS : va_S (mx_A P) s.heap U.heap locs) : mx_U P cn cl D aC tbl nst ao U := by
  obtain ⟨h1, h2, h3, h4, h5, h6, h7, h8⟩ := h
  refine ⟨va_K.moved hW.alike h1, fun w hn => ?_, fun C hC => va_AO.moved hW.alike (h3 C hC), fun c i v hv => ?_, Nat.le_trans h5 hS.1, arrOfT_moved hW.alike h6, va_Mi.moved hW.alike h7, va_Dc.moved hW.alike h8⟩
  · rcases hw.2 w hn with ⟨a, i, x, h, rfl⟩ | ⟨a, b, rfl⟩
    · exact va_Nw.warmM hW (h2 _ hn)
    · exact va_Nw.warmC hW (h2 _ hn)
  · obtain ⟨C, n, d, q1, q2⟩ := h4 c i v hv
    exact ⟨C, n, d, (va_Z.moved hW.alike q1).kept hS.2.1, q2⟩
theorem mx_U.calling {P : mx_T} {cn : Nat → String} {cl : List vw_C} {D : va_G} {aC : Nat → ClassId} {tbl nst : List Cond} {ao : List String} {U : State} (hw : mx_okW tbl nst) (h : mx_U P cn cl D aC tbl nst ao U) (g : JFrame) (mk : MethodId) (a : Array Value) : mx_U P cn cl D aC tbl nst ao (U.calling g mk a) := by
  obtain ⟨h1, h2, h3, h4, h5, h6, h7, h8⟩ := h
  refine ⟨va_K.moved (u := U) (U := U.calling g mk a) (Vm.Alike.refl U.vm) h1, fun w hn => ?_, fun C hC => va_AO.moved (u := U) (U := U.calling g mk a) (Vm.Alike.refl U.vm) (h3 C hC), fun c i v hv => ?_, h5, arrOfT_moved (u := U) (E := U.calling g mk a) (Vm.Alike.refl U.vm) h6, va_Mi.moved (u := U) (U := U.calling g mk a) (Vm.Alike.refl U.vm) h7, va_Dc.moved (u := U) (U := U.calling g mk a) (Vm.Alike.refl U.vm) h8⟩
  · rcases hw.2 w hn with ⟨a', i, x, h, rfl⟩ | ⟨a', b, rfl⟩
    · exact va_Nw.same (u := U) (U := U.calling g mk a) rfl rfl (h2 _ hn)
    · exact va_Nw.same (u := U) (U := U.calling g mk a) rfl rfl (h2 _ hn)
  · obtain ⟨C, n, d, q1, q2⟩ := h4 c i v hv
    exact ⟨C, n, d, va_Z.moved (u := U) (U := U.calling g mk a) (Vm.Alike.refl U.vm) q1, q2⟩
end
section
theorem mx_rt_n {M : mx_M} {st : List Value} {G : mx_H} {n : Nat} {Q : mx_O → mx_H → Prop} {i : Instr} (h : mx_rt M st G n Q i) : n = 1 := by
  cases i
  all_goals first
    | exact False.elim h
    | exact h.1
theorem mx_sz {P : mx_T} {k : Nat} {M : mx_M} {pc : Nat} {L : mx_L} {st : List Value} {G : mx_H} {o : mx_O} {G' : mx_H} (h : mx_wp P k M pc L st G (fun a b => a = o ∧ b = G')) : G.2.1 ≤ G'.2.1 ∧ G.2.2 ≤ G'.2.2 := by
  obtain ⟨o2, G2, ⟨-, e⟩, h1, h2, -⟩ := mx_exact h
  subst e
  exact ⟨h1, h2⟩
/-- a frame's surroundings -/
def mx_X (P : mx_T) (cn : Nat → String) (cl : List vw_C) (D : va_G) (aC : Nat → ClassId) (tbl nst : List Cond) (ao : List String) (M : mx_M) (p : Program) (s : State) (m : MethodId) (args : Array Value) (meth : Method) (c : Code) : Prop :=
  p.tables.exec = Jvm.exec ∧ c.code = mx_mb M ∧ c.maxLocals = mx_ml M ∧ s.vm.findClass (cn (mx_mc M)) = some m.cls ∧ (∀ w ∈ tbl, w.before args s = true) ∧ mx_U P cn cl D aC tbl nst ao s ∧ meth.name = (mx_my M).name
/-- a frame's run of k steps, for the machine -/
def mx_Fs (P : mx_T) (cn : Nat → String) (cl : List vw_C) (D : va_G) (aC : Nat → ClassId) (tbl nst : List Cond) (ao : List String) (l : Launch) (k : Nat) : Prop :=
  ∀ (M : mx_M) (pc : Nat) (L : mx_L) (st : List Value) (G : mx_H) (o : mx_O) (G' : mx_H), mx_wp P k M pc L st G (fun a b => a = o ∧ b = G') →
  ∀ (p : Program) (e : Env) (R : Room) (s : State) (m : MethodId) (args : Array Value) (below : List Frame) (meth : Method) (c : Code) (H : Heap) (locs : List Loc) (cells slots : Nat) (Qf : State → Prop) (ls : Array Slot) (z0 u0 : Nat),
    mx_X P cn cl D aC tbl nst ao M p s m args meth c → mx_mf M ≤ R.frames → mx_mw M ≤ R.locals → mx_R P cl D aC H G → va_S (mx_A P) s.heap H locs → mx_RL (mx_mg M) (mx_ml M) ls L → cells + z0 = G.2.1 → slots + u0 = G.2.2 → G'.2.1 ≤ z0 + R.cells → G'.2.2 ≤ u0 + R.slots →
    (∀ (H' : Heap) (locs' : List Loc) (cells' slots' : Nat) (ls' : Array Slot) (pc' : Nat) (i : Instr) (st' : List Value), mx_R P cl D aC H' G' → va_S (mx_A P) s.heap H' locs' → cells' + z0 = G'.2.1 → slots' + u0 = G'.2.2 → decode (mx_mb M) pc' = .ok (i, 1) → mx_rt M st' G' 1 (fun a b => a = o ∧ b = G') i → W p l e R s m args below meth c H' locs' cells' slots' Qf (F0 m pc' ls' st')) →
    W p l e R s m args below meth c H locs cells slots Qf (F0 m pc ls st)
def mx_Pc (P : mx_T) (cn : Nat → String) (cl : List vw_C) (D : va_G) (aC : Nat → ClassId) (tbl nst : List Cond) (ao : List String) (as : List Value) (G : mx_H) : Array Value → State → Prop := fun v U => v = as.toArray ∧ mx_R P cl D aC U.heap G ∧ mx_U P cn cl D aC tbl nst ao U
def mx_Qc (P : mx_T) (cl : List vw_C) (D : va_G) (aC : Nat → ClassId) (v : Option Value) (G' : mx_H) : Array Value → State → Outcome → State → Prop := fun _ st oc t => oc = .returned v ∧ mx_R P cl D aC t.heap G' ∧ va_F (mx_A P) st t
set_option maxHeartbeats 4000000 in
theorem mx_met {P : mx_T} {cn : Nat → String} {cl : List vw_C} {D : va_G} {aC : Nat → ClassId} {tbl nst : List Cond} {ao : List String} {l : Launch} {k : Nat} (hF : mx_Fs P cn cl D aC tbl nst ao l k) {M : mx_M} {as : List Value} {G : mx_H} {v : Option Value} {G' : mx_H} (hw : mx_wp P k M 0 (mx_en 0 as) [] G (fun a b => a = .inl v ∧ b = G')) (hlen : (lg_sl as).length ≤ mx_ml M) (hg : mx_eg (mx_mg M) 0 as = true) (hpl : plainName (mx_my M).cls = true) (hcl : (mx_my M).cls = cn (mx_mc M)) :
    Met l (mx_my M) (Cond.code (mx_my M) (mx_mb M) (mx_ml M) (mx_mr M) :: tbl) { frames := mx_mf M, cells := G'.2.1 - G.2.1, slots := G'.2.2 - G.2.2, locals := mx_mw M } (mx_Pc P cn cl D aC tbl nst ao as G) (mx_Qc P cl D aC v G') (G'.2.1 - G.2.1) (G'.2.2 - G.2.2) (mx_A P) := by
  refine Met.ofW (cc := mx_mb M) (maxL := mx_ml M) (ret := mx_mr M) hpl rfl ?_
  intro p e s m args below meth c s₁ B hml hv
  obtain ⟨rfl, hR, hU⟩ := hv
  have hts := atoms_spec (ws := Cond.code (mx_my M) (mx_mb M) (mx_ml M) (mx_mr M) :: tbl) B.pre
  have hown : s.vm.findClass (mx_my M).cls = some m.cls := findClass_of_methodNamed B.named
  have hsz := mx_sz hw
  rw [lg_entry_eq]
  refine hF M 0 _ [] G _ G' hw p e _ s m _ below meth c s.heap [] 0 0 _ _ G.2.1 G.2.2 ⟨B.exec, B.bytes, hml, by rw [← hcl]; exact hown, fun w h => hts w (List.mem_cons_of_mem _ h), hU, (name_of_methodNamed B.named B.method).1⟩ (Nat.le_refl _) (Nat.le_refl _) hR va_S.rf (mx_RL0 hlen hg) (Nat.zero_add _) (Nat.zero_add _) (by show _ ≤ _ + (G'.2.1 - G.2.1); omega) (by show _ ≤ _ + (G'.2.2 - G.2.2); omega) ?_
  intro H' locs' cells' slots' ls' pc' i st' hR' hS' hc hs hd hrt
  have e1 : cells' = G'.2.1 - G.2.1 := by omega
  have e2 : slots' = G'.2.2 - G.2.2 := by omega
  subst e1 e2
  cases i
  case ireturn =>
    obtain ⟨-, x, ty, rfl, hr, hn, h1, -⟩ := hrt
    cases h1
    exact W.zret B.exec B.bytes (B.returns.trans hr) hn (fun t ht hW => ⟨rfl, by rw [ht]; exact hR', hS'.F ht⟩) hS'.2.2 hd (hlocks := B.notSynchronized)
  case lreturn =>
    obtain ⟨-, x, rfl, hr, h1, -⟩ := hrt
    cases h1
    exact W.lret B.exec B.bytes (B.returns.trans hr) (fun t ht hW => ⟨rfl, by rw [ht]; exact hR', hS'.F ht⟩) hS'.2.2 hd (hlocks := B.notSynchronized)
  case areturn =>
    obtain ⟨-, x, ty, rfl, hx, hr, hty, h1, -⟩ := hrt
    cases h1
    exact W.aret B.exec B.bytes (B.returns.trans hr) hty hx (fun t ht hW => ⟨rfl, by rw [ht]; exact hR', hS'.F ht⟩) hS'.2.2 hd (hlocks := B.notSynchronized)
  case return_ =>
    obtain ⟨-, rfl, hr, h1, -⟩ := hrt
    cases h1
    exact W.vret B.exec B.bytes (B.returns.trans hr) (fun t ht hW => ⟨rfl, by rw [ht]; exact hR', hS'.F ht⟩) hS'.2.2 hd (hlocks := B.notSynchronized)
  all_goals exact False.elim hrt
theorem mx_call {P : mx_T} {cl : List vw_C} {D : va_G} {aC : Nat → ClassId} {p : Program} {l : Launch} {e : Env} {R : Room} {s : State} {m : MethodId} {args : Array Value} {below : List Frame} {meth : Method} {c : Code} {H : Heap} {locs : List Loc} {cells slots mc ms : Nat} {Q : State → Prop} {pc : Nat} {ls : Array Slot} {st0 rest : List Value} {a : Array Value} {v : Option Value} {G' : mx_H}
    (hr : va_Run p l e R s m args below meth c H locs cells slots mc ms (F0 m pc ls st0) rest (mx_Qc P cl D aC v G' a) (mx_A P)) (hS : va_S (mx_A P) s.heap H locs)
    (kk : ∀ (H1 : Heap) (locs1 : List Loc), mx_R P cl D aC H1 G' → va_S (mx_A P) s.heap H1 locs1 → W p l e R s m args below meth c H1 locs1 (cells + mc) (slots + ms) Q (F0 m (pc + 3) ls (v.toList ++ rest))) : W p l e R s m args below meth c H locs cells slots Q (F0 m pc ls st0) := by
  intro T hT X
  obtain ⟨v', st₀, t, T', L, h0, X', hL, e1, e2, ⟨hv, hR, hz, hk⟩, st⟩ := hr T hT X
  cases hv
  rw [h0] at hz hk
  obtain ⟨t2, a1, b1⟩ := kk T'.heap (locs ++ L) (by rw [e1]; exact hR)
    ⟨Nat.le_trans hS.1 (by rw [e1]; exact hz), fun q h1 h2 => by rw [e1, hk q (Nat.lt_of_lt_of_le h1 hS.1) h2]; exact hS.2.1 q h1 h2, fun q hq => by
      rcases List.mem_append.mp hq with h | h
      · exact hS.2.2 q h
      · exact hL q h⟩ T' rfl X'
  exact ⟨t2, st t2 a1, b1⟩
theorem mx_good {tbl nst : List Cond} {w : Cond} (h : mx_okW tbl nst) (hw : w ∈ tbl) : GoodIn tbl (w :: tbl) := fun x hx => by
  have hm : x ∈ tbl := (List.mem_cons.mp hx).elim (fun e => by rw [e]; exact hw) id
  exact ⟨hm, good_of_word (h.1 x hm)⟩
theorem mx_blind {P : mx_T} {cn : Nat → String} {cl : List vw_C} {D : va_G} {aC : Nat → ClassId} {tbl nst : List Cond} {ao : List String} (hw : mx_okW tbl nst) (as : List Value) (G : mx_H) : FrameBlind (mx_Pc P cn cl D aC tbl nst ao as G) := fun a U g mk ⟨e, hR, hU⟩ => ⟨e, hR, hU.calling hw g mk a⟩
end
section
section
variable {p : Program} {l : Launch} {e : Env} {R : Room} {s : State} {m : MethodId} {args : Array Value} {below : List Frame} {meth : Method} {c : Code} {H : Heap} {locs : List Loc} {cells slots : Nat} {Q : State → Prop} {pc : Nat} {ls : Array Slot} {rest : List Value} {D : va_G} {cl : List vw_C} {a : Nat} {tys : List (ClassId × FieldType)}
/-- System.arraycopy of references: the cell anew, all others as they were -/
theorem mx_copy {cc : ByteArray} (hexec : p.tables.exec = Jvm.exec) (hb : c.code = cc) (hml : c.maxLocals = ls.size) {own : String} {index : Nat} (hown : s.vm.findClass own = some m.cls) (hlink : (Cond.methodLink own index arraycopyName).before args s = true) (hnat : (Cond.native arraycopyName).before args s = true) (hstat : (Cond.static arraycopyName).before args s = true) (hini : (Cond.initialized "java/lang/System").before args s = true)
    (hK : va_K D cl tys s) {t0 a0 : Nat} {c0 : ClassId} {n0 n1 : Nat} {f g : Nat → Option Nat} {E0 : String} (ht : tys[t0]? = some (c0, .object E0)) (ha0 : H[a0]? = some (vp_cell c0 (n0, mx_aq f))) (ha1 : H[a]? = some (vp_cell c0 (n1, mx_aq g)))
    {sp dp n : Int32} (h1 : ¬ sp < 0) (h2 : ¬ dp < 0) (h3 : ¬ n < 0) (h4 : sp.toNatClampNeg + n.toNatClampNeg ≤ n0) (h5 : dp.toNatClampNeg + n.toNatClampNeg ≤ n1) (hel : ∀ i : Nat, i < n.toNatClampNeg → ∀ y : Nat, f (sp.toNatClampNeg + i) = some y → va_Any E0 s H y)
    (hframes : 1 ≤ R.frames) (hlocals : (rest.map fun v => v.category).sum + (nativeFrameWords "java/lang/System" "arraycopy" 5 + 11) ≤ R.locals) (hdg : decode cc pc = .ok (.invokestatic index, 3))
    (kk : ∀ (H1 : Heap) (locs1 : List Loc), H1.size = H.size → (∀ q : Nat, q ≠ a → H1[q]? = H[q]?) → H1[a]? = some (vp_cell c0 (n1, mx_aq (va_cpy f g sp.toNatClampNeg dp.toNatClampNeg n.toNatClampNeg))) → (∀ q ∈ locs1, q ∈ locs ∨ q.base = a) → W p l e R s m args below meth c H1 locs1 cells slots Q (F0 m (pc + 3) ls rest)) : W p l e R s m args below meth c H locs cells slots Q (F0 m pc ls (.int n :: .int dp :: .ref a :: .int sp :: .ref a0 :: rest)) := by
  have nn : ∀ z : Int32, ¬ z < 0 → z.toInt = (z.toNatClampNeg : Int) := by
    intro z hz
    have hz0 : (0 : Int) ≤ z.toInt := by
      have := Int32.not_lt.mp hz
      simpa using Int32.le_iff_toInt_le.mp this
    show z.toInt = ((z.toInt.toNat : Nat) : Int)
    omega
  intro T hT X
  have hc0 : H[a0]? = some (vp_cell c0 (n0, .inr (.inr (.inr (.inr f))))) := ha0
  have hc1 : H[a]? = some (vp_cell c0 (n1, .inr (.inr (.inr (.inr g))))) := ha1
  obtain ⟨-, k1, hk1, cm1, hkk1⟩ := (hK.2 t0 _ ht).1 n1 (fun j => va_rf (g j))
  obtain ⟨vm', X', step⟩ := X.arraycopy hexec hown hlink hnat hstat hini (src := a0) (dst := a) (cs := vp_cell c0 (n0, .inr (.inr (.inr (.inr f))))) (cd := vp_cell c0 (n1, .inr (.inr (.inr (.inr g))))) (srcPos := sp) (destPos := dp) (n := n) (by rw [hT]; exact hc0) (by rw [hT]; exact hc1)
    (fun _ h => by cases h) (fun _ h => by cases h) (fun h => by cases h) (fun h => by cases h) hk1 hk1 hkk1 hkk1 rfl h1 h2 h3
    (by rw [nn sp h1, nn n h3]; show ¬ _ > ((arrV c0 n0 (fun j => va_rf (f j))).slots.size : Int); rw [arrV_size]; omega)
    (by rw [nn dp h2, nn n h3]; show ¬ _ > ((arrV c0 n1 (fun j => va_rf (g j))).slots.size : Int); rw [arrV_size]; omega)
    (fun vm₁ hal i hi => by
      have e : (vp_cell c0 (n0, .inr (.inr (.inr (.inr f))))).slots.getD (sp.toNatClampNeg + i) .null = va_rf (f (sp.toNatClampNeg + i)) := by
        show (arrV c0 n0 (fun j => va_rf (f j))).slots.getD _ _ = _
        rw [Array.getD_eq_getD_getElem?, arrV_read _ _ (by omega)]
        rfl
      rw [e]
      cases hy : f (sp.toNatClampNeg + i) with
      | none => exact ⟨rfl, trivial⟩
      | some y =>
        obtain ⟨cellV, g1, g2, ⟨kC, hkC⟩, hasg⟩ := hel i hi y hy
        obtain ⟨kA, comp, r1, r2, r3, -⟩ := (hK.2 t0 _ ht).2
        cases hk1.symm.trans r1
        cases hkk1.symm.trans r2
        obtain ⟨kE, hkE, -⟩ := Vm.findClass_spec r3
        obtain ⟨kC', hkC', -⟩ := hal.2.2 _ _ hkC
        obtain ⟨kE', hkE', -⟩ := hal.2.2 _ _ hkE
        refine ⟨rfl, cellV, (show T.heap[y]? = some cellV by rw [hT]; exact g1), (fun q h => by rw [h] at g2; cases g2), ⟨kC', hkC'⟩, ?_, ?_⟩
        · exact ⟨kE', hkE'⟩
        · show vm₁.assignable _ _ = true
          rw [hal.assignable]
          exact hasg _ r3)
    (g := F0 m pc ls (.int n :: .int dp :: .ref a :: .int sp :: .ref a0 :: rest)) rfl (by rw [hml]) (rest := rest) rfl (by rw [hb]; exact hdg) hframes (by show 2 * 0 + _ + _ ≤ _; omega)
  have e1 : copied (vp_cell c0 (n0, .inr (.inr (.inr (.inr f))))) (vp_cell c0 (n1, .inr (.inr (.inr (.inr g))))) sp dp n = vp_cell c0 (n1, .inr (.inr (.inr (.inr (va_cpy f g sp.toNatClampNeg dp.toNatClampNeg n.toNatClampNeg))))) := by
    rw [vp_cell_q, vp_cell_q, vp_cell_q]
    exact va_copied (fun z => va_rf z) c0 c0 f g h4
  rw [e1] at X' step
  have hl : a < H.size := (Array.getElem?_eq_some_iff.mp hc1).1
  have hheap : ((T.setVm vm').setCell a (vp_cell c0 (n1, .inr (.inr (.inr (.inr (va_cpy f g sp.toNatClampNeg dp.toNatClampNeg n.toNatClampNeg))))))).heap = H.setIfInBounds a (vp_cell c0 (n1, .inr (.inr (.inr (.inr (va_cpy f g sp.toNatClampNeg dp.toNatClampNeg n.toNatClampNeg)))))) := by rw [← hT]; rfl
  obtain ⟨t, a1, b1⟩ := kk _ _ (by simp) (fun q hq => by simp [Array.getElem?_setIfInBounds, Ne.symm hq]) (show (H.setIfInBounds a _)[a]? = some _ by simp [Array.getElem?_setIfInBounds, hl]; rfl) (fun q hq => by
      rcases List.mem_append.mp hq with h | h
      · exact Or.inl h
      · obtain ⟨z, -, hz⟩ := List.mem_map.mp h
        rw [← hz]
        exact Or.inr rfl) _ hheap X'
  exact ⟨t, step t a1, b1⟩
end
abbrev mx_al (f : Nat → Int64) : (Nat → Int32) ⊕ (Nat → Int64) ⊕ (Nat → UInt32) ⊕ (Nat → UInt64) ⊕ (Nat → Option Nat) := .inr (.inl f)
set_option maxHeartbeats 8000000 in
set_option maxRecDepth 100000 in
/-- instructions that are neither calls nor ends -/
theorem mx_sn {P : mx_T} {cn : Nat → String} {cl : List vw_C} {D : va_G} {aC : Nat → ClassId} {tbl nst : List Cond} {ao : List String} (hok : mx_ok P cn cl tbl nst ao) {l : Launch} {k : Nat} {M : mx_M} {pc : Nat} {L : mx_L} {st : List Value} {G : mx_H} {o : mx_O} {G' : mx_H} {i : Instr} {n : Nat} (hd : decode (mx_mb M) pc = .ok (i, n)) (h : mx_nx P M pc L st G n (fun pc' L' st' G1 => mx_wp P k M pc' L' st' G1 (fun a b => a = o ∧ b = G')) i)
    {p : Program} {e : Env} {R : Room} {s : State} {m : MethodId} {args : Array Value} {below : List Frame} {meth : Method} {c : Code} {H : Heap} {locs : List Loc} {cells slots : Nat} {Qf : State → Prop} {ls : Array Slot} {z0 u0 : Nat}
    (X : mx_X P cn cl D aC tbl nst ao M p s m args meth c) (hfr : mx_mf M ≤ R.frames) (hlo : mx_mw M ≤ R.locals) (hR : mx_R P cl D aC H G) (hS : va_S (mx_A P) s.heap H locs) (hL : mx_RL (mx_mg M) (mx_ml M) ls L) (hc : cells + z0 = G.2.1) (hs : slots + u0 = G.2.2) (hG1 : G'.2.1 ≤ z0 + R.cells) (hG2 : G'.2.2 ≤ u0 + R.slots)
    (go : ∀ {pc' : Nat} {L' : mx_L} {st' : List Value} {G1 : mx_H} {H1 : Heap} {locs1 : List Loc} {cells1 slots1 : Nat} {ls1 : Array Slot}, mx_wp P k M pc' L' st' G1 (fun a b => a = o ∧ b = G') → mx_R P cl D aC H1 G1 → va_S (mx_A P) s.heap H1 locs1 → mx_RL (mx_mg M) (mx_ml M) ls1 L' → cells1 + z0 = G1.2.1 → slots1 + u0 = G1.2.2 → W p l e R s m args below meth c H1 locs1 cells1 slots1 Qf (F0 m pc' ls1 st')) :
    W p l e R s m args below meth c H locs cells slots Qf (F0 m pc ls st) := by
  obtain ⟨hx, hb, hml, hown, hts, ⟨hK, hN, hAO, hZ, h0, hScr, hMi, hDc⟩, hnm⟩ := X
  obtain ⟨okW, okC, okF, okK, okN, okA, okY, okG, okT, okM⟩ := hok
  obtain ⟨y0, y1, y2, y3, yO, y4, y5⟩ := okY
  have h0H : mx_t0 P ≤ H.size := Nat.le_trans h0 hS.1
  cases i
  case aconst_null =>
    obtain ⟨rfl, h⟩ := h
    exact lv_null hx hb hd (go h hR hS hL hc hs)
  case iconst k9 =>
    obtain ⟨rfl, h⟩ := h
    exact lv_iconst hx hb hd rfl (go h hR hS hL hc hs)
  case lconst k9 =>
    obtain ⟨rfl, h⟩ := h
    exact lv_lconst hx hb hd rfl (go h hR hS hL hc hs)
  case bipush k9 =>
    obtain ⟨rfl, h⟩ := h
    exact lv_bipush hx hb hd rfl (go h hR hS hL hc hs)
  case sipush k9 =>
    obtain ⟨rfl, h⟩ := h
    exact lv_sipush hx hb hd rfl (go h hR hS hL hc hs)
  case ldc k9 =>
    obtain ⟨rfl, x, h1, h2, h⟩ := h
    rcases h2 with ⟨y, rfl⟩ | rfl
    · exact lv_ldc hx hb hown (hts _ (okK.1 _ _ _ h1)) hd (go h hR hS hL hc hs)
    · exact va_ldcM hx hb hown (hts _ (okK.2.2 _ _ _ h1)) hMi hd (go h hR hS hL hc hs)
  case ldc_w k9 =>
    obtain ⟨rfl, x, h1, h⟩ := h
    exact lv_ldcw hx hb hown (hts _ (okK.1 _ _ _ h1)) hd (go h hR hS hL hc hs)
  case ldc2_w k9 =>
    obtain ⟨rfl, x, h1, h⟩ := h
    exact lv_ldc2 hx hb hown (hts _ (okK.2.1 _ _ _ h1)) hd (go h hR hS hL hc hs)
  case iload_n k9 =>
    obtain ⟨rfl, x, h1, h⟩ := h
    exact lv_iload_n hx hb hd rfl (hL.2.2 _ _ h1).1 (go h hR hS hL hc hs)
  case lload_n k9 =>
    obtain ⟨rfl, x, h1, h⟩ := h
    exact lv_lload_n hx hb hd rfl (hL.2.2 _ _ h1).1 (go h hR hS hL hc hs)
  case iload k9 =>
    obtain ⟨rfl, x, h1, h⟩ := h
    exact lv_iload hx hb hd (hL.2.2 _ _ h1).1 (go h hR hS hL hc hs)
  case lload k9 =>
    obtain ⟨rfl, x, h1, h⟩ := h
    exact lv_lload hx hb hd (hL.2.2 _ _ h1).1 (go h hR hS hL hc hs)
  case aload_n k9 =>
    obtain ⟨rfl, x, h1, h2, h⟩ := h
    rcases h2 with rfl | ⟨a, rfl⟩
    · exact lv_aload_nN hx hb hd rfl (hL.2.2 _ _ h1).1 (go h hR hS hL hc hs)
    · exact lv_aload_n hx hb hd rfl (hL.2.2 _ _ h1).1 (go h hR hS hL hc hs)
  case aload k9 =>
    obtain ⟨rfl, x, h1, h2, h⟩ := h
    rcases h2 with rfl | ⟨a, rfl⟩
    · exact lv_aloadN hx hb hd (hL.2.2 _ _ h1).1 (go h hR hS hL hc hs)
    · exact lv_aload hx hb hd (hL.2.2 _ _ h1).1 (go h hR hS hL hc hs)
  case istore_n k9 =>
    obtain ⟨rfl, x, r, rfl, h2, h⟩ := h
    exact lv_istore_n hx hb hd rfl (mx_lv_has hL) h2 rfl (fun ls' h' => go h hR hS (mx_RL1 hL h2 rfl h') hc hs)
  case istore k9 =>
    obtain ⟨rfl, x, r, rfl, h2, h⟩ := h
    exact lv_istore hx hb hd (mx_lv_has hL) h2 rfl (fun ls' h' => go h hR hS (mx_RL1 hL h2 rfl h') hc hs)
  case lstore_n k9 =>
    obtain ⟨rfl, x, r, rfl, h2, h3, h⟩ := h
    exact lv_lstore_n hx hb hd rfl (mx_lv_has hL) h2 rfl (fun ls' h' => go h hR hS (mx_RL2 hL h2 h3 h') hc hs)
  case lstore k9 =>
    obtain ⟨rfl, x, r, rfl, h2, h3, h⟩ := h
    exact lv_lstore hx hb hd (mx_lv_has hL) h2 rfl (fun ls' h' => go h hR hS (mx_RL2 hL h2 h3 h') hc hs)
  case astore_n k9 =>
    obtain ⟨rfl, x, r, rfl, h1, h2, h⟩ := h
    rcases h1 with rfl | ⟨a, rfl⟩
    · exact lv_astore_nN hx hb hd rfl (mx_lv_has hL) h2 rfl (fun ls' h' => go h hR hS (mx_RL1 hL h2 rfl h') hc hs)
    · exact lv_astore_n hx hb hd rfl (mx_lv_has hL) h2 rfl (fun ls' h' => go h hR hS (mx_RL1 hL h2 rfl h') hc hs)
  case astore k9 =>
    obtain ⟨rfl, x, r, rfl, h1, h2, h⟩ := h
    rcases h1 with rfl | ⟨a, rfl⟩
    · exact lv_astoreN hx hb hd (mx_lv_has hL) h2 rfl (fun ls' h' => go h hR hS (mx_RL1 hL h2 rfl h') hc hs)
    · exact lv_astore hx hb hd (mx_lv_has hL) h2 rfl (fun ls' h' => go h hR hS (mx_RL1 hL h2 rfl h') hc hs)
  case iinc k9 c9 =>
    obtain ⟨rfl, x, h1, h2, h⟩ := h
    obtain ⟨q9, hq9⟩ := List.getElem?_of_mem (mx_lv_mem.mpr ⟨h2, h1⟩)
    exact lv_iinc hx hb hd (mx_lv_has hL) hq9 rfl h2 rfl (fun ls' h' => go h hR hS (mx_RL1 hL h2 rfl h') hc hs)
  case iadd =>
    obtain ⟨rfl, x, y, r, rfl, h⟩ := h
    exact lv_iadd hx hb hd (go h hR hS hL hc hs)
  case isub =>
    obtain ⟨rfl, x, y, r, rfl, h⟩ := h
    exact lv_isub hx hb hd (go h hR hS hL hc hs)
  case imul =>
    obtain ⟨rfl, x, y, r, rfl, h⟩ := h
    exact lv_imul hx hb hd (go h hR hS hL hc hs)
  case iand =>
    obtain ⟨rfl, x, y, r, rfl, h⟩ := h
    exact lv_iand hx hb hd (go h hR hS hL hc hs)
  case ixor =>
    obtain ⟨rfl, x, y, r, rfl, h⟩ := h
    exact lv_ixor hx hb hd (go h hR hS hL hc hs)
  case ishr =>
    obtain ⟨rfl, x, y, r, rfl, h⟩ := h
    exact lv_ishr hx hb hd (go h hR hS hL hc hs)
  case ladd =>
    obtain ⟨rfl, x, y, r, rfl, h⟩ := h
    exact lv_ladd hx hb hd (go h hR hS hL hc hs)
  case lsub =>
    obtain ⟨rfl, x, y, r, rfl, h⟩ := h
    exact lv_lsub hx hb hd (go h hR hS hL hc hs)
  case lmul =>
    obtain ⟨rfl, x, y, r, rfl, h⟩ := h
    exact lv_lmul hx hb hd (go h hR hS hL hc hs)
  case land =>
    obtain ⟨rfl, x, y, r, rfl, h⟩ := h
    exact lv_land hx hb hd (go h hR hS hL hc hs)
  case lor =>
    obtain ⟨rfl, x, y, r, rfl, h⟩ := h
    exact lv_lor hx hb hd (go h hR hS hL hc hs)
  case lxor =>
    obtain ⟨rfl, x, y, r, rfl, h⟩ := h
    exact lv_lxor hx hb hd (go h hR hS hL hc hs)
  case ldiv =>
    obtain ⟨rfl, x, y, r, rfl, h1, h⟩ := h
    exact lv_ldiv hx hb hd h1 (go h hR hS hL hc hs)
  case lrem =>
    obtain ⟨rfl, x, y, r, rfl, h1, h⟩ := h
    exact lv_lrem hx hb hd h1 (go h hR hS hL hc hs)
  case lshl =>
    obtain ⟨rfl, x, y, r, rfl, h⟩ := h
    exact lv_lshl hx hb hd rfl (go h hR hS hL hc hs)
  case lshr =>
    obtain ⟨rfl, x, y, r, rfl, h⟩ := h
    exact lv_lshr hx hb hd rfl (go h hR hS hL hc hs)
  case i2l =>
    obtain ⟨rfl, x, r, rfl, h⟩ := h
    exact lv_i2l hx hb hd rfl (go h hR hS hL hc hs)
  case l2i =>
    obtain ⟨rfl, x, r, rfl, h⟩ := h
    exact lv_l2i hx hb hd rfl (go h hR hS hL hc hs)
  case i2b =>
    obtain ⟨rfl, x, r, rfl, h⟩ := h
    exact lv_i2b hx hb hd rfl (go h hR hS hL hc hs)
  case lcmp =>
    obtain ⟨rfl, x, y, r, rfl, h⟩ := h
    exact W.lcmp hx hb hd (go h hR hS hL hc hs)
  case dup =>
    obtain ⟨rfl, x, r, rfl, h1, h⟩ := h
    exact lv_dup hx hb hd h1 (go h hR hS hL hc hs)
  case dup_x1 =>
    obtain ⟨rfl, x, y, r, rfl, h1, h2, h⟩ := h
    exact lv_dup_x1 hx hb hd h1 h2 (go h hR hS hL hc hs)
  case pop =>
    obtain ⟨rfl, x, r, rfl, h1, h⟩ := h
    exact lv_pop hx hb hd h1 (go h hR hS hL hc hs)
  case ifCond k9 off =>
    obtain ⟨rfl, x, r, t, rfl, h2, ht, hf⟩ := h
    cases k9
    · exact lv_if_eq hx hb hd h2 (fun q => go (ht q) hR hS hL hc hs) (fun q => go (hf q) hR hS hL hc hs)
    · exact lv_if_ne hx hb hd h2 (fun q => go (ht q) hR hS hL hc hs) (fun q => go (hf (fun z => z q)) hR hS hL hc hs)
    · exact lv_if_lt hx hb hd h2 (fun q => go (ht q) hR hS hL hc hs) (fun q => go (hf q) hR hS hL hc hs)
    · exact lv_if_ge hx hb hd h2 (fun q => go (ht q) hR hS hL hc hs) (fun q => go (hf q) hR hS hL hc hs)
    · exact lv_if_gt hx hb hd h2 (fun q => go (ht q) hR hS hL hc hs) (fun q => go (hf q) hR hS hL hc hs)
    · exact lv_if_le hx hb hd h2 (fun q => go (ht q) hR hS hL hc hs) (fun q => go (hf q) hR hS hL hc hs)
  case if_icmp k9 off =>
    obtain ⟨rfl, x, y, r, t, rfl, h2, ht, hf⟩ := h
    cases k9
    · exact lv_icmp_eq hx hb hd h2 (fun q => go (ht q) hR hS hL hc hs) (fun q => go (hf q) hR hS hL hc hs)
    · exact lv_icmp_ne hx hb hd h2 (fun q => go (ht q) hR hS hL hc hs) (fun q => go (hf (fun z => z q)) hR hS hL hc hs)
    · exact lv_icmp_lt hx hb hd h2 (fun q => go (ht q) hR hS hL hc hs) (fun q => go (hf q) hR hS hL hc hs)
    · exact lv_icmp_ge hx hb hd h2 (fun q => go (ht q) hR hS hL hc hs) (fun q => go (hf q) hR hS hL hc hs)
    · exact lv_icmp_gt hx hb hd h2 (fun q => go (ht q) hR hS hL hc hs) (fun q => go (hf q) hR hS hL hc hs)
    · exact lv_icmp_le hx hb hd h2 (fun q => go (ht q) hR hS hL hc hs) (fun q => go (hf q) hR hS hL hc hs)
  case if_acmp k9 off =>
    cases k9
    · obtain ⟨rfl, x, y, r, t, rfl, h2, ht, hf⟩ := h
      exact lv_acmp_eq hx hb hd h2 (fun q => go (ht q) hR hS hL hc hs) (fun q => go (hf q) hR hS hL hc hs)
    · obtain ⟨rfl, x, y, r, t, rfl, h2, ht, hf⟩ := h
      exact lv_acmp_ne hx hb hd h2 (fun q => go (ht q) hR hS hL hc hs) (fun q => go (hf q) hR hS hL hc hs)
  case ifnull off =>
    obtain ⟨rfl, x, r, t, rfl, h2, ht, hf⟩ := h
    cases x with
    | none => exact lv_ifnullN hx hb hd h2 (go (ht rfl) hR hS hL hc hs)
    | some a => exact lv_ifnull hx hb hd (go (hf (fun z => nomatch z)) hR hS hL hc hs)
  case ifnonnull off =>
    obtain ⟨rfl, x, r, t, rfl, h2, ht, hf⟩ := h
    cases x with
    | none => exact lv_ifnonnullN hx hb hd (go (hf rfl) hR hS hL hc hs)
    | some a => exact lv_ifnonnull hx hb hd h2 (go (ht (fun z => nomatch z)) hR hS hL hc hs)
  case goto off =>
    obtain ⟨rfl, t, h2, h⟩ := h
    exact lv_goto hx hb hd h2 (go h hR hS hL hc hs)
  case tableswitch d9 lo hi offs =>
    obtain ⟨x, r, rfl, ht, hf⟩ := h
    by_cases hq : x.toInt < lo ∨ hi < x.toInt
    · obtain ⟨t, h2, h⟩ := ht hq
      exact lv_tableOut hx hb hd hq h2 (go h hR hS hL hc hs)
    · obtain ⟨off, t, h1, h2, h⟩ := hf hq
      exact lv_tableIn hx hb hd (fun z => hq (Or.inl z)) (fun z => hq (Or.inr z)) h1 h2 (go h hR hS hL hc hs)
  case lookupswitch d9 ps =>
    obtain ⟨x, r, t, rfl, h1, h2, h⟩ := h
    exact lv_lookup hx hb hd h1 rfl h2 (go h hR hS hL hc hs)
  case arraylength =>
    obtain ⟨rfl, a, t, ⟨n, q⟩, r, rfl, h1, h2, h⟩ := h
    obtain ⟨cell, c1, c2, c3, c4, c5, -⟩ := mx_arr hR h1
    rcases h2 with h2 | h2
    · exact W.alen hx hb c1 (mx_isarr (hK.2 t _ (mx_tl_at (List.getElem?_eq_getElem h2))).1 c2 c3) (by rw [c5]) rfl rfl hd (go h hR hS hL hc hs)
    · subst h2
      exact W.alen hx hb c1 (mx_isarr hScr c2 c3) (by rw [c5]) rfl rfl hd (go h hR hS hL hc hs)
  case iaload =>
    obtain ⟨rfl, i, a, t, n, f, r, rfl, h3, h1, h2, h⟩ := h
    obtain ⟨cell, c1, c2, c3, c4, c5, c6⟩ := mx_arr hR h1
    rcases h3 with rfl | rfl
    · exact W.iald hx hb c1 (mx_isarr (hK.2 0 _ (mx_tl_at y0)).1 c2 c3) c4 (by rw [c5]; exact h2) (c6 _ (Nat.not_le.mp fun q => h2 (Or.inr q))) rfl rfl hd (go h hR hS hL hc hs)
    · exact W.iald hx hb c1 (mx_isarr hScr c2 c3) c4 (by rw [c5]; exact h2) (c6 _ (Nat.not_le.mp fun q => h2 (Or.inr q))) rfl rfl hd (go h hR hS hL hc hs)
  case laload =>
    obtain ⟨rfl, i, a, n, f, r, rfl, h1, h2, h⟩ := h
    obtain ⟨cell, c1, c2, c3, c4, c5, c6⟩ := mx_arr hR h1
    exact W.lald hx hb c1 (mx_isarr (hK.2 1 _ (mx_tl_at y1)).1 c2 c3) c4 (by rw [c5]; exact h2) (c6 _ (Nat.not_le.mp fun q => h2 (Or.inr q))) rfl rfl hd (go h hR hS hL hc hs)
  case baload =>
    obtain ⟨rfl, i, a, t, n, f, r, rfl, h3, h1, h2, h⟩ := h
    obtain ⟨cell, c1, c2, c3, c4, c5, c6⟩ := mx_arr hR h1
    rcases h3 with rfl | rfl
    · exact W.bald hx hb c1 (mx_isarr (hK.2 2 _ (mx_tl_at y2)).1 c2 c3) c4 (by rw [c5]; exact h2) (c6 _ (Nat.not_le.mp fun q => h2 (Or.inr q))) rfl rfl hd (go h hR hS hL hc hs)
    · exact W.zald hx hb c1 (mx_isarr (hK.2 3 _ (mx_tl_at y3)).1 c2 c3) c4 (by rw [c5]; exact h2) (c6 _ (Nat.not_le.mp fun q => h2 (Or.inr q))) rfl rfl hd (go h hR hS hL hc hs)
  case aaload =>
    obtain ⟨rfl, i, a, t, n, f, r, rfl, h3, h4, h1, h2, h⟩ := h
    obtain ⟨C, hC⟩ := y4 t h3 h4
    obtain ⟨cell, c1, c2, c3, c4, c5, c6⟩ := mx_arr hR h1
    exact W.aald (ty := .object C) hx hb c1 (mx_isarr (hK.2 t _ (mx_tl_at hC)).1 c2 c3) rfl c4 (by rw [c5]; exact h2) (c6 _ (Nat.not_le.mp fun q => h2 (Or.inr q))) rfl rfl hd (go h hR hS hL hc hs)
  case iastore =>
    obtain ⟨rfl, x, i, a, n, f, r, rfl, h1, h2, h3, h⟩ := h
    refine W.iast hx hb (show H[a]? = some (vp_cell (aC 0) (n, .inl f)) from (hR.2 a _ h1).1 h2) ((hK.2 0 _ (mx_tl_at y0)).1 n (fun j => .int (f j))) (fun q => by cases q) (by show ¬ (i < 0 ∨ (arrV _ _ _).slots.size ≤ _); rw [arrV_size]; exact h3) rfl rfl hd fun H1 e9 z oq => ?_
    refine go h (hR.up h2 z oq ?_) (hS.put z oq h2) hL hc hs
    show H1[a]? = some (vp_cell (aC 0) (n, .inl (upd f i.toNatClampNeg x)))
    rw [e9]
    rw [vp_cell_i, vp_cell_i, arrV_store]
    congr 2
    funext q
    by_cases hq : q = i.toNatClampNeg
    · subst hq
      simp [updV, upd]
      try rfl
    · simp [updV, upd, hq]
  case lastore =>
    obtain ⟨rfl, x, i, a, n, f, r, rfl, h1, h2, h3, h⟩ := h
    refine W.last hx hb (show H[a]? = some (vp_cell (aC 1) (n, mx_al f)) from (hR.2 a _ h1).1 h2) ((hK.2 1 _ (mx_tl_at y1)).1 n (fun j => .long (f j))) (fun q => by cases q) (by show ¬ (i < 0 ∨ (arrV _ _ _).slots.size ≤ _); rw [arrV_size]; exact h3) rfl rfl hd fun H1 e9 z oq => ?_
    refine go h (hR.up h2 z oq ?_) (hS.put z oq h2) hL hc hs
    show H1[a]? = some (vp_cell (aC 1) (n, mx_al (vp_updL f i.toNatClampNeg x)))
    rw [e9]
    rw [vp_cell_l, vp_cell_l, arrV_store]
    congr 2
    funext q
    by_cases hq : q = i.toNatClampNeg
    · subst hq
      simp [updV, vp_updL]
      try rfl
    · simp [updV, vp_updL, hq]
  case bastore =>
    obtain ⟨rfl, x, i, a, t, n, f, r, rfl, h4, h1, h2, h3, h⟩ := h
    rcases h4 with rfl | rfl
    · refine W.bast hx hb (show H[a]? = some (vp_cell (aC 2) (n, .inl f)) from (hR.2 a _ h1).1 h2) ((hK.2 2 _ (mx_tl_at y2)).1 n (fun j => .int (f j))) (fun q => by cases q) (by show ¬ (i < 0 ∨ (arrV _ _ _).slots.size ≤ _); rw [arrV_size]; exact h3) rfl rfl hd fun H1 e9 z oq => ?_
      refine go h (hR.up h2 z oq ?_) (hS.put z oq h2) hL hc hs
      show H1[a]? = some (vp_cell (aC 2) (n, .inl (upd f i.toNatClampNeg (vp_nar .byte x))))
      rw [e9]
      rw [vp_cell_i, vp_cell_i, arrV_store]
      congr 2
      funext q
      by_cases hq : q = i.toNatClampNeg
      · subst hq
        simp [updV, upd, vp_nar]
        try rfl
      · simp [updV, upd, vp_nar, hq]
    · refine W.zast hx hb (show H[a]? = some (vp_cell (aC 3) (n, .inl f)) from (hR.2 a _ h1).1 h2) ((hK.2 3 _ (mx_tl_at y3)).1 n (fun j => .int (f j))) (fun q => by cases q) (by show ¬ (i < 0 ∨ (arrV _ _ _).slots.size ≤ _); rw [arrV_size]; exact h3) rfl rfl hd fun H1 e9 z oq => ?_
      refine go h (hR.up h2 z oq ?_) (hS.put z oq h2) hL hc hs
      show H1[a]? = some (vp_cell (aC 3) (n, .inl (upd f i.toNatClampNeg (vp_nar .boolean x))))
      rw [e9]
      rw [vp_cell_i, vp_cell_i, arrV_store]
      congr 2
      funext q
      by_cases hq : q = i.toNatClampNeg
      · subst hq
        simp [updV, upd, vp_nar]
        try rfl
      · simp [updV, upd, vp_nar, hq]
  case aastore =>
    obtain ⟨rfl, x, i, a, t, n, f, r, rfl, h4, h5, h1, h2, h3, h6, h⟩ := h
    obtain ⟨C, hC⟩ := y4 t h4 h5
    have fin : ∀ (H1 : Heap), H1[a]? = some ((vp_cell (aC t) (n, mx_aq f)).setSlot i.toNatClampNeg (va_rf x)) → H1[a]? = some (vp_cell (aC t) (n, mx_aq (va_up f i.toNatClampNeg x))) := by
      intro H1 e9
      rw [e9]
      show some ((vp_cell (aC t) (n, .inr (.inr (.inr (.inr f))))).setSlot i.toNatClampNeg (va_rf x)) = some (vp_cell (aC t) (n, .inr (.inr (.inr (.inr (va_up f i.toNatClampNeg x))))))
      rw [vp_cell_q, vp_cell_q, arrV_store]
      congr 2
      funext q
      by_cases hq : q = i.toNatClampNeg
      · subst hq
        simp [updV, va_up]
      · simp [updV, va_up, hq]
    cases x with
    | none =>
      exact va_WaastN (C := C) hx hb (show H[a]? = some (vp_cell (aC t) (n, mx_aq f)) from (hR.2 a _ h1).1 h2) ((hK.2 t _ (mx_tl_at hC)).1 n (fun j => va_rf (f j))) (fun q => by cases q) (by show ¬ (i < 0 ∨ (arrV _ _ _).slots.size ≤ _); rw [arrV_size]; exact h3) rfl rfl hd fun H1 e9 z oq => go h (hR.up h2 z oq (fin H1 e9)) (hS.put z oq h2) hL hc hs
    | some v =>
      obtain ⟨ci, fs, g1, g2⟩ := h6 v rfl
      obtain ⟨E, r9, k1, k2, k3⟩ := okG t ci g2
      obtain ⟨r8, cellV, hr8, v1, v2, v3, -, -⟩ := mx_obj hR g1
      have hcls := (hK.1 ci r9 k2).2
      obtain ⟨kA, comp, c1, c2, c3, -⟩ := (hK.2 t _ (mx_tl_at k1)).2
      obtain ⟨kE, hkE, -⟩ := Vm.findClass_spec c3
      have hasg : s.vm.assignable (D.1 ci) comp = true := by
        rcases k3 with k3 | k3
        · obtain ⟨c0, t1, f1, f2, f3⟩ := Cond.castable_spec (va_Nw.use (A := args) rfl (hN _ k3))
          cases hcls.1.symm.trans f1
          cases c3.symm.trans f2
          exact f3
        · have hcomp : comp = D.1 ci := Option.some.inj (c3.symm.trans (by rw [← k3]; exact hcls.1))
          rw [hcomp]
          exact va_assign hcls
      obtain ⟨kC, hkC, -⟩ := hcls.2
      have hlt : i.toNatClampNeg < n := Nat.not_le.mp fun q => h3 (Or.inr q)
      exact W.aast hx hb (show H[a]? = some (vp_cell (aC t) (n, mx_aq f)) from (hR.2 a _ h1).1 h2) (fun q z => by cases z) (fun z => by cases z) c1 c2 rfl hkE ⟨fun q => h3 (Or.inl q), by show _ < (arrV _ _ _).slots.size; rw [arrV_size]; exact hlt⟩ v1 (fun q z => by rw [z] at v3; cases v3) (by rw [v2]; exact hkC) (by rw [v2]; exact hasg) rfl rfl hd fun H1 e9 z oq => go h (hR.up h2 z oq (fin H1 e9)) (hS.put z oq h2) hL hc hs
  case newarray a9 =>
    cases a9
    · obtain ⟨rfl, k9, r, rfl, h1, h2, h⟩ := h
      obtain ⟨s1, s2⟩ := mx_sz h
      have s1' : G.2.1 + 1 ≤ G'.2.1 := s1
      have s2' : G.2.2 + k9.toNatClampNeg ≤ G'.2.2 := s2
      refine va_newaK hx hb (hts _ (y5 .boolean (Or.inr (Or.inr (Or.inr rfl))))) rfl hd rfl h1 rfl (by show k9.toNatClampNeg * _ ≤ _; simp [newarray.typeOf, componentBytes]; omega) (by omega) (by omega) hR.1 fun H1 cA e1 z1 o1 hAr hNm => ?_
      have ec : cA = aC 3 := Option.some.inj (hNm.symm.trans (hK.2 3 _ (mx_tl_at y3)).2)
      subst ec
      refine go h (hR.pu h0H (by rw [z1, hR.1]) (fun q hq => o1 q (by rw [← hR.1]; exact hq)) ?_) (mx_S.pu hS (by rw [z1, hR.1]) (fun q hq => o1 q (by rw [← hR.1]; exact hq))) hL (by show cells + 1 + z0 = G.2.1 + 1; omega) (by show slots + k9.toNatClampNeg + u0 = G.2.2 + k9.toNatClampNeg; omega)
      rw [hR.1]
      exact e1
    · exact False.elim h
    · exact False.elim h
    · exact False.elim h
    · obtain ⟨rfl, k9, r, rfl, h1, h2, h⟩ := h
      obtain ⟨s1, s2⟩ := mx_sz h
      have s1' : G.2.1 + 1 ≤ G'.2.1 := s1
      have s2' : G.2.2 + k9.toNatClampNeg ≤ G'.2.2 := s2
      refine va_newaK hx hb (hts _ (y5 .byte (Or.inr (Or.inr (Or.inl rfl))))) rfl hd rfl h1 rfl (by show k9.toNatClampNeg * _ ≤ _; simp [newarray.typeOf, componentBytes]; omega) (by omega) (by omega) hR.1 fun H1 cA e1 z1 o1 hAr hNm => ?_
      have ec : cA = aC 2 := Option.some.inj (hNm.symm.trans (hK.2 2 _ (mx_tl_at y2)).2)
      subst ec
      refine go h (hR.pu h0H (by rw [z1, hR.1]) (fun q hq => o1 q (by rw [← hR.1]; exact hq)) ?_) (mx_S.pu hS (by rw [z1, hR.1]) (fun q hq => o1 q (by rw [← hR.1]; exact hq))) hL (by show cells + 1 + z0 = G.2.1 + 1; omega) (by show slots + k9.toNatClampNeg + u0 = G.2.2 + k9.toNatClampNeg; omega)
      rw [hR.1]
      exact e1
    · exact False.elim h
    · obtain ⟨rfl, k9, r, rfl, h1, h2, h⟩ := h
      obtain ⟨s1, s2⟩ := mx_sz h
      have s1' : G.2.1 + 1 ≤ G'.2.1 := s1
      have s2' : G.2.2 + k9.toNatClampNeg ≤ G'.2.2 := s2
      refine va_newaK hx hb (hts _ (y5 .int (Or.inl rfl))) rfl hd rfl h1 rfl (by show k9.toNatClampNeg * _ ≤ _; simp [newarray.typeOf, componentBytes]; omega) (by omega) (by omega) hR.1 fun H1 cA e1 z1 o1 hAr hNm => ?_
      have ec : cA = aC 0 := Option.some.inj (hNm.symm.trans (hK.2 0 _ (mx_tl_at y0)).2)
      subst ec
      refine go h (hR.pu h0H (by rw [z1, hR.1]) (fun q hq => o1 q (by rw [← hR.1]; exact hq)) ?_) (mx_S.pu hS (by rw [z1, hR.1]) (fun q hq => o1 q (by rw [← hR.1]; exact hq))) hL (by show cells + 1 + z0 = G.2.1 + 1; omega) (by show slots + k9.toNatClampNeg + u0 = G.2.2 + k9.toNatClampNeg; omega)
      rw [hR.1]
      exact e1
    · obtain ⟨rfl, k9, r, rfl, h1, h2, h⟩ := h
      obtain ⟨s1, s2⟩ := mx_sz h
      have s1' : G.2.1 + 1 ≤ G'.2.1 := s1
      have s2' : G.2.2 + k9.toNatClampNeg ≤ G'.2.2 := s2
      refine va_newaK hx hb (hts _ (y5 .long (Or.inr (Or.inl rfl)))) rfl hd rfl h1 rfl (by show k9.toNatClampNeg * _ ≤ _; simp [newarray.typeOf, componentBytes]; omega) (by omega) (by omega) hR.1 fun H1 cA e1 z1 o1 hAr hNm => ?_
      have ec : cA = aC 1 := Option.some.inj (hNm.symm.trans (hK.2 1 _ (mx_tl_at y1)).2)
      subst ec
      refine go h (hR.pu h0H (by rw [z1, hR.1]) (fun q hq => o1 q (by rw [← hR.1]; exact hq)) ?_) (mx_S.pu hS (by rw [z1, hR.1]) (fun q hq => o1 q (by rw [← hR.1]; exact hq))) hL (by show cells + 1 + z0 = G.2.1 + 1; omega) (by show slots + k9.toNatClampNeg + u0 = G.2.2 + k9.toNatClampNeg; omega)
      rw [hR.1]
      exact e1
  case anewarray j9 =>
    obtain ⟨rfl, k9, t, r, rfl, h3, h1, h2, h⟩ := h
    obtain ⟨C, a1, a2, a3⟩ := okA _ _ _ h3
    obtain ⟨s1, s2⟩ := mx_sz h
    have s1' : G.2.1 + 1 ≤ G'.2.1 := s1
    have s2' : G.2.2 + k9.toNatClampNeg ≤ G'.2.2 := s2
    refine W.anew hx hb hown (hts _ a2) (va_AO.use (hAO C a3)) rfl hd rfl h1 (by omega) (by omega) (by omega) fun cA kA comp f1 f2 f3 f4 => ?_
    obtain ⟨kB, cmp2, b1, b2, b3, b4⟩ := (hK.2 t _ (mx_tl_at a1)).2
    have ec : cA = aC t := Option.some.inj (f1.symm.trans b4)
    subst ec
    generalize hH1 : H.push ({ cls := aC t, slots := Array.replicate k9.toNatClampNeg .null, vm := .none } : Cell) = H1
    have z1 : H1.size = H.size + 1 := by rw [← hH1, Array.size_push]
    have e1 : H1[H.size]? = some (arrV (aC t) k9.toNatClampNeg (fun _ => .null)) := by rw [← hH1, Array.getElem?_push_size, ← arrV_new]
    have o1 : ∀ q : Nat, q < H.size → H1[q]? = H[q]? := fun q hq => by rw [← hH1, Array.getElem?_push, if_neg (Nat.ne_of_lt hq)]
    have kk := go h (hR.pu (n := k9.toNatClampNeg) (c := .inl (t, k9.toNatClampNeg, mx_aq (fun _ => none))) h0H z1 o1 e1) (mx_S.pu hS z1 o1) hL (show cells + 1 + z0 = G.2.1 + 1 by omega) (show slots + k9.toNatClampNeg + u0 = G.2.2 + k9.toNatClampNeg by omega)
    rw [← hR.1] at kk
    exact kk
  case new j9 =>
    obtain ⟨rfl, ci, fs, h1, h⟩ := h
    obtain ⟨C, T, a1, a2, a3, a4, a5⟩ := okN _ _ _ _ h1
    obtain ⟨-, hin, ty, b1, b2⟩ := okC _ _ _ _ a1
    obtain ⟨s1, s2⟩ := mx_sz h
    have s1' : G.2.1 + 1 ≤ G'.2.1 := s1
    have s2' : G.2.2 + fs.length ≤ G'.2.2 := s2
    have hKn := hK.1 ci _ a1
    refine W.newcK hx hb hown (hts _ a2) (hts _ a3) (hts _ a4) rfl hd (by omega) (by omega) hKn.2.1 hR.1 fun H1 kC hkC e1 z1 o1 => ?_
    refine go h (hR.pu h0H (by rw [z1, hR.1]) (fun q hq => o1 q (by rw [← hR.1]; exact hq)) ?_) (mx_S.pu hS (by rw [z1, hR.1]) (fun q hq => o1 q (by rw [← hR.1]; exact hq))) hL (by show cells + 1 + z0 = G.2.1 + 1; omega) (by show slots + fs.length + u0 = G.2.2 + fs.length; omega)
    rw [hR.1]
    refine ⟨_, a1, (u_born ty hts hin hKn hkC e1 b1).to (fun j hj => ?_)⟩
    have q1 := a5 j hj
    rw [b1 j hj] at q1
    exact Option.some.inj q1
  case getfield j9 =>
    obtain ⟨rfl, a, ci, k9, t, b, fs, v, r, rfl, h1, h2, h3, h⟩ := h
    obtain ⟨C, T, N, ref, a1, a2, a3, a4, a5, a6, a7⟩ := okF _ _ _ _ _ _ h1
    obtain ⟨-, hin, -⟩ := okC _ _ _ _ a1
    obtain ⟨r9, cell, q0, q1, q2, q3, q4, q5⟩ := mx_obj hR h2
    have hr : r9 = (C, T, N) := Option.some.inj (q0.symm.trans a1)
    subst hr
    obtain ⟨hSl, hfc, kC, hkC, hkind⟩ := hK.1 ci _ a1
    obtain ⟨cf, kf, fi, fd, hi, hsl⟩ := hSl k9 a2
    have hst := (u_facts hfc hkC (u_lays hts hin a2) hi).1
    have hsame : ∀ z, s.fieldFound? (T k9).1 (T k9).2.1 (T k9).2.2.1 = some z → s.fieldFound? ref (T k9).2.1 (T k9).2.2.1 = some z := by
      intro z hz
      rcases a7 with rfl | a7
      · exact hz
      · exact u_same (hts _ a7) z hz
    refine W.getf hx hb hown (hts _ a6) (hsame _ hi) hst q1 q4 (v := v) ?_ rfl rfl hd (go h hR hS hL hc hs)
    rw [hsl, q5 k9 a2]
    simp [vp_V, h3]
  case putfield j9 =>
    obtain ⟨rfl, v, a, ci, k9, t, b, fs, r, rfl, h1, h2, h3, h4, h5, h6, h7, h⟩ := h
    obtain ⟨C, T, N, ref, a1, a2, a3, a4, a5, a6, a7⟩ := okF _ _ _ _ _ _ h1
    obtain ⟨-, hin, ty, b1, b2⟩ := okC _ _ _ _ a1
    have hsame : ∀ z, s.fieldFound? (T k9).1 (T k9).2.1 (T k9).2.2.1 = some z → s.fieldFound? ref (T k9).2.1 (T k9).2.2.1 = some z := by
      intro z hz
      rcases a7 with rfl | a7
      · exact hz
      · exact u_same (hts _ a7) z hz
    have hap := va_apart (own := cn (mx_mc M)) hts hin ty b1 b2 hK a1
    obtain ⟨r9, q0, cell, q1, q2, q3, q4⟩ := (hR.2 a _ h2).1 h3
    have hr : r9 = (C, T, N) := Option.some.inj (q0.symm.trans a1)
    subst hr
    obtain ⟨hSl, hfc, kC, hkC, hkind⟩ := hK.1 ci _ a1
    obtain ⟨cf, kf, fi, fd, hi, hsl⟩ := hSl k9 a2
    have hst := (u_facts hfc hkC (u_lays hts hin a2) hi).1
    have hlay := hts _ (hin _ (u_in_lay a2))
    unfold u_lay at hlay
    have fin : ∀ (H1 : Heap), H1[a]? = some (cell.setSlot fd.slot v) → va_at D cl (a, mx_e aC (.inr (ci, fs.set k9 v))) H1 := by
      intro H1 e9
      rw [hsl] at e9
      exact ⟨_, a1, t_OB.to (V := updV (vp_V fs) k9 v) ⟨_, e9, q2, q3, t_set q4 hap a2 v⟩ (fun j _ => vp_updV_set h7 v j)⟩
    cases b with
    | false =>
      rw [if_neg (by rw [a4]; decide)] at hlay
      have h8 := u_store hfc hkC hkind hlay hi a3 h5 h6
      exact W.putK hx hb (f := fd) ⟨hown, hts _ a6, ⟨_, _, _, hsame _ hi⟩, hst⟩ (by rw [q2]; exact h8) q1 q3 (by rw [hsl]; exact k2_hasslot (q4 k9 a2)) rfl rfl hd fun H1 e9 z oq => go h (hR.up h3 z oq (fin H1 e9)) (hS.put z oq h3) hL hc hs
    | true =>
      rw [if_pos a4] at hlay
      have hcf : m.cls = cf := by
        obtain ⟨_, _, c', _, _, _, -, -, hf', -, -, -, hown2, -⟩ := Cond.laysFinal_spec hlay
        have e1 : c' = cf := by have := hi.symm.trans hf'; simp at this; exact this.1.symm
        rw [a5 rfl] at hown2
        rw [← e1]; exact Option.some.inj (hown.symm.trans hown2)
      have h8 := u_fits hfc hkC hkind (Or.inr hlay) hi a3 h5 h6
      exact W.putFinK hx hb hown (hts _ a6) (hsame _ hi) hst hcf (hnm.trans (h4 rfl)) (by rw [q2]; exact h8) q1 q3 (by rw [hsl]; exact k2_hasslot (q4 k9 a2)) rfl rfl hd fun H1 e9 z oq => go h (hR.up h3 z oq (fin H1 e9)) (hS.put z oq h3) hL hc hs
  case getstatic j9 =>
    obtain ⟨rfl, v, h1, h⟩ := h
    obtain ⟨C, n9, d9, z1, z2⟩ := hZ _ _ _ h1
    exact va_gets hx hb z1 hS hown (hts _ z2) (fun _ z => z) hd (go h hR hS hL hc hs)
  case checkcast j9 =>
    obtain ⟨rfl, x, r, rfl, h1, h⟩ := h
    cases x with
    | none => exact lv_castN hx hb hd (go h hR hS hL hc hs)
    | some a =>
      obtain ⟨cs, ci, fs, g1, g2, g3⟩ := h1 a rfl
      obtain ⟨nm, k1, k2⟩ := okT _ _ _ g1
      obtain ⟨T, N, k3⟩ := k2 ci g3
      exact va_castS hx hb hown (hts _ k1) (hK.1 ci _ k3).2 (mx_recv hK hR k3 g2) hd (go h hR hS hL hc hs)
  case invokevirtual j9 =>
    obtain ⟨rfl, a, ⟨n, q⟩, r, na, M', rfl, h1, h2, h3, h4, h5, h⟩ := h
    obtain ⟨cell, c1, c2, c3, c4, c5, -⟩ := mx_arr hR h2
    obtain ⟨-, -, m1, -⟩ := okM _ _ _ _ _ h1
    obtain ⟨w1, w2, w3, w4⟩ := m1 rfl
    refine va_getC hx hb (by rw [hml, hL.1]) hown (hts _ w1) (va_Dc.use hDc) (hts _ w2) (hts _ w3) (hts _ w4) hMi ⟨cell, c1, c3, ?_⟩ (by omega) (by omega) hd (go h hR hS hL hc hs)
    rw [c2]
    exact va_nmO (hK.2 4 _ (mx_tl_at yO)).2 (by decide)
  case invokestatic j9 =>
    obtain ⟨rfl, sp, dp, cn9, a0, a, n0, n1, f, g, r, na, M', rfl, h1, g0, g1, b0, b1, p1, p2, p3, p4, p5, hel, w0, w1, w2, h⟩ := h
    obtain ⟨-, m1, -⟩ := okM _ _ _ _ _ h1
    obtain ⟨v1, v2, v3, v4⟩ := m1 rfl
    refine mx_copy hx hb (by rw [hml, hL.1]) hown (hts _ v1) (hts _ v2) (hts _ v3) (hts _ v4) hK (mx_tl_at yO) ((hR.2 a0 _ g0).1 b0) ((hR.2 a _ g1).1 b1) p1 p2 p3 p4 p5 (fun i hi y hy => ?_) (by omega) (by have : nativeFrameWords "java/lang/System" "arraycopy" 5 + 11 ≤ 32 := (by decide); omega) hd (fun H1 locs1 z oq e9 hl => go h (hR.up b1 z oq e9) ?_ hL hc hs)
    · obtain ⟨ci, fs, q1, q2⟩ := hel i hi y hy
      obtain ⟨E, r9, k1, k2, k3⟩ := okG 4 ci q2
      have eE : E = "java/lang/Object" := FieldType.object.inj (Option.some.inj (k1.symm.trans yO))
      subst eE
      obtain ⟨r8, cellV, hr8, u1, u2, u3, -, -⟩ := mx_obj hR q1
      have hcls := (hK.1 ci r9 k2).2
      obtain ⟨kC, hkC, -⟩ := hcls.2
      refine ⟨cellV, u1, u3, ⟨kC, by rw [u2]; exact hkC⟩, fun comp hcomp => ?_⟩
      rw [u2]
      rcases k3 with k3 | k3
      · obtain ⟨c0, t1, f1, f2, f3⟩ := Cond.castable_spec (va_Nw.use (A := args) rfl (hN _ k3))
        cases hcls.1.symm.trans f1
        cases hcomp.symm.trans f2
        exact f3
      · have hcc : comp = D.1 ci := Option.some.inj (hcomp.symm.trans (by rw [← k3]; exact hcls.1))
        rw [hcc]
        exact va_assign hcls
    · refine ⟨by rw [z]; exact hS.1, fun q g1 g2 => ?_, fun q hq => ?_⟩
      · rw [oq q (fun e => g2 (by rw [e]; exact b1))]
        exact hS.2.1 q g1 g2
      · rcases hl q hq with h9 | h9
        · exact hS.2.2 q h9
        · rw [h9]; exact b1
  all_goals exact False.elim h
end
section
set_option maxHeartbeats 8000000 in
set_option maxRecDepth 100000 in
/-- calls -/
theorem mx_sc {P : mx_T} {cn : Nat → String} {cl : List vw_C} {D : va_G} {aC : Nat → ClassId} {tbl nst : List Cond} {ao : List String} (hok : mx_ok P cn cl tbl nst ao) {l : Launch} {k : Nat} (hF : mx_Fs P cn cl D aC tbl nst ao l k) {M : mx_M} {pc : Nat} {L : mx_L} {st : List Value} {G : mx_H} {o : mx_O} {G' : mx_H} {i : Instr} {n : Nat} (hd : decode (mx_mb M) pc = .ok (i, n)) {M' : mx_M} {as rest : List Value} (hca : mx_ca P M st G n i M' as rest) (h : mx_wp P k M' 0 (mx_en 0 as) [] G (fun o1 G1 => ∃ v, o1 = .inl v ∧ mx_wp P k M (pc + 3) L (v.toList ++ rest) G1 (fun a b => a = o ∧ b = G')))
    {p : Program} {e : Env} {R : Room} {s : State} {m : MethodId} {args : Array Value} {below : List Frame} {meth : Method} {c : Code} {H : Heap} {locs : List Loc} {cells slots : Nat} {Qf : State → Prop} {ls : Array Slot} {z0 u0 : Nat}
    (X : mx_X P cn cl D aC tbl nst ao M p s m args meth c) (hfr : mx_mf M ≤ R.frames) (hlo : mx_mw M ≤ R.locals) (hR : mx_R P cl D aC H G) (hS : va_S (mx_A P) s.heap H locs) (hL : mx_RL (mx_mg M) (mx_ml M) ls L) (hc : cells + z0 = G.2.1) (hs : slots + u0 = G.2.2) (hG1 : G'.2.1 ≤ z0 + R.cells) (hG2 : G'.2.2 ≤ u0 + R.slots)
    (go : ∀ {pc' : Nat} {L' : mx_L} {st' : List Value} {G1 : mx_H} {H1 : Heap} {locs1 : List Loc} {cells1 slots1 : Nat} {ls1 : Array Slot}, mx_wp P k M pc' L' st' G1 (fun a b => a = o ∧ b = G') → mx_R P cl D aC H1 G1 → va_S (mx_A P) s.heap H1 locs1 → mx_RL (mx_mg M) (mx_ml M) ls1 L' → cells1 + z0 = G1.2.1 → slots1 + u0 = G1.2.2 → W p l e R s m args below meth c H1 locs1 cells1 slots1 Qf (F0 m pc' ls1 st')) :
    W p l e R s m args below meth c H locs cells slots Qf (F0 m pc ls st) := by
  obtain ⟨hx, hb, hml, hown, hts, hU, hnm⟩ := X
  obtain ⟨okW, okC, okF, okK, okN, okA, okY, okG, okT, okM⟩ := hok
  obtain ⟨rfl, w1, w2, w3, w4, w5, hca⟩ := hca
  obtain ⟨o1, G1, ⟨v, rfl, hk⟩, s1, s2, hw⟩ := mx_exact h
  obtain ⟨t1, t2⟩ := mx_sz hk
  have hPc : ∀ U : State, U.heap = H → s.WarmedH U.vm → mx_Pc P cn cl D aC tbl nst ao as G as.toArray U := fun U hH hW => ⟨rfl, by rw [hH]; exact hR, hU.moved okW hW (locs := locs) (by rw [hH]; exact hS)⟩
  have fit : cells + (G1.2.1 - G.2.1) ≤ R.cells ∧ slots + (G1.2.2 - G.2.2) ≤ R.slots := ⟨by omega, by omega⟩
  have kk : ∀ (H1 : Heap) (locs1 : List Loc), mx_R P cl D aC H1 G1 → va_S (mx_A P) s.heap H1 locs1 → W p l e R s m args below meth c H1 locs1 (cells + (G1.2.1 - G.2.1)) (slots + (G1.2.2 - G.2.2)) Qf (F0 m (pc + 3) ls (v.toList ++ rest)) := fun H1 locs1 r1 r2 => go hk r1 r2 hL (by omega) (by omega)
  cases i
  case invokevirtual j =>
    obtain ⟨na, a, bs, ci, fs, h1, h2, rfl, rfl, h5, h6⟩ := hca
    obtain ⟨-, -, -, m1, m2, -, -, -⟩ := okM _ _ _ _ _ h1
    obtain ⟨p1, p2, p3, p4, p5, p6⟩ := m1 (by decide) (by decide) (by decide)
    obtain ⟨q1, q2, q3, ⟨r, q4⟩⟩ := m2 rfl
    subst h6
    obtain ⟨C, T, N⟩ := r
    obtain ⟨e1, -, -⟩ := okC _ _ _ _ q4
    have hM := mx_met hF hw w2 w5 p1 p6
    refine mx_call (va_runV (As := bs) (rest := rest) (C := cn (mx_mc M')) (Ts := tbl) (n := na) ⟨hx, hb, hml, hown, hts⟩ hM ⟨callB_of na hts (mx_good okW p2) rfl rfl rfl (hts _ p3) (hts _ q1) ⟨p4.1, p4.2, p5⟩ ⟨Nat.le_trans w3 hfr, Nat.le_trans w4 hlo⟩, hts _ q2, hts _ q3⟩ ⟨mx_blind okW _ _, ?_, hPc⟩ rfl h2 hL.1 rfl (lv_room w1) hd fit) hS kk
    rw [e1]
    exact mx_recv hU.1 hR q4 h5
  case invokespecial j =>
    obtain ⟨k9, na, a, bs, h1, h0, h2, rfl, rfl⟩ := hca
    obtain ⟨-, -, -, m1, -, m3, m4, -⟩ := okM _ _ _ _ _ h1
    obtain ⟨p1, p2, p3, p4, p5, p6⟩ := m1 (by omega) (by omega) (by omega)
    have hM := mx_met hF hw w2 w5 p1 p6
    rcases h0 with h0 | h0
    · obtain ⟨q1, q2, q3, q4⟩ := m3 h0
      have cb : CallB R s args (cn (mx_mc M)) j (mx_my M') (mx_mb M') (mx_ml M') (mx_mr M') (Cond.code (mx_my M') (mx_mb M') (mx_ml M') (mx_mr M') :: tbl) { frames := mx_mf M', cells := G1.2.1 - G.2.1, slots := G1.2.2 - G.2.2, locals := mx_mw M' } (G1.2.1 - G.2.1) (G1.2.2 - G.2.2) na := callB_of (Ts := tbl) na hts (mx_good okW p2) rfl rfl rfl (hts _ p3) (hts _ q1) ⟨p4.1, p4.2, p5⟩ ⟨Nat.le_trans w3 hfr, Nat.le_trans w4 hlo⟩
      rw [q4] at cb hM
      exact mx_call (va_runI (As := bs) (rest := rest) (Ts := tbl) (n := na) ⟨hx, hb, hml, hown, hts⟩ hM ⟨cb, q3, hts _ q2⟩ ⟨mx_blind okW _ _, hPc⟩ rfl h2 hL.1 rfl (lv_room w1) hd fit) hS kk
    · obtain ⟨⟨host, q1⟩, q2, q3, q4⟩ := m4 h0
      have cb : va_CN R s args (cn (mx_mc M)) j (mx_my M') host (mx_mb M') (mx_ml M') (mx_mr M') (Cond.code (mx_my M') (mx_mb M') (mx_ml M') (mx_mr M') :: tbl) { frames := mx_mf M', cells := G1.2.1 - G.2.1, slots := G1.2.2 - G.2.2, locals := mx_mw M' } (G1.2.1 - G.2.1) (G1.2.2 - G.2.2) na := va_cnB (Ts := tbl) na hts (mx_good okW p2) rfl rfl rfl (hU.2.1 _ q1) (hts _ p3) ⟨p4.1, p4.2, p5⟩ ⟨Nat.le_trans w3 hfr, Nat.le_trans w4 hlo⟩
      rw [q4] at cb hM
      exact mx_call (va_runIN (As := bs) (rest := rest) (Ts := tbl) (n := na) ⟨hx, hb, hml, hown, hts⟩ hM ⟨cb, q3, hts _ q2⟩ ⟨mx_blind okW _ _, hPc⟩ rfl h2 hL.1 rfl (lv_room w1) hd fit) hS kk
  case invokestatic j =>
    obtain ⟨na, h1, h2, rfl⟩ := hca
    obtain ⟨-, -, -, m1, -, -, -, m5⟩ := okM _ _ _ _ _ h1
    obtain ⟨p1, p2, p3, p4, p5, p6⟩ := m1 (by decide) (by decide) (by decide)
    obtain ⟨q1, q2⟩ := m5 rfl
    have hM := mx_met hF hw w2 w5 p1 p6
    exact mx_call (va_runS (As := as) (rest := rest) (Ts := tbl) (n := na) ⟨hx, hb, hml, hown, hts⟩ hM ⟨callB_of na hts (mx_good okW p2) rfl rfl rfl (hts _ p3) (hts _ q1) ⟨p4.1, p4.2, p5⟩ ⟨Nat.le_trans w3 hfr, Nat.le_trans w4 hlo⟩, hts _ q2⟩ ⟨mx_blind okW _ _, hPc⟩ rfl h2 hL.1 rfl (lv_room w1) hd fit) hS kk
  all_goals exact False.elim hca
set_option maxHeartbeats 8000000 in
/-- THE SMALL MACHINE IS SOUND: what it runs to, the machine runs to -/
theorem mx_sound {P : mx_T} {cn : Nat → String} {cl : List vw_C} {D : va_G} {aC : Nat → ClassId} {tbl nst : List Cond} {ao : List String} (hok : mx_ok P cn cl tbl nst ao) (l : Launch) : ∀ k, mx_Fs P cn cl D aC tbl nst ao l k := by
  intro k
  induction k with
  | zero => intro M pc L st G o G' h; exact h.elim
  | succ k ih =>
    intro M pc L st G o G' h p e R s m args below meth c H locs cells slots Qf ls z0 u0 X hfr hlo hR hS hL hc hs hG1 hG2 hret
    obtain ⟨i, n, hd, h⟩ := h
    have go : ∀ {pc' : Nat} {L' : mx_L} {st' : List Value} {G1 : mx_H} {H1 : Heap} {locs1 : List Loc} {cells1 slots1 : Nat} {ls1 : Array Slot}, mx_wp P k M pc' L' st' G1 (fun a b => a = o ∧ b = G') → mx_R P cl D aC H1 G1 → va_S (mx_A P) s.heap H1 locs1 → mx_RL (mx_mg M) (mx_ml M) ls1 L' → cells1 + z0 = G1.2.1 → slots1 + u0 = G1.2.2 → W p l e R s m args below meth c H1 locs1 cells1 slots1 Qf (F0 m pc' ls1 st') :=
      fun {pc'} {L'} {st'} {G1} {H1} {locs1} {cells1} {slots1} {ls1} r1 r2 r3 r4 r5 r6 => ih M pc' L' st' G1 o G' r1 p e R s m args below meth c H1 locs1 cells1 slots1 Qf ls1 z0 u0 X hfr hlo r2 r3 r4 r5 r6 hG1 hG2 hret
    rcases h with h | h | ⟨rest, h1, h2⟩ | ⟨M', as, rest, h1, h2⟩
    · exact mx_sn hok hd h X hfr hlo hR hS hL hc hs hG1 hG2 go
    · have e1 := mx_rt_n h
      subst e1
      obtain ⟨o2, ⟨-, e2⟩, -⟩ := mx_rt_one h
      subst e2
      exact hret H locs cells slots ls pc i st hR hS hc hs hd h
    · obtain ⟨hx, hb, hml, hown, hts, hU, hnm⟩ := id X
      obtain ⟨okW, okC, okF, okK, okN, okA, okY, okG, okT, okM⟩ := id hok
      cases i
      case invokespecial j =>
        obtain ⟨rfl, ⟨na, M', q1⟩, q2, q3, q4, a, rfl⟩ := h1
        obtain ⟨m0, -⟩ := okM _ _ _ _ _ q1
        obtain ⟨w1, w2, w3⟩ := m0 rfl
        have rm := lv_room (m := m) (pc := pc) (ls := ls) (rest := .ref a :: rest) q2
        exact W.objInit hx hb hown (hts _ w1) (hts _ w2) (hts _ w3) rfl (by rw [hml]; exact hL.1) rfl hd (by omega) (by omega) (W.eq (g2 := F0 m (pc + 3) ls rest) rfl (go h2 hR hS hL hc hs))
      all_goals exact False.elim h1
    · exact mx_sc hok ih hd h1 h2 X hfr hlo hR hS hL hc hs hG1 hG2 go
end
