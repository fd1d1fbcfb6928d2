/-! PART 08: what an instruction of mine is checked against. -/
def y_fillI : zx_Y := (⟨"java/util/Arrays", "fill", "([II)V"⟩, prog_18_method_103_code, 4, none)
def y_fillJ : zx_Y := (⟨"java/util/Arrays", "fill", "([JJ)V"⟩, prog_18_method_101_code, 5, none)
def zf4 (i : Int) : Fin 4 := ⟨i.toNat % 4, Nat.mod_lt _ (by decide)⟩
theorem zw_or {a b : Bool} (h : (a || b) = true) : a = true ∨ b = true := by simpa using h
def ck0 (y : zx_Y) (pc nx : Nat) (o : List Int) (ins : Instr) (len : Nat) : Bool := match o with
  | [i] => decide (ins = .aload_n (zf4 i) ∧ len = 1 ∧ (((zf4 i).val : Nat) : Int) = i ∧ nx = pc + 1) || decide (ins = .aload i.toNat ∧ len = 2 ∧ nx = pc + 2)
  | _ => false
def ck2 (y : zx_Y) (pc nx : Nat) (o : List Int) (ins : Instr) (len : Nat) : Bool := match o with
  | [i] => decide (ins = .iload_n (zf4 i) ∧ len = 1 ∧ (((zf4 i).val : Nat) : Int) = i ∧ nx = pc + 1) || decide (ins = .iload i.toNat ∧ len = 2 ∧ nx = pc + 2)
  | _ => false
def ck37 (y : zx_Y) (pc nx : Nat) (o : List Int) (ins : Instr) (len : Nat) : Bool := match o with
  | [i] => decide (ins = .lload_n (zf4 i) ∧ len = 1 ∧ (((zf4 i).val : Nat) : Int) = i ∧ nx = pc + 1) || decide (ins = .lload i.toNat ∧ len = 2 ∧ nx = pc + 2)
  | _ => false
def ck23 (y : zx_Y) (pc nx : Nat) (o : List Int) (ins : Instr) (len : Nat) : Bool := match o with
  | [i] => decide (i.toNat < y.2.2.1) && (decide (ins = .istore_n (zf4 i) ∧ len = 1 ∧ (((zf4 i).val : Nat) : Int) = i ∧ nx = pc + 1) || decide (ins = .istore i.toNat ∧ len = 2 ∧ nx = pc + 2))
  | _ => false
def ck39 (y : zx_Y) (pc nx : Nat) (o : List Int) (ins : Instr) (len : Nat) : Bool := match o with
  | [i] => decide (i.toNat < y.2.2.1) && (decide (ins = .astore_n (zf4 i) ∧ len = 1 ∧ (((zf4 i).val : Nat) : Int) = i ∧ nx = pc + 1) || decide (ins = .astore i.toNat ∧ len = 2 ∧ nx = pc + 2))
  | _ => false
def ck38 (y : zx_Y) (pc nx : Nat) (o : List Int) (ins : Instr) (len : Nat) : Bool := match o with
  | [i] => decide (i.toNat + 1 < y.2.2.1) && (decide (ins = .lstore_n (zf4 i) ∧ len = 1 ∧ (((zf4 i).val : Nat) : Int) = i ∧ nx = pc + 1) || decide (ins = .lstore i.toNat ∧ len = 2 ∧ nx = pc + 2))
  | _ => false
def ck3 (y : zx_Y) (pc nx : Nat) (o : List Int) (ins : Instr) (len : Nat) : Bool := match o with
  | [c] => decide (ins = .iconst c ∧ len = 1 ∧ nx = pc + 1 ∧ (Int32.ofInt c).toInt = c) || (decide (ins = .bipush c ∧ len = 2 ∧ nx = pc + 2 ∧ (Int8.ofInt c).toInt32.toInt = c) || decide (ins = .sipush c ∧ len = 3 ∧ nx = pc + 3 ∧ (Int16.ofInt c).toInt32.toInt = c))
  | [c, w, j] => (decide (ins = .ldc j.toNat ∧ len = 2 ∧ nx = pc + 2 ∧ (Int32.ofInt c).toInt = c) || decide (ins = .ldc_w j.toNat ∧ len = 3 ∧ nx = pc + 3 ∧ (Int32.ofInt c).toInt = c)) && zx_q w.toNat (.constant y.1.cls j.toNat (Int32.ofInt c))
  | _ => false
def zf2 (i : Int) : Fin 2 := ⟨i.toNat % 2, Nat.mod_lt _ (by decide)⟩
def ck36 (y : zx_Y) (pc nx : Nat) (o : List Int) (ins : Instr) (len : Nat) : Bool := match o with
  | [c] => decide (ins = .lconst (zf2 c) ∧ len = 1 ∧ nx = pc + 1 ∧ (Int64.ofNat ((zf2 c) : Nat)).toInt = c)
  | [c, w, j] => decide (ins = .ldc2_w j.toNat ∧ len = 3 ∧ nx = pc + 3 ∧ (Int64.ofInt c).toInt = c) && zx_q w.toNat (.constantLong y.1.cls j.toNat (Int64.ofInt c))
  | _ => false
def ck1 (y : zx_Y) (pc nx : Nat) (o : List Int) (ins : Instr) (len : Nat) : Bool := match o with
  | [k, ci, w, j] => match zc[ci.toNat]? with
      | some q => decide (ins = .getfield j.toNat ∧ len = 3 ∧ nx = pc + 3 ∧ k.toNat < q.2.2) && zx_q w.toNat (.fieldLink y.1.cls j.toNat (q.2.1 k.toNat).1 (q.2.1 k.toNat).2.1 (q.2.1 k.toNat).2.2.1)
      | none => false
  | _ => false
def zx_tc (tc : Int) (ty : FieldType) : Bool := match ty with
  | .int => decide (tc = 0)
  | .boolean => decide (tc = 1)
  | .object _ => decide (tc = 2)
  | .array _ => decide (tc = 2)
  | _ => false
def ck52 (y : zx_Y) (pc nx : Nat) (o : List Int) (ins : Instr) (len : Nat) : Bool := match o with
  | [k, ci, tc, w, j] => match zc[ci.toNat]? with
      | some q => decide (ins = .putfield j.toNat ∧ len = 3 ∧ nx = pc + 3 ∧ k.toNat < q.2.2 ∧ (q.2.1 k.toNat).2.2.2 = false) && (zx_tc tc (zc_ty q k.toNat) && zx_q w.toNat (.fieldLink y.1.cls j.toNat (q.2.1 k.toNat).1 (q.2.1 k.toNat).2.1 (q.2.1 k.toNat).2.2.1))
      | none => false
  | _ => false
def ck53 (y : zx_Y) (pc nx : Nat) (o : List Int) (ins : Instr) (len : Nat) : Bool := match o with
  | [k, ci, tc, w, j] => match zc[ci.toNat]? with
      | some q => decide (ins = .putfield j.toNat ∧ len = 3 ∧ nx = pc + 3 ∧ k.toNat < q.2.2 ∧ (q.2.1 k.toNat).2.2.2 = true ∧ y.1.name = "<init>" ∧ (q.2.1 k.toNat).1 = y.1.cls) && (zx_tc tc (zc_ty q k.toNat) && zx_q w.toNat (.fieldLink y.1.cls j.toNat (q.2.1 k.toNat).1 (q.2.1 k.toNat).2.1 (q.2.1 k.toNat).2.2.1))
      | none => false
  | _ => false
def ck10 (y : zx_Y) (pc nx : Nat) (o : List Int) (ins : Instr) (len : Nat) : Bool := decide (ins = .iadd ∧ len = 1 ∧ nx = pc + 1)
def ck11 (y : zx_Y) (pc nx : Nat) (o : List Int) (ins : Instr) (len : Nat) : Bool := decide (ins = .isub ∧ len = 1 ∧ nx = pc + 1)
def ck12 (y : zx_Y) (pc nx : Nat) (o : List Int) (ins : Instr) (len : Nat) : Bool := decide (ins = .imul ∧ len = 1 ∧ nx = pc + 1)
def ck13 (y : zx_Y) (pc nx : Nat) (o : List Int) (ins : Instr) (len : Nat) : Bool := decide (ins = .iand ∧ len = 1 ∧ nx = pc + 1)
def ck14 (y : zx_Y) (pc nx : Nat) (o : List Int) (ins : Instr) (len : Nat) : Bool := decide (ins = .ior ∧ len = 1 ∧ nx = pc + 1)
def ck15 (y : zx_Y) (pc nx : Nat) (o : List Int) (ins : Instr) (len : Nat) : Bool := decide (ins = .ixor ∧ len = 1 ∧ nx = pc + 1)
def ck16 (y : zx_Y) (pc nx : Nat) (o : List Int) (ins : Instr) (len : Nat) : Bool := decide (ins = .ishl ∧ len = 1 ∧ nx = pc + 1)
def ck17 (y : zx_Y) (pc nx : Nat) (o : List Int) (ins : Instr) (len : Nat) : Bool := decide (ins = .ishr ∧ len = 1 ∧ nx = pc + 1)
def ck18 (y : zx_Y) (pc nx : Nat) (o : List Int) (ins : Instr) (len : Nat) : Bool := decide (ins = .iushr ∧ len = 1 ∧ nx = pc + 1)
def ck19 (y : zx_Y) (pc nx : Nat) (o : List Int) (ins : Instr) (len : Nat) : Bool := decide (ins = .idiv ∧ len = 1 ∧ nx = pc + 1)
def ck20 (y : zx_Y) (pc nx : Nat) (o : List Int) (ins : Instr) (len : Nat) : Bool := decide (ins = .irem ∧ len = 1 ∧ nx = pc + 1)
def ck21 (y : zx_Y) (pc nx : Nat) (o : List Int) (ins : Instr) (len : Nat) : Bool := decide (ins = .ineg ∧ len = 1 ∧ nx = pc + 1)
def ck26 (y : zx_Y) (pc nx : Nat) (o : List Int) (ins : Instr) (len : Nat) : Bool := decide (ins = .iaload ∧ len = 1 ∧ nx = pc + 1)
def ck30 (y : zx_Y) (pc nx : Nat) (o : List Int) (ins : Instr) (len : Nat) : Bool := decide (ins = .laload ∧ len = 1 ∧ nx = pc + 1)
def ck28 (y : zx_Y) (pc nx : Nat) (o : List Int) (ins : Instr) (len : Nat) : Bool := decide (ins = .aaload ∧ len = 1 ∧ nx = pc + 1)
def ck27 (y : zx_Y) (pc nx : Nat) (o : List Int) (ins : Instr) (len : Nat) : Bool := decide (ins = .iastore ∧ len = 1 ∧ nx = pc + 1)
def ck31 (y : zx_Y) (pc nx : Nat) (o : List Int) (ins : Instr) (len : Nat) : Bool := decide (ins = .lastore ∧ len = 1 ∧ nx = pc + 1)
def ck29 (y : zx_Y) (pc nx : Nat) (o : List Int) (ins : Instr) (len : Nat) : Bool := decide (ins = .aastore ∧ len = 1 ∧ nx = pc + 1)
def ck32 (y : zx_Y) (pc nx : Nat) (o : List Int) (ins : Instr) (len : Nat) : Bool := decide (ins = .arraylength ∧ len = 1 ∧ nx = pc + 1)
def ck33 (y : zx_Y) (pc nx : Nat) (o : List Int) (ins : Instr) (len : Nat) : Bool := decide (ins = .dup ∧ len = 1 ∧ nx = pc + 1)
def ck34 (y : zx_Y) (pc nx : Nat) (o : List Int) (ins : Instr) (len : Nat) : Bool := decide (ins = .pop ∧ len = 1 ∧ nx = pc + 1)
def ck35 (y : zx_Y) (pc nx : Nat) (o : List Int) (ins : Instr) (len : Nat) : Bool := decide (ins = .dup2 ∧ len = 1 ∧ nx = pc + 1)
def ck41 (y : zx_Y) (pc nx : Nat) (o : List Int) (ins : Instr) (len : Nat) : Bool := decide (ins = .l2i ∧ len = 1 ∧ nx = pc + 1)
def ck42 (y : zx_Y) (pc nx : Nat) (o : List Int) (ins : Instr) (len : Nat) : Bool := decide (ins = .i2b ∧ len = 1 ∧ nx = pc + 1)
def ck43 (y : zx_Y) (pc nx : Nat) (o : List Int) (ins : Instr) (len : Nat) : Bool := decide (ins = .i2s ∧ len = 1 ∧ nx = pc + 1)
def ck48 (y : zx_Y) (pc nx : Nat) (o : List Int) (ins : Instr) (len : Nat) : Bool := decide (ins = .ldiv ∧ len = 1 ∧ nx = pc + 1)
def ck49 (y : zx_Y) (pc nx : Nat) (o : List Int) (ins : Instr) (len : Nat) : Bool := decide (ins = .lrem ∧ len = 1 ∧ nx = pc + 1)
def ck70 (y : zx_Y) (pc nx : Nat) (o : List Int) (ins : Instr) (len : Nat) : Bool := decide (ins = .pop2 ∧ len = 1 ∧ nx = pc + 1)
def ck40 (y : zx_Y) (pc nx : Nat) (o : List Int) (ins : Instr) (len : Nat) : Bool := decide (ins = .i2l ∧ len = 1 ∧ nx = pc + 1)
def ck44 (y : zx_Y) (pc nx : Nat) (o : List Int) (ins : Instr) (len : Nat) : Bool := decide (ins = .lcmp ∧ len = 1 ∧ nx = pc + 1)
def ck45 (y : zx_Y) (pc nx : Nat) (o : List Int) (ins : Instr) (len : Nat) : Bool := decide (ins = .land ∧ len = 1 ∧ nx = pc + 1)
def ck46 (y : zx_Y) (pc nx : Nat) (o : List Int) (ins : Instr) (len : Nat) : Bool := decide (ins = .lor ∧ len = 1 ∧ nx = pc + 1)
def ck47 (y : zx_Y) (pc nx : Nat) (o : List Int) (ins : Instr) (len : Nat) : Bool := decide (ins = .lshl ∧ len = 1 ∧ nx = pc + 1)
def ck22 (y : zx_Y) (pc nx : Nat) (o : List Int) (ins : Instr) (len : Nat) : Bool := match o with
  | [i, c] => decide (ins = .iinc i.toNat c ∧ len = 3 ∧ nx = pc + 3 ∧ i.toNat < y.2.2.1 ∧ (Int32.ofInt c).toInt = c)
  | _ => false
def zcd (c : Int) : Jvm.ClassFile.Cond := if c = 0 then .eq else if c = 1 then .ne else if c = 2 then .lt else if c = 3 then .ge else if c = 4 then .gt else .le
def ck24 (y : zx_Y) (pc nx : Nat) (o : List Int) (ins : Instr) (len : Nat) : Bool := match o with
  | [c, tg] => decide (ins = .ifCond (zcd c) (tg - pc) ∧ len = 3 ∧ 0 ≤ tg ∧ nx = pc + 3 ∧ 0 ≤ c ∧ c ≤ 5)
  | _ => false
def ck25 (y : zx_Y) (pc nx : Nat) (o : List Int) (ins : Instr) (len : Nat) : Bool := match o with
  | [c, tg] => decide (ins = .if_icmp (zcd c) (tg - pc) ∧ len = 3 ∧ 0 ≤ tg ∧ nx = pc + 3 ∧ 0 ≤ c ∧ c ≤ 5)
  | _ => false
def ck6 (y : zx_Y) (pc nx : Nat) (o : List Int) (ins : Instr) (len : Nat) : Bool := match o with
  | [off] => decide (ins = .goto off ∧ len = 3 ∧ (pc : Int) + off = (nx : Int))
  | _ => false
def ck50 (y : zx_Y) (pc nx : Nat) (o : List Int) (ins : Instr) (len : Nat) : Bool := match o with
  | lo :: d2 :: gs => decide (ins = .tableswitch (d2 - pc) lo (lo + gs.length - 1) (gs.map (fun g => g - (pc : Int))).toArray ∧ 0 ≤ d2) && gs.all (fun g => decide (0 ≤ g))
  | _ => false
def zpair : List Int → List (Int × Int)
  | a :: b :: r => (a, b) :: zpair r
  | _ => []
def ck51 (y : zx_Y) (pc nx : Nat) (o : List Int) (ins : Instr) (len : Nat) : Bool := match o with
  | d2 :: qs => decide (ins = .lookupswitch (d2 - pc) ((zpair qs).map (fun q => (q.1, q.2 - (pc : Int)))).toArray ∧ 0 ≤ d2) && ((zpair qs).all (fun q => decide (0 ≤ q.2)) && (((zpair qs).map (fun q => (q.1, q.2 - (pc : Int)))).toArray.toList.zip (((zpair qs).map (fun q => (q.1, q.2 - (pc : Int)))).toArray.toList.drop 1)).all (fun (a, next) => a.1 < next.1))
  | _ => false
def ck54 (y : zx_Y) (pc nx : Nat) (o : List Int) (ins : Instr) (len : Nat) : Bool := match o with
  | [i, w, j] => decide (ins = .getstatic j.toNat ∧ len = 3 ∧ nx = pc + 3) && ((decide (i = 0) && zx_q w.toNat (.fieldLink y.1.cls j.toNat zs_B "OWN" "[I")) || (decide (i = 1) && zx_q w.toNat (.fieldLink y.1.cls j.toNat zs_B "ABOVE" "[I")))
  | _ => false
def ck55 (y : zx_Y) (pc nx : Nat) (o : List Int) (ins : Instr) (len : Nat) : Bool := decide (ins = .newarray .int ∧ len = 2 ∧ nx = pc + 2)
def ck56 (y : zx_Y) (pc nx : Nat) (o : List Int) (ins : Instr) (len : Nat) : Bool := decide (ins = .newarray .long ∧ len = 2 ∧ nx = pc + 2)
def ck57 (y : zx_Y) (pc nx : Nat) (o : List Int) (ins : Instr) (len : Nat) : Bool := match o with
  | [w, j] => decide (ins = .anewarray j.toNat ∧ len = 3 ∧ nx = pc + 3) && zx_q w.toNat (.classLink y.1.cls j.toNat zs_S)
  | _ => false
def ck58 (y : zx_Y) (pc nx : Nat) (o : List Int) (ins : Instr) (len : Nat) : Bool := match o with
  | [ci, w1, w2, w3, j] => match zc[ci.toNat]? with
      | some q => decide (ins = .new j.toNat ∧ len = 3 ∧ nx = pc + 3) && (zx_q w1.toNat (.classLink y.1.cls j.toNat q.1) && (zx_q w2.toNat (.instantiable q.1 q.2.2) && zx_q w3.toNat (.initialized q.1)))
      | none => false
  | _ => false
def ck59 (y : zx_Y) (pc nx : Nat) (o : List Int) (ins : Instr) (len : Nat) : Bool := match o with
  | [w, j] => decide (ins = .invokespecial j.toNat ∧ len = 3 ∧ nx = pc + 3) && zx_q w.toNat (.methodLink y.1.cls j.toNat Lib.objectInit)
  | _ => false
def ck64 (y : zx_Y) (pc nx : Nat) (o : List Int) (ins : Instr) (len : Nat) : Bool := match o with
  | [w, j] => decide (ins = .invokestatic j.toNat ∧ len = 3 ∧ nx = pc + 3) && zx_q w.toNat (.methodLink y.1.cls j.toNat arraycopyName)
  | _ => false
/-- the places of a method's own words; how many parameters it has -/
def zm_P : List (Nat × Nat × Nat) := [(0, 72, 1), (94, 73, 0), (97, 0, 0), (102, 74, 0), (146, 75, 0), (168, 76, 0), (196, 77, 2), (221, 78, 2), (241, 79, 1), (251, 80, 1), (284, 81, 1), (314, 82, 0), (338, 83, 0), (393, 73, 1), (397, 74, 2), (401, 74, 0), (405, 74, 2), (409, 73, 3), (412, 73, 1), (416, 83, 0), (420, 83, 0), (424, 83, 1), (428, 73, 2), (432, 83, 2), (436, 73, 3), (440, 74, 2), (443, 73, 1), (447, 74, 2), (451, 74, 3), (455, 81, 4), (459, 81, 0), (466, 73, 2), (470, 73, 2), (474, 73, 1), (478, 76, 0), (482, 76, 1), (486, 73, 0), (490, 76, 0), (494, 76, 0), (498, 76, 2), (502, 76, 1), (506, 76, 0), (509, 76, 1), (513, 76, 0), (517, 76, 1), (520, 76, 1), (524, 76, 1), (527, 76, 1), (531, 75, 2), (536, 76, 0), (540, 73, 2), (544, 74, 0), (548, 77, 2), (552, 86, 2), (556, 77, 2), (560, 77, 3), (563, 77, 3), (566, 73, 2), (570, 77, 3), (575, 77, 4), (578, 73, 2), (581, 77, 2), (584, 87, 1), (587, 88, 1), (594, 75, 6), (598, 75, 0), (602, 75, 1), (606, 75, 0), (609, 87, 2), (612, 87, 2), (616, 75, 2), (619, 75, 3), (624, 73, 1), (628, 77, 1), (632, 77, 0), (639, 73, 1), (643, 77, 0), (647, 77, 0), (651, 77, 0), (655, 77, 2), (659, 77, 3), (663, 77, 2), (667, 77, 0), (672, 73, 2), (675, 73, 1), (679, 77, 1), (683, 74, 1), (687, 73, 1), (691, 77, 2), (695, 73, 1), (699, 77, 0), (703, 74, 0), (707, 74, 0), (712, 73, 1), (716, 79, 0), (722, 79, 1), (726, 74, 2), (731, 79, 1), (735, 79, 1), (740, 79, 0), (745, 73, 2), (749, 79, 1), (754, 73, 1), (759, 73, 2), (764, 78, 3), (770, 78, 4), (777, 73, 2), (781, 83, 1), (786, 89, 2), (789, 89, 1), (792, 89, 2), (797, 89, 3), (802, 73, 3), (805, 89, 2), (808, 89, 3), (811, 73, 1), (815, 73, 2), (819, 73, 1), (822, 89, 1), (828, 73, 2), (832, 79, 2), (836, 79, 3), (841, 79, 2), (845, 73, 1), (849, 79, 1), (854, 73, 1), (858, 79, 0), (862, 79, 1), (866, 79, 2), (871, 73, 3), (875, 77, 4), (880, 73, 1), (886, 80, 1), (891, 73, 1), (895, 80, 1), (899, 73, 1), (903, 80, 1), (907, 73, 2), (912, 80, 2), (916, 73, 1), (920, 73, 0), (924, 80, 0), (930, 73, 0), (934, 80, 0), (938, 73, 0), (942, 81, 0), (947, 73, 0), (951, 81, 0), (955, 73, 1), (958, 82, 1), (962, 82, 0), (966, 82, 1), (970, 73, 3), (974, 82, 3), (978, 82, 1), (982, 82, 5), (991, 82, 1), (995, 82, 4), (999, 82, 5), (1003, 73, 1), (1007, 82, 0), (1012, 73, 2), (1017, 83, 1), (1021, 73, 3), (1025, 83, 2), (1028, 86, 2), (1032, 73, 3), (1036, 83, 1), (1041, 83, 2), (1045, 83, 1), (1049, 73, 2), (1054, 73, 5), (1060, 73, 2), (1063, 82, 2), (1067, 73, 1), (1072, 84, 0), (1192, 84, 0), (1196, 84, 0), (1200, 84, 1), (1204, 84, 3), (1208, 84, 2), (1212, 84, 3), (1215, 84, 1), (1222, 84, 3), (1226, 84, 2), (1230, 84, 1), (1233, 84, 1), (1238, 84, 2), (1242, 84, 2), (1246, 84, 1), (1251, 84, 0), (1255, 84, 2), (1259, 84, 0), (1263, 84, 0), (1267, 84, 0), (1271, 84, 0), (1275, 84, 0), (1279, 84, 0), (1283, 84, 0), (1287, 84, 0), (1291, 84, 1), (1294, 84, 1), (1298, 84, 2), (1303, 84, 0), (1307, 84, 3), (1311, 84, 2), (1314, 84, 2), (1317, 84, 3), (1320, 84, 2), (1323, 84, 1), (1327, 84, 1), (1331, 84, 2), (1335, 84, 1), (1339, 84, 2), (1343, 84, 1), (1347, 84, 1), (1351, 84, 2), (1356, 84, 2), (1360, 84, 1), (1364, 84, 1), (1368, 84, 1), (1373, 84, 2), (1377, 84, 2), (1381, 84, 1), (1385, 84, 2), (1389, 84, 1), (1393, 84, 2), (1399, 84, 5), (1403, 84, 2), (1407, 84, 1), (1411, 84, 2), (1415, 84, 3), (1419, 84, 3), (1424, 84, 2), (1428, 84, 2), (1432, 84, 2), (1436, 84, 1), (1440, 84, 1), (1444, 84, 1), (1448, 84, 3), (1454, 84, 1), (1458, 84, 1), (1462, 84, 1), (1466, 84, 2), (1470, 84, 1), (1474, 84, 0), (1478, 84, 0), (1482, 84, 1), (1487, 84, 3), (1491, 84, 1), (1495, 84, 2), (1499, 84, 1), (1503, 84, 2), (1507, 84, 2), (1511, 84, 2), (1515, 84, 1), (1519, 84, 2), (1523, 84, 3), (1527, 84, 3), (1531, 84, 2), (1534, 84, 2), (1538, 84, 2), (1543, 84, 5), (1547, 84, 2), (1551, 84, 1), (1554, 84, 1), (1558, 84, 1)]
def zm_B (t : Nat) : Bool := match zm_P[t]? with
  | some q => zx_q q.1 (.code (zm t).1 (zm t).2.1 (zm t).2.2.1 (zm t).2.2.2) && (zx_q q.2.1 (.initialized (zm t).1.cls) &&
      decide ((zm t).1.cls ≠ "java/lang/invoke/MethodHandle" ∧ (zm t).1.cls ≠ "java/lang/invoke/VarHandle" ∧ (parseMethodDescriptor (zm t).1.desc).map (fun d => d.parameters.length) = some q.2.2 ∧ (zm t).2.2.1 ≤ 21 ∧ plainFor (zm t).1 = true))
  | none => false
/-- the methods that are called -/
def zm_K : Nat := 237142198758023568227473377297746067231102339701849357238162210982569900406472698
def zm_N (t : Nat) : Nat := match zm_P[t]? with
  | some q => q.2.2
  | none => 0
def ck67 (y : zx_Y) (pc nx : Nat) (o : List Int) (ins : Instr) (len : Nat) : Bool := match o with
  | [_, _, _, w, _, _, j] => decide (ins = .invokestatic j.toNat ∧ len = 3 ∧ nx = pc + 3) && zx_q w.toNat (.methodLink y.1.cls j.toNat y_fillI.1)
  | _ => false
def ck68 (y : zx_Y) (pc nx : Nat) (o : List Int) (ins : Instr) (len : Nat) : Bool := match o with
  | [_, _, _, w, _, _, j] => decide (ins = .invokestatic j.toNat ∧ len = 3 ∧ nx = pc + 3) && zx_q w.toNat (.methodLink y.1.cls j.toNat y_fillJ.1)
  | _ => false
/-- what it is checked against -/
def zck (y : zx_Y) (pc op nx : Nat) (o : List Int) (ins : Instr) (len : Nat) : Bool := if op = 0 then ck0 y pc nx o ins len else if op = 1 then ck1 y pc nx o ins len else if op = 2 then ck2 y pc nx o ins len else if op = 3 then ck3 y pc nx o ins len else if op = 6 then ck6 y pc nx o ins len else if op = 10 then ck10 y pc nx o ins len else if op = 26 then ck26 y pc nx o ins len else if op = 24 then ck24 y pc nx o ins len else if op = 25 then ck25 y pc nx o ins len else if op = 23 then ck23 y pc nx o ins len else if op = 52 then ck52 y pc nx o ins len else if op = 22 then ck22 y pc nx o ins len else if op = 27 then ck27 y pc nx o ins len else if op = 11 then ck11 y pc nx o ins len else if op = 12 then ck12 y pc nx o ins len else if op = 13 then ck13 y pc nx o ins len else if op = 14 then ck14 y pc nx o ins len else if op = 15 then ck15 y pc nx o ins len else if op = 16 then ck16 y pc nx o ins len else if op = 17 then ck17 y pc nx o ins len else if op = 18 then ck18 y pc nx o ins len else if op = 19 then ck19 y pc nx o ins len else if op = 20 then ck20 y pc nx o ins len else if op = 33 then ck33 y pc nx o ins len else if op = 40 then ck40 y pc nx o ins len else if op = 36 then ck36 y pc nx o ins len else if op = 44 then ck44 y pc nx o ins len else if op = 28 then ck28 y pc nx o ins len else if op = 30 then ck30 y pc nx o ins len else if op = 21 then ck21 y pc nx o ins len else if op = 31 then ck31 y pc nx o ins len else if op = 29 then ck29 y pc nx o ins len else if op = 32 then ck32 y pc nx o ins len else if op = 34 then ck34 y pc nx o ins len else if op = 35 then ck35 y pc nx o ins len else if op = 37 then ck37 y pc nx o ins len else if op = 38 then ck38 y pc nx o ins len else if op = 39 then ck39 y pc nx o ins len else if op = 45 then ck45 y pc nx o ins len else if op = 46 then ck46 y pc nx o ins len else if op = 47 then ck47 y pc nx o ins len else if op = 50 then ck50 y pc nx o ins len else if op = 51 then ck51 y pc nx o ins len else if op = 53 then ck53 y pc nx o ins len else if op = 54 then ck54 y pc nx o ins len else if op = 55 then ck55 y pc nx o ins len else if op = 56 then ck56 y pc nx o ins len else if op = 57 then ck57 y pc nx o ins len else if op = 58 then ck58 y pc nx o ins len else if op = 59 then ck59 y pc nx o ins len else if op = 64 then ck64 y pc nx o ins len else if op = 67 then ck67 y pc nx o ins len else if op = 68 then ck68 y pc nx o ins len else if op = 41 then ck41 y pc nx o ins len else if op = 42 then ck42 y pc nx o ins len else if op = 43 then ck43 y pc nx o ins len else if op = 48 then ck48 y pc nx o ins len else if op = 49 then ck49 y pc nx o ins len else if op = 70 then ck70 y pc nx o ins len else true
/-- what a call is checked against -/
def zcc (op : Nat) (y : zx_Y) (pc nx : Nat) (o : List Int) (ins : Instr) (len : Nat) : Bool := match o with
  | t :: na :: ml :: w :: o2 => decide (t.toNat < 267 ∧ na.toNat = zm_N t.toNat ∧ ml.toNat = (zm t.toNat).2.2.1 ∧ len = 3 ∧ nx = pc + 3) && (Nat.testBit zm_K t.toNat && (match o2 with
    | [s, _, j] => if op = 60 then decide (ins = .invokestatic j.toNat) && (zx_q w.toNat (.methodLink y.1.cls j.toNat (zm t.toNat).1) && zx_q s.toNat (.static (zm t.toNat).1))
        else if op = 61 then decide (ins = .invokestatic j.toNat) && (decide ((y.1.cls, j.toNat, (zm t.toNat).1, "NineOpinions") ∈ zn_L) && zx_q s.toNat (.static (zm t.toNat).1))
        else if op = 62 then decide (ins = .invokespecial j.toNat ∧ (zm t.toNat).2.2.2 = none ∧ (zm t.toNat).1.name = "<init>") && (zx_q w.toNat (.methodLink y.1.cls j.toNat (zm t.toNat).1) && zx_q s.toNat (.instanceMethod (zm t.toNat).1))
        else if op = 63 then decide (ins = .invokespecial j.toNat ∧ (zm t.toNat).2.2.2 = none ∧ (zm t.toNat).1.name = "<init>") && (decide ((y.1.cls, j.toNat, (zm t.toNat).1, "NineOpinions") ∈ zn_L) && zx_q s.toNat (.instanceMethod (zm t.toNat).1))
        else false
    | [im, se, _, ci, j] => if op = 5 then decide (ins = .invokevirtual j.toNat) && (zx_q w.toNat (.methodLink y.1.cls j.toNat (zm t.toNat).1) && (zx_q im.toNat (.instanceMethod (zm t.toNat).1) && (zx_q se.toNat (.selects (zm t.toNat).1.cls (zm t.toNat).1 (zm t.toNat).1) && (match zc[ci.toNat]? with
        | some q => decide (q.1 = (zm t.toNat).1.cls)
        | none => false)))) else false
    | _ => false))
  | _ => false
def zcr (op : Nat) (y : zx_Y) (o : List Int) (ins : Instr) (len : Nat) : Bool :=
  if op = 66 then decide (ins = .return_ ∧ len = 1 ∧ y.2.2.2 = none) else if op = 65 then decide (ins = .lreturn ∧ len = 1 ∧ y.2.2.2 = some .long)
  else if op = 4 then decide (ins = .ireturn ∧ len = 1 ∧ (o = [0] ∧ y.2.2.2 = some .int ∨ o ≠ [0] ∧ y.2.2.2 = some .boolean)) else false
def zcko (y : zx_Y) (pc op nx : Nat) (o : List Int) (ins : Instr) (len : Nat) : Bool :=
  if op = 4 then zcr op y o ins len else if op = 5 then zcc op y pc nx o ins len else if op < 60 then zck y pc op nx o ins len else if op < 64 then zcc op y pc nx o ins len else if op = 65 then zcr op y o ins len else if op = 66 then zcr op y o ins len else zck y pc op nx o ins len
noncomputable def zchk (m pc : Nat) : Bool := match zi_get m pc with
  | none => true
  | some I => (match decode (zm m).2.1 pc with
      | .ok q => zcko (zm m) pc I.1 I.2.1 I.2.2 q.1 q.2
      | .error _ => false)
def zbd (m : Nat) : Nat := bif Nat.beq m 0 then 1500 else 512
