/-! PART 25.3: stations of the search for the nearest board. -/
def zbA : zAr := [(52, 70, 0, 1000000), (53, 96, 0, 792)]
def zbpc (k : Nat) : Nat := k % 2 + k / 2 % 2 + k / 4 % 2 + k / 8 % 2
def zqw : Int × Int × zA_D := (0, 1, zD0)
def zK2 : zA_T := ([zqw, (0, 6, zD0), (0, 9, zD0), (0, 1000000, zD0), (0, 16, zD0)], zHB, [(0, (2, 46)), (1, (1, 0)), (2, (0, 10)), (3, (1, 1)), (4, (1, 2)), (5, (1, 3)), (6, (1, 4))], [], 0, 0)
def zK3 : zA_T := ([zqw, (0, 6, zD0), (0, 9, zD0), (0, 1000000, zD0)], zHB, [(0, (2, 46)), (1, (1, 0)), (2, (0, 10)), (3, (1, 1)), (4, (1, 2)), (5, (1, 3))], [], 0, 0)
def zK1 : zA_T := ([zqw, (0, 6, zD0), (0, 9, zD0)], zHB, [(0, (2, 46)), (1, (1, 0)), (2, (0, 10)), (3, (1, 1)), (4, (1, 2))], [], 0, 0)
def zK4 : zA_T := ([zqw], zHB, [(0, (2, 46)), (1, (1, 0)), (2, (0, 10))], [], 0, 0)
def zK0 : zA_T := ([zqw], zHB, [(0, (2, 46)), (1, (1, 0))], [], 0, 0)
def zKW : zA_T := ([(0, 9, zD0), (-2147483648, 2147483647, zD0), (1, 6, zD0), (0, 15, zD0)], zHB, [(0, (2, 46)), (2, (0, 10)), (3, (1, 0)), (4, (1, 1)), (5, (1, 2)), (6, (1, 3))], [], 0, 0)
def zstk0 : List zA_F → Bool
  | [] => true
  | _ => false
def zat0 (D p0 : Nat) (m d pc : Nat) (stk : List zA_F) : Bool := Nat.beq pc p0 && (Nat.beq m 215 && (Nat.beq d D && zstk0 stk))
/-- the values of locals -/
def zlv (t : zA_T) (i : Nat) : zA_V := (t.2.2.1.lookup i).getD (3, 0)
/-- from one number of lines to the next -/
def zb2s (k : Nat) (Fs : List zFa) (t : zA_T) : Bool := zmT [zlv t 1, zlv t 3, zlv t 4, zlv t 5, zlv t 6] t zK2 &&
  (zleq0 t.1 [(1, zlv t 3), (-1, (1, 1))] 0 && (zleq0 t.1 [(1, zlv t 4), (-1, (1, 2))] 0 && (zleq0 t.1 [(1, (1, 4))] (-(k : Int)) && (zleq0 t.1 [(1, zlv t 6)] (-((k : Int) + 1)) && (match Fs with
    | [] => Nat.ble 1 k && zleq0 t.1 [(1, zlv t 5), (-1, (1, 3))] 0
    | [f2, f1] => Nat.beq f2.2.2 52 && (Nat.beq f1.2.2 53 && (zleq0 t.1 [(1, f1.2.1), (-16, (1, 1))] (16 - (k : Int)) && (zleq0 t.1 [(1, f2.2.1), (-10, (1, 1)), (-1, (1, 2))] (10 + (zbpc k : Int)) && (zlle t.1 [(-1, (1, 1))] 1 && (zlle t.1 [(-1, (1, 2))] (zbpc k : Int) &&
        ((zleq0 t.1 [(1, zlv t 5), (-1, (1, (f1.1 : Int))), (-1, (1, (f2.1 : Int)))] 0) || (zleq0 t.1 [(1, zlv t 5), (-1, (1, 3))] 0 && (zlle t.1 [(1, (1, 3)), (-1, zlv t 8)] 0 && zleq0 t.1 [(1, zlv t 8), (-1, (1, (f1.1 : Int))), (-1, (1, (f2.1 : Int)))] 0)))))))) 
    | _ => false)))))
def zcf2 (D : Nat) (Fs : List zFa) (m d pc : Nat) (t : zA_T) (stk : List zA_F) : Bool :=
  (zat0 D 113 m d pc stk && (List.range 16).any (fun k => zb2s k Fs t)) ||
  (zat0 D 198 m d pc stk && (zmT [zlv t 1, zlv t 3, zlv t 4, zlv t 5] t zK3 && (zleq0 t.1 [(1, zlv t 3), (-1, (1, 1))] 0 && (zleq0 t.1 [(1, zlv t 4), (-1, (1, 2))] 0 && (zleq0 t.1 [(1, zlv t 5), (-1, (1, 3))] 0 && (zleq0 t.1 [(1, (1, 4))] (-16) || zleq0 t.1 [(1, (1, 1))] 0))))))
set_option maxRecDepth 100000 in
theorem zbr_2 : zx1 2000000 znf (zrX zbA 2000000 znf zbO 3000 215 [156, 172] (zcf2 200) 2 []) zbO 3000 215 200 113 zK2 [] = true := by decide +kernel
/-- the number is written -/
def zc3 (D m d pc : Nat) (t : zA_T) (stk : List zA_F) : Bool := zat0 D 210 m d pc stk && (match t.2.2.2.1 with
  | [v, j, a] => zVeq a (2, 55) && (zIs v && (zIs j && (zmT [zlv t 1, zlv t 3, zlv t 4] (zt_st t []) zK1 && (zleq0 t.1 [(1, zlv t 3), (-1, (1, 1))] 0 && (zleq0 t.1 [(1, zlv t 4), (-1, (1, 2))] 0 && (zleq0 t.1 [(1, v), (-1, (1, 3))] 0 && (zleq0 t.1 [(1, j), (-10, (1, 1)), (-1, (1, 2))] 0 && zVeq ((t.2.1[52]?).elim (3, 0) (fun c => (c.1, (c.2.1 : Int)))) (8, 52))))))))
  | _ => false)
def zc1 (D m d pc : Nat) (t : zA_T) (stk : List zA_F) : Bool :=
  (zat0 D 113 m d pc stk && (zmT [zlv t 1, zlv t 3, zlv t 4, zlv t 5, zlv t 6] t zK2 && (zleq0 t.1 [(1, zlv t 6)] 0 &&
    (((zleq0 t.1 [(1, zlv t 3), (-1, (1, 1))] 0 && zleq0 t.1 [(1, zlv t 4), (-1, (1, 2))] (-1)) || (zleq0 t.1 [(1, zlv t 3), (-1, (1, 1))] (-1) && (zleq0 t.1 [(1, zlv t 4)] 0 && zlle t.1 [(-1, (1, 2))] 9))) &&
     ((zleq0 t.1 [(1, zlv t 3)] 0 && zleq0 t.1 [(1, zlv t 5)] 0) || (zlle t.1 [(-1, zlv t 3)] 1 && zleq0 t.1 [(1, zlv t 5)] (-1000000))))))) ||
  (zat0 D 223 m d pc stk && (zmT [zlv t 1] t zK4 && (zlle t.1 [(-1, (1, 1))] 6 && zlle t.1 [(-1, (1, 2))] 9)))
def zc0 (D m d pc : Nat) (t : zA_T) (stk : List zA_F) : Bool := zat0 D 113 m d pc stk && (zmT [zlv t 1, zlv t 3, zlv t 4, zlv t 5, zlv t 6] t zK2 && (zleq0 t.1 [(1, zlv t 6)] 0 && (zleq0 t.1 [(1, zlv t 3)] 0 && (zleq0 t.1 [(1, zlv t 4)] 0 && zleq0 t.1 [(1, zlv t 5)] 0))))
def zfB (t : zA_T) (r : Option zA_V) : Bool := zLeq (zmC t.1 []) t.2.1 zHB && (match r with
  | some v => zIs v
  | none => false)
/-- the search starts at 0 -/
def zcW0 (D m d pc : Nat) (t : zA_T) (stk : List zA_F) : Bool := zat0 D 262 m d pc stk && (zmT [zlv t 3, zlv t 4, zlv t 5, zlv t 6] t zKW && zleq0 t.1 [(1, zlv t 6)] 0)
/-- .. a matter lower -/
def zcWn (D m d pc : Nat) (t : zA_T) (stk : List zA_F) : Bool := zcW0 D m d pc t stk && zlle t.1 [(1, zlv t 5), (-1, (1, 2))] 1
/-- the search goes on -/
def zcW1 (k D m d pc : Nat) (t : zA_T) (stk : List zA_F) : Bool := zat0 D 262 m d pc stk && (Nat.beq k 15 || (zmT [zlv t 3, zlv t 4, zlv t 5, zlv t 6] t zKW && (zleq0 t.1 [(1, zlv t 3), (-1, (1, 0))] 0 && (zleq0 t.1 [(1, zlv t 5), (-1, (1, 2))] 0 && zleq0 t.1 [(1, zlv t 6)] (-((k : Int) + 1))))))
noncomputable def zW3 (D k : Nat) (Fs : List zFa) (t : zA_T) : Bool := match t.2.2.2.1 with
  | [v3, v12] => (match Fs with
    | [f3, f2, f1] => zIs v3 && (zIs v12 && (Nat.beq f1.2.2 53 && (Nat.beq f2.2.2 52 && (Nat.beq f3.2.2 52 && (zleq0 t.1 [(1, v3), (-1, (1, (f3.1 : Int)))] 0 && (zleq0 t.1 [(1, v12), (-1, (1, (f1.1 : Int))), (-1, (1, (f2.1 : Int)))] 0 &&
        (zleq0 t.1 [(1, f1.2.1), (-16, (1, 2))] (16 - (k : Int)) && (zleq0 t.1 [(1, f2.2.1), (-10, (1, 2)), (-1, (1, 0))] (10 + (zbpc k : Int)) && (zleq0 t.1 [(1, f3.2.1), (-10, (1, 2)), (-1, (1, 0))] 0 && (zlle t.1 [(-1, (1, 0))] (zbpc k : Int) &&
        (zxp 2000000 zfB (zcWn D) zbO 3000 215 D 326 (zt_st t []) [] && zxp 2000000 znf (zcW1 k D) zbO 3000 215 D 320 (zt_st t []) [])))))))))))
    | _ => false)
  | _ => false
noncomputable def zcfW (D : Nat) (Fs : List zFa) (m d pc : Nat) (t : zA_T) (stk : List zA_F) : Bool :=
  (zat0 D 262 m d pc stk && (Fs.isEmpty && (List.range 16).any (fun k => zleq0 t.1 [(1, (1, 3))] (-(k : Int)) && (zlle t.1 [(1, (1, 0))] (1 - (zbpc k : Int)) && zcW1 k D m d pc t stk)))) ||
  (zat0 D 317 m d pc stk && (List.range 16).any (fun k => zleq0 t.1 [(1, (1, 3))] (-(k : Int)) && zW3 D k Fs t))
def zcf4 (D : Nat) (_ : List zFa) (m d pc : Nat) (t : zA_T) (stk : List zA_F) : Bool := zcW0 D m d pc t stk
set_option maxRecDepth 100000 in
theorem zbr_3 : zx1 2000000 znf (zc3 200) zbO 3000 215 200 198 zK3 [] = true := by decide +kernel
set_option maxRecDepth 100000 in
theorem zbr_1 : zx1 2000000 znf (zc1 200) zbO 3000 215 200 211 zK1 [] = true := by decide +kernel
set_option maxRecDepth 100000 in
theorem zbr_0 : zx1 2000000 znf (zc0 200) zbO 3000 215 200 77 zK0 [] = true := by decide +kernel
set_option maxRecDepth 100000 in
theorem zbr_4 : zx1 2000000 zfB (zrX zbA 2000000 zfB zbO 3000 215 [245] (zcf4 200) 1 []) zbO 3000 215 200 223 zK4 [] = true := by decide +kernel
set_option maxRecDepth 100000 in
theorem zbr_W : zx1 2000000 znf (zrX zbA 2000000 znf zbO 3000 215 [285, 304, 316] (zcfW 200) 3 []) zbO 3000 215 200 262 zKW [] = true := by decide +kernel
