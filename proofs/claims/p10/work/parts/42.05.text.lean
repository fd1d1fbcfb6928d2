/-! PART 42.05: the reading of a text, its words. Made by wip/v6/gen_parse.py. -/
def zpN (b : Nat → Int32) (n a : Nat) : Int32 := if a < n then b a else -1
def zlv (x : Int32) : Int32 :=
  if x = (37 : Int32) then (4 : Int32) else
  if x = (38 : Int32) then (1 : Int32) else
  if x = (42 : Int32) then (4 : Int32) else
  if x = (43 : Int32) then (3 : Int32) else
  if x = (45 : Int32) then (3 : Int32) else
  if x = (47 : Int32) then (4 : Int32) else
  if x = (60 : Int32) then (2 : Int32) else
  if x = (61 : Int32) then (2 : Int32) else
  if x = (62 : Int32) then (2 : Int32) else
  if x = (124 : Int32) then (0 : Int32) else (-1 : Int32)
def znm (x : Int32) : Int32 :=
  if x = (100 : Int32) then (0 : Int32) else
  if x = (101 : Int32) then (-1 : Int32) else
  if x = (102 : Int32) then (-1 : Int32) else
  if x = (103 : Int32) then (-1 : Int32) else
  if x = (104 : Int32) then (-1 : Int32) else
  if x = (105 : Int32) then (-1 : Int32) else
  if x = (106 : Int32) then (-1 : Int32) else
  if x = (107 : Int32) then (4 : Int32) else
  if x = (108 : Int32) then (-1 : Int32) else
  if x = (109 : Int32) then (2 : Int32) else
  if x = (110 : Int32) then (-1 : Int32) else
  if x = (111 : Int32) then (-1 : Int32) else
  if x = (112 : Int32) then (-1 : Int32) else
  if x = (113 : Int32) then (-1 : Int32) else
  if x = (114 : Int32) then (-1 : Int32) else
  if x = (115 : Int32) then (1 : Int32) else
  if x = (116 : Int32) then (-1 : Int32) else
  if x = (117 : Int32) then (-1 : Int32) else
  if x = (118 : Int32) then (5 : Int32) else
  if x = (119 : Int32) then (3 : Int32) else (-1 : Int32)
def zpDig (c : Int32) : Bool := decide (48 ≤ c.toInt ∧ c.toInt ≤ 57)
def zpNum (g : Nat → Int32) : Nat → Nat → Int32 → Nat × Int32
  | 0, a, v => (a, v)
  | k + 1, a, v => if zpDig (g a) = true then zpNum g k (a + 1) (((10 : Int32) * v + g a) - (48 : Int32)) else (a, v)
def zpL (sub : Nat → Nat × Bool × List Int32) (g : Nat → Int32) (lev : Nat) : Nat → Nat × Bool × List Int32 → Nat × Bool × List Int32
  | 0, r => r
  | k + 1, r => if r.2.1 = false ∧ (zlv (g r.1)).toInt = (lev : Int) then zpL sub g lev k ((sub (r.1 + 1)).1, (sub (r.1 + 1)).2.1, r.2.2 ++ ((sub (r.1 + 1)).2.2 ++ [-(g r.1)])) else r
def zpS (g : Nat → Int32) : Nat → Nat → Nat → Nat → Nat × Bool × List Int32
  | 0, _, _, a => (a, true, [])
  | f + 1, lev, o, a =>
    if lev < 5 then zpL (fun b => zpS g f (lev + 1) o b) g lev (if lev = 2 then 1 else 120) (zpS g f (lev + 1) o a)
    else if zpDig (g a) = true then ((zpNum g 4 a 0).1, false, [(zpNum g 4 a 0).2])
    else if 0 ≤ (znm (g a)).toInt then (a + 1, false, [(10000 : Int32) + znm (g a)])
    else if o < 6 ∧ (g a).toInt = 40 then
      (if (zpS g f 0 (o + 1) (a + 1)).2.1 = false ∧ (g (zpS g f 0 (o + 1) (a + 1)).1).toInt = 41 then ((zpS g f 0 (o + 1) (a + 1)).1 + 1, false, (zpS g f 0 (o + 1) (a + 1)).2.2) else ((zpS g f 0 (o + 1) (a + 1)).1, true, (zpS g f 0 (o + 1) (a + 1)).2.2))
    else if o < 6 ∧ (g a).toInt = 33 then ((zpS g f 5 (o + 1) (a + 1)).1, (zpS g f 5 (o + 1) (a + 1)).2.1, (zpS g f 5 (o + 1) (a + 1)).2.2 ++ [(-33 : Int32)])
    else if o < 6 ∧ (g a).toInt = 45 then ((zpS g f 5 (o + 1) (a + 1)).1, (zpS g f 5 (o + 1) (a + 1)).2.1, (zpS g f 5 (o + 1) (a + 1)).2.2 ++ [(-126 : Int32)])
    else (a, true, [])
def zpLine (g : Nat → Int32) (a : Nat) : Nat × Bool × List Int32 :=
  if (zpS g 50 0 0 a).2.1 = false ∧ (g (zpS g 50 0 0 a).1).toInt = 63 then
    ((zpS g 50 0 0 ((zpS g 50 0 0 a).1 + 1)).1, (zpS g 50 0 0 ((zpS g 50 0 0 a).1 + 1)).2.1, (zpS g 50 0 0 a).2.2 ++ ([(-63 : Int32)] ++ ((zpS g 50 0 0 ((zpS g 50 0 0 a).1 + 1)).2.2 ++ [(-59 : Int32)])))
  else ((zpS g 50 0 0 a).1, (zpS g 50 0 0 a).2.1, (zpS g 50 0 0 a).2.2 ++ [(-59 : Int32)])
def zpU (g : Nat → Int32) : Nat → Nat → Bool → Nat × Bool × List Int32
  | 0, b, br => (b, br, [])
  | k + 1, b, br => if br = false ∧ (g b).toInt = 59 then
      ((zpU g k (zpLine g (b + 1)).1 (zpLine g (b + 1)).2.1).1, (zpU g k (zpLine g (b + 1)).1 (zpLine g (b + 1)).2.1).2.1, (zpLine g (b + 1)).2.2 ++ (zpU g k (zpLine g (b + 1)).1 (zpLine g (b + 1)).2.1).2.2)
    else (b, br, [])
def zpT (g : Nat → Int32) : Nat × Bool × List Int32 :=
  ((zpU g 120 (zpLine g 0).1 (zpLine g 0).2.1).1, (zpU g 120 (zpLine g 0).1 (zpLine g 0).2.1).2.1, (zpLine g 0).2.2 ++ (zpU g 120 (zpLine g 0).1 (zpLine g 0).2.1).2.2)
def zpG (n : Nat) (g : Nat → Int32) : Prop := (∀ j, n ≤ j → g j = -1) ∧ ∀ j, j < n → 0 ≤ (g j).toInt ∧ (g j).toInt ≤ 255
def zpf (n a : Nat) (br : Bool) : Int32 := if br = true ∨ a < n then Int32.ofNat a else -1
def zpF (n : Nat) (q : Nat × Bool × List Int32) : Int32 := zpf n q.1 q.2.1
/-- the LAW on both sides: none, or a text without fault, and its steps -/
def zLw (len tm : Int32) (st tx : Nat → Int32) : Prop := (len = 0 ∧ tm = -1) ∨ ∃ n, tm = Int32.ofNat n ∧ n ≤ 120 ∧ zpG n (zpN tx n) ∧ zpF n (zpT (zpN tx n)) = -1 ∧ len = Int32.ofNat (zpT (zpN tx n)).2.2.length ∧ ∀ (j : Nat) (c : Int32), (zpT (zpN tx n)).2.2[j]? = some c → st j = c
