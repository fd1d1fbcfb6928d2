/-! PART 25, 1: drawnDays with nobody there -/
def zHV : zA_H := [(0, 0, 0, [(2, (.ofNat 4)), (2, (.ofNat 8)), (2, (.ofNat 12)), (2, (.ofNat 15)), (2, (.ofNat 18)), (2, (.ofNat 19)), (2, (.ofNat 20)), (2, (.ofNat 25)), (2, (.ofNat 30)), (2, (.ofNat 33))], []),
  (0, 1, 0, [(2, (.ofNat 5)), (2, (.ofNat 6)), (2, (.ofNat 7)), (0, (.ofNat 0)), (0, (.ofNat 9)), (0, (.ofNat 0))], []),
  (1, 0, 24, [(0, (.ofNat 0))], []),
  (1, 0, 8, [(0, (.ofNat 0))], []),
  (1, 0, 8, [(0, (.ofNat 0))], []),
  (0, 2, 0, [(2, (.ofNat 9)), (2, (.ofNat 10)), (2, (.ofNat 11)), (0, (.ofNat 0)), (0, (.ofNat 0))], []),
  (1, 0, 128, [(0, (.ofNat 0))], []),
  (1, 0, 128, [(0, (.ofNat 0))], []),
  (1, 0, 6, [(0, (.ofNat 0))], []),
  (0, 3, 0, [(2, (.ofNat 13)), (2, (.ofNat 14)), (0, (.ofNat 0)), (0, (.ofNat 0)), (0, (.ofNat 0)), (0, (.ofNat 0))], []),
  (1, 0, 120, [(0, (.ofNat 0))], []),
  (1, 0, 128, [(0, (.ofNat 0))], []),
  (0, 4, 0, [(2, (.ofNat 4)), (2, (.ofNat 8)), (2, (.ofNat 16)), (2, (.ofNat 17)), (0, (.ofNat 0)), (0, (.ofNat 0))], []),
  (1, 0, 1536, [(0, (.negSucc 1999999999))], []),
  (1, 0, 70, [(0, (.ofNat 0))], []),
  (0, 5, 0, [(2, (.ofNat 4)), (2, (.ofNat 15)), (0, (.ofNat 0)), (0, (.ofNat 24))], []),
  (0, 6, 0, [(2, (.ofNat 4))], []),
  (0, 7, 0, [(2, (.ofNat 4)), (2, (.ofNat 21)), (0, (.ofNat 0)), (0, (.ofNat 0)), (0, (.ofNat 0)), (2, (.ofNat 22)), (2, (.ofNat 23)), (2, (.ofNat 24))], []),
  (1, 0, 5, [(0, (.ofNat 0))], []),
  (1, 0, 24, [(0, (.ofNat 0))], []),
  (1, 0, 8, [(0, (.ofNat 0))], []),
  (1, 0, 5, [(0, (.ofNat 0))], []),
  (0, 8, 0, [(2, (.ofNat 4)), (2, (.ofNat 26)), (2, (.ofNat 27)), (2, (.ofNat 28)), (2, (.ofNat 29)), (0, (.ofNat 0)), (0, (.ofNat 0))], []),
  (1, 0, 40, [(0, (.ofNat 0))], []),
  (1, 0, 40, [(0, (.ofNat 0))], []),
  (1, 0, 40, [(0, (.ofNat 0))], []),
  (1, 0, 40, [(0, (.ofNat 0))], []),
  (0, 9, 0, [(2, (.ofNat 31)), (2, (.ofNat 32)), (0, (.ofNat 0)), (0, (.ofNat 0))], []),
  (1, 0, 50, [(0, (.ofNat 0))], []),
  (1, 0, 24, [(0, (.ofNat 0))], []),
  (1, 2, 6, [(3, (.ofNat 0))], [(5, (2, (.ofNat 44))), (4, (2, (.ofNat 42))), (3, (2, (.ofNat 40))), (2, (2, (.ofNat 38))), (1, (2, (.ofNat 36))), (0, (2, (.ofNat 34)))]),
  (0, 10, 0, [(2, (.ofNat 35)), (0, (.negSucc 0)), (0, (.negSucc 0)), (0, (.ofNat 0))], []),
  (1, 1, 60, [(4, (.ofNat 0))], []),
  (0, 10, 0, [(2, (.ofNat 37)), (0, (.negSucc 0)), (0, (.negSucc 0)), (0, (.ofNat 0))], []),
  (1, 1, 60, [(4, (.ofNat 0))], []),
  (0, 10, 0, [(2, (.ofNat 39)), (0, (.negSucc 0)), (0, (.negSucc 0)), (0, (.ofNat 0))], []),
  (1, 1, 60, [(4, (.ofNat 0))], []),
  (0, 10, 0, [(2, (.ofNat 41)), (0, (.negSucc 0)), (0, (.negSucc 0)), (0, (.ofNat 0))], []),
  (1, 1, 60, [(4, (.ofNat 0))], []),
  (0, 10, 0, [(2, (.ofNat 43)), (0, (.negSucc 0)), (0, (.negSucc 0)), (0, (.ofNat 0))], []),
  (1, 1, 60, [(4, (.ofNat 0))], []),
  (0, 10, 0, [(2, (.ofNat 45)), (0, (.negSucc 0)), (0, (.negSucc 0)), (0, (.ofNat 0))], []),
  (1, 1, 60, [(4, (.ofNat 0))], []),
  (0, 11, 0, [(2, (.ofNat 47)), (2, (.ofNat 48)), (2, (.ofNat 49)), (2, (.ofNat 50)), (0, (.ofNat 0)), (0, (.ofNat 0)), (0, (.ofNat 0)), (0, (.ofNat 0)), (2, (.ofNat 51)), (0, (.ofNat 0)), (2, (.ofNat 52)), (0, (.negSucc 0)), (0, (.ofNat 0)), (0, (.ofNat 0)), (0, (.ofNat 0)), (0, (.ofNat 0)), (0, (.ofNat 0)), (2, (.ofNat 53)), (2, (.ofNat 54)), (2, (.ofNat 55)), (2, (.ofNat 56)), (2, (.ofNat 57)), (0, (.ofNat 0)), (0, (.ofNat 0)), (0, (.ofNat 0)), (2, (.ofNat 58)), (2, (.ofNat 59)), (2, (.ofNat 60)), (0, (.ofNat 0)), (2, (.ofNat 61)), (2, (.ofNat 62)), (0, (.ofNat 0)), (0, (.ofNat 0)), (0, (.ofNat 0)), (2, (.ofNat 63)), (2, (.ofNat 64)), (2, (.ofNat 65)), (2, (.ofNat 66))], []),
  (1, 0, 41, [(0, (.ofNat 0))], [(40, (0, (.ofNat 9)))]),
  (1, 0, 40, [(0, (.ofNat 0))], []),
  (1, 0, 40, [(0, (.ofNat 0))], []),
  (1, 0, 40, [(0, (.ofNat 0))], []),
  (1, 0, 120, [(0, (.ofNat 0))], []),
  (1, 0, 120, [(0, (.ofNat 0))], []),
  (1, 0, 6, [(0, (.ofNat 0))], []),
  (1, 0, 24, [(0, (.ofNat 0))], []),
  (1, 0, 70, [(0, (.ofNat 0))], []),
  (1, 0, 96, [(0, (.ofNat 0))], []),
  (1, 0, 5, [(0, (.ofNat 0))], []),
  (1, 0, 8, [(0, (.ofNat 0))], []),
  (1, 0, 24, [(0, (.ofNat 0))], []),
  (1, 0, 5, [(0, (.ofNat 0))], []),
  (1, 0, 50, [(0, (.ofNat 0))], []),
  (1, 0, 24, [(0, (.ofNat 0))], []),
  (1, 0, 6, [(0, (.ofNat 0))], [(5, (0, (.negSucc 0))), (4, (0, (.negSucc 0))), (3, (0, (.negSucc 0))), (2, (0, (.negSucc 0))), (1, (0, (.negSucc 0))), (0, (0, (.negSucc 0)))]),
  (1, 0, 6, [(0, (.ofNat 0))], []),
  (1, 1, 360, [(4, (.ofNat 0))], []),
  (1, 1, 60, [(4, (.ofNat 0))], [])]
def zdE : zA_T := ([((.negSucc 2147483647), (.ofNat 2147483647), zD0), ((.ofNat 1), (.ofNat 30), zD0), ((.ofNat 1), (.ofNat 30), zD0), ((.negSucc 0), (.ofNat 23), zD0)], zH0, [(0, (2, (.ofNat 15))), (1, (1, (.ofNat 0))), (2, (1, (.ofNat 1))), (3, (1, (.ofNat 2))), (4, (1, (.ofNat 3)))], [], 0, 0)
def zdO_ : zA_T := ([((.ofNat 1), (.ofNat 30), zD0), ((.ofNat 1), (.ofNat 30), zD0), ((.negSucc 0), (.ofNat 23), zD0), ((.negSucc 2147483647), (.ofNat 2147483647), zD0), ((.negSucc 2147483647), (.ofNat 2147483647), zD0), ((.ofNat 0), (.ofNat 30), zD0)], zHW, [(0, (2, (.ofNat 15))), (2, (1, (.ofNat 0))), (3, (1, (.ofNat 1))), (4, (1, (.ofNat 2))), (5, (1, (.ofNat 3))), (6, (1, (.ofNat 4))), (7, (1, (.ofNat 5)))], [], 0, 0)
def zd19 : zA_T := ([((.ofNat 1), (.ofNat 30), zD0), ((.ofNat 1), (.ofNat 30), zD0), ((.negSucc 0), (.ofNat 23), zD0), ((.negSucc 2147483647), (.ofNat 2147483647), zD0), ((.negSucc 2147483647), (.ofNat 2147483647), zD0), ((.ofNat 0), (.ofNat 29), zD0)], zHW, [(0, (2, (.ofNat 15))), (2, (1, (.ofNat 0))), (3, (1, (.ofNat 1))), (4, (1, (.ofNat 2))), (5, (1, (.ofNat 3))), (6, (1, (.ofNat 4))), (7, (1, (.ofNat 5)))], [], 0, 0)
def zdI_ : zA_T := ([((.ofNat 1), (.ofNat 30), zD0), ((.ofNat 1), (.ofNat 30), zD0), ((.negSucc 0), (.ofNat 23), zD0), ((.negSucc 2147483647), (.ofNat 2147483647), zD0), ((.negSucc 2147483647), (.ofNat 2147483647), zD0), ((.ofNat 0), (.ofNat 29), zD0), ((.ofNat 0), (.ofNat 16777215), zD0), ((.ofNat 0), (.ofNat 16777215), zD0), ((.ofNat 0), (.ofNat 30), zD0)], zHW, [(0, (2, (.ofNat 15))), (2, (1, (.ofNat 0))), (3, (1, (.ofNat 1))), (4, (1, (.ofNat 2))), (5, (1, (.ofNat 3))), (6, (1, (.ofNat 4))), (7, (1, (.ofNat 5))), (8, (1, (.ofNat 6))), (9, (1, (.ofNat 7))), (10, (1, (.ofNat 8)))], [], 0, 0)
def zd46 : zA_T := ([((.ofNat 1), (.ofNat 30), zD0), ((.ofNat 1), (.ofNat 30), zD0), ((.negSucc 0), (.ofNat 23), zD0), ((.negSucc 2147483647), (.ofNat 2147483647), zD0), ((.negSucc 2147483647), (.ofNat 2147483647), zD0), ((.ofNat 0), (.ofNat 29), zD0), ((.ofNat 0), (.ofNat 16777215), zD0), ((.ofNat 0), (.ofNat 16777215), zD0), ((.ofNat 0), (.ofNat 29), zD0)], zHW, [(0, (2, (.ofNat 15))), (2, (1, (.ofNat 0))), (3, (1, (.ofNat 1))), (4, (1, (.ofNat 2))), (5, (1, (.ofNat 3))), (6, (1, (.ofNat 4))), (7, (1, (.ofNat 5))), (8, (1, (.ofNat 6))), (9, (1, (.ofNat 7))), (10, (1, (.ofNat 8)))], [], 0, 0)
def zd128 : zA_T := ([((.ofNat 1), (.ofNat 30), zD0), ((.ofNat 1), (.ofNat 30), zD0), ((.negSucc 0), (.ofNat 23), zD0), ((.negSucc 2147483647), (.ofNat 2147483647), zD0), ((.negSucc 2147483647), (.ofNat 2147483647), zD0), ((.ofNat 0), (.ofNat 29), zD0), ((.ofNat 0), (.ofNat 16777215), zD0), ((.ofNat 0), (.ofNat 16777215), zD0), ((.ofNat 0), (.ofNat 30), zD0)], zHW, [(0, (2, (.ofNat 15))), (2, (1, (.ofNat 0))), (3, (1, (.ofNat 1))), (4, (1, (.ofNat 2))), (5, (1, (.ofNat 3))), (6, (1, (.ofNat 4))), (7, (1, (.ofNat 5))), (8, (1, (.ofNat 6))), (9, (1, (.ofNat 7))), (10, (1, (.ofNat 8)))], [], 0, 0)
def zd163 : zA_T := ([((.ofNat 1), (.ofNat 30), zD0), ((.ofNat 1), (.ofNat 30), zD0), ((.negSucc 0), (.ofNat 23), zD0), ((.negSucc 2147483647), (.ofNat 2147483647), zD0), ((.negSucc 2147483647), (.ofNat 2147483647), zD0), ((.ofNat 0), (.ofNat 30), zD0)], zHW, [(0, (2, (.ofNat 15))), (2, (1, (.ofNat 0))), (3, (1, (.ofNat 1))), (4, (1, (.ofNat 2))), (5, (1, (.ofNat 3))), (6, (1, (.ofNat 4))), (7, (1, (.ofNat 5)))], [], 0, 0)
def zd16 : zA_T := ([((.ofNat 1), (.ofNat 30), zD0), ((.ofNat 1), (.ofNat 30), zD0), ((.negSucc 0), (.ofNat 23), zD0), ((.negSucc 2147483647), (.ofNat 2147483647), zD0), ((.negSucc 2147483647), (.ofNat 2147483647), zD0), ((.ofNat 0), (.ofNat 30), zD0)], zHW, [(0, (2, (.ofNat 15))), (2, (1, (.ofNat 0))), (3, (1, (.ofNat 1))), (4, (1, (.ofNat 2))), (5, (1, (.ofNat 3))), (6, (1, (.ofNat 4))), (7, (1, (.ofNat 5)))], [(1, (.ofNat 0)), (1, (.ofNat 5))], 0, 0)
def zd40 : zA_T := ([((.ofNat 1), (.ofNat 30), zD0), ((.ofNat 1), (.ofNat 30), zD0), ((.negSucc 0), (.ofNat 23), zD0), ((.negSucc 2147483647), (.ofNat 2147483647), zD0), ((.negSucc 2147483647), (.ofNat 2147483647), zD0), ((.ofNat 0), (.ofNat 29), zD0)], zHW, [(10, (0, (.ofNat 0))), (9, (0, (.ofNat 0))), (8, (0, (.ofNat 0))), (0, (2, (.ofNat 15))), (2, (1, (.ofNat 0))), (3, (1, (.ofNat 1))), (4, (1, (.ofNat 2))), (5, (1, (.ofNat 3))), (6, (1, (.ofNat 4))), (7, (1, (.ofNat 5)))], [], 0, 0)
def zd43 : zA_T := ([((.ofNat 1), (.ofNat 30), zD0), ((.ofNat 1), (.ofNat 30), zD0), ((.negSucc 0), (.ofNat 23), zD0), ((.negSucc 2147483647), (.ofNat 2147483647), zD0), ((.negSucc 2147483647), (.ofNat 2147483647), zD0), ((.ofNat 0), (.ofNat 29), zD0), ((.ofNat 0), (.ofNat 16777215), zD0), ((.ofNat 0), (.ofNat 16777215), zD0), ((.ofNat 0), (.ofNat 30), zD0)], zHW, [(0, (2, (.ofNat 15))), (2, (1, (.ofNat 0))), (3, (1, (.ofNat 1))), (4, (1, (.ofNat 2))), (5, (1, (.ofNat 3))), (6, (1, (.ofNat 4))), (7, (1, (.ofNat 5))), (8, (1, (.ofNat 6))), (9, (1, (.ofNat 7))), (10, (1, (.ofNat 8)))], [(1, (.ofNat 1)), (1, (.ofNat 8))], 0, 0)
def zd13e : zA_T := ([((.negSucc 2147483647), (.ofNat 2147483647), zD0), ((.ofNat 1), (.ofNat 30), zD0), ((.ofNat 1), (.ofNat 30), zD0), ((.negSucc 0), (.ofNat 23), zD0)], zHV, [(7, (0, (.ofNat 0))), (6, (1, (.ofNat 0))), (5, (0, (.ofNat 0))), (0, (2, (.ofNat 15))), (1, (1, (.ofNat 0))), (2, (1, (.ofNat 1))), (3, (1, (.ofNat 2))), (4, (1, (.ofNat 3)))], [], 0, 0)
def zd40_0 : zA_T := ([((.ofNat 1), (.ofNat 30), zD0), ((.ofNat 1), (.ofNat 30), zD0), ((.negSucc 0), (.ofNat 23), zD0), ((.negSucc 2147483647), (.ofNat 2147483647), zD0), ((.negSucc 2147483647), (.ofNat 2147483647), zD0), ((.ofNat 0), (.ofNat 29), zD0), ((.ofNat 0), (.ofNat 16777215), zD0), ((.ofNat 0), (.ofNat 16777215), zD0), ((.ofNat 0), (.ofNat 29), zD0), ((.negSucc 2147483647), (.ofNat 2147483647), (12, (1, (.ofNat 4)), (0, (.ofNat 1103515245)))), ((.negSucc 2147483647), (.ofNat 2147483647), (10, (1, (.ofNat 9)), (0, (.ofNat 12345)))), ((.ofNat 0), (.ofNat 16777215), (18, (1, (.ofNat 10)), (0, (.ofNat 8)))), ((.ofNat 0), (.ofNat 23), (20, (1, (.ofNat 11)), (0, (.ofNat 24)))), ((.ofNat 1), (.ofNat 8388608), (16, (0, (.ofNat 1)), (1, (.ofNat 12)))), ((.ofNat 1), (.ofNat 8388608), (13, (1, (.ofNat 6)), (1, (.ofNat 13)))), ((.ofNat 0), (.ofNat 16777215), (15, (1, (.ofNat 6)), (1, (.ofNat 13)))), ((.ofNat 0), (.ofNat 16777215), (13, (1, (.ofNat 7)), (1, (.ofNat 15)))), ((.ofNat 1), (.ofNat 30), (10, (1, (.ofNat 8)), (0, (.ofNat 1))))], zHW, [(10, (1, (.ofNat 17))), (9, (1, (.ofNat 16))), (8, (1, (.ofNat 15))), (12, (0, (.ofNat 1))), (11, (1, (.ofNat 13))), (6, (1, (.ofNat 10))), (0, (2, (.ofNat 15))), (2, (1, (.ofNat 0))), (3, (1, (.ofNat 1))), (4, (1, (.ofNat 2))), (5, (1, (.ofNat 3))), (7, (1, (.ofNat 5)))], [], 0, 0)
def zd40_1 : zA_T := ([((.ofNat 1), (.ofNat 30), zD0), ((.ofNat 1), (.ofNat 30), zD0), ((.negSucc 0), (.ofNat 23), zD0), ((.negSucc 2147483647), (.ofNat 2147483647), zD0), ((.negSucc 2147483647), (.ofNat 2147483647), zD0), ((.ofNat 0), (.ofNat 29), zD0), ((.ofNat 0), (.ofNat 16777215), zD0), ((.ofNat 0), (.ofNat 16777215), zD0), ((.ofNat 0), (.ofNat 29), zD0), ((.negSucc 2147483647), (.ofNat 2147483647), (12, (1, (.ofNat 4)), (0, (.ofNat 1103515245)))), ((.negSucc 2147483647), (.ofNat 2147483647), (10, (1, (.ofNat 9)), (0, (.ofNat 12345)))), ((.ofNat 0), (.ofNat 16777215), (18, (1, (.ofNat 10)), (0, (.ofNat 8)))), ((.ofNat 0), (.ofNat 23), (20, (1, (.ofNat 11)), (0, (.ofNat 24)))), ((.ofNat 1), (.ofNat 8388608), (16, (0, (.ofNat 1)), (1, (.ofNat 12)))), ((.ofNat 0), (.ofNat 0), (13, (1, (.ofNat 6)), (1, (.ofNat 13)))), ((.ofNat 0), (.ofNat 8388607), (18, (1, (.ofNat 6)), (0, (.ofNat 1)))), ((.ofNat 0), (.ofNat 8388607), (13, (1, (.ofNat 15)), (0, (.ofNat 1431655765)))), ((.negSucc 8388606), (.ofNat 16777215), (11, (1, (.ofNat 6)), (1, (.ofNat 16)))), ((.ofNat 0), (.ofNat 858993459), (13, (1, (.ofNat 17)), (0, (.ofNat 858993459)))), ((.ofNat 0), (.ofNat 1073741823), (18, (1, (.ofNat 17)), (0, (.ofNat 2)))), ((.ofNat 0), (.ofNat 858993459), (13, (1, (.ofNat 19)), (0, (.ofNat 858993459)))), ((.ofNat 0), (.ofNat 1717986918), (10, (1, (.ofNat 18)), (1, (.ofNat 20)))), ((.ofNat 0), (.ofNat 107374182), (18, (1, (.ofNat 21)), (0, (.ofNat 4)))), ((.ofNat 0), (.ofNat 1825361100), (10, (1, (.ofNat 21)), (1, (.ofNat 22)))), ((.ofNat 0), (.ofNat 252645135), (13, (1, (.ofNat 23)), (0, (.ofNat 252645135)))), ((.ofNat 0), (.ofNat 986895), (18, (1, (.ofNat 24)), (0, (.ofNat 8)))), ((.ofNat 0), (.ofNat 253632030), (10, (1, (.ofNat 24)), (1, (.ofNat 25)))), ((.ofNat 0), (.ofNat 3870), (18, (1, (.ofNat 26)), (0, (.ofNat 16)))), ((.ofNat 0), (.ofNat 253635900), (10, (1, (.ofNat 26)), (1, (.ofNat 27)))), ((.ofNat 9), (.ofNat 63), (13, (1, (.ofNat 28)), (0, (.ofNat 63)))), ((.ofNat 0), (.ofNat 16777215), (15, (1, (.ofNat 6)), (0, (.ofNat 0)))), ((.ofNat 0), (.ofNat 16777215), (13, (1, (.ofNat 7)), (1, (.ofNat 30)))), ((.ofNat 1), (.ofNat 30), (10, (1, (.ofNat 8)), (0, (.ofNat 1))))], zHW, [(10, (1, (.ofNat 32))), (9, (1, (.ofNat 31))), (8, (1, (.ofNat 30))), (12, (0, (.ofNat 0))), (11, (1, (.ofNat 13))), (6, (1, (.ofNat 10))), (0, (2, (.ofNat 15))), (2, (1, (.ofNat 0))), (3, (1, (.ofNat 1))), (4, (1, (.ofNat 2))), (5, (1, (.ofNat 3))), (7, (1, (.ofNat 5)))], [], 0, 0)
def zd40_2 : zA_T := ([((.ofNat 1), (.ofNat 30), zD0), ((.ofNat 1), (.ofNat 30), zD0), ((.negSucc 0), (.ofNat 23), zD0), ((.negSucc 2147483647), (.ofNat 2147483647), zD0), ((.negSucc 2147483647), (.ofNat 2147483647), zD0), ((.ofNat 0), (.ofNat 29), zD0), ((.ofNat 0), (.ofNat 16777215), zD0), ((.ofNat 0), (.ofNat 16777215), zD0), ((.ofNat 0), (.ofNat 29), zD0), ((.negSucc 2147483647), (.ofNat 2147483647), (12, (1, (.ofNat 4)), (0, (.ofNat 1103515245)))), ((.negSucc 2147483647), (.ofNat 2147483647), (10, (1, (.ofNat 9)), (0, (.ofNat 12345)))), ((.ofNat 0), (.ofNat 16777215), (18, (1, (.ofNat 10)), (0, (.ofNat 8)))), ((.ofNat 0), (.ofNat 23), (20, (1, (.ofNat 11)), (0, (.ofNat 24)))), ((.ofNat 1), (.ofNat 8388608), (16, (0, (.ofNat 1)), (1, (.ofNat 12)))), ((.ofNat 0), (.ofNat 0), (13, (1, (.ofNat 6)), (1, (.ofNat 13)))), ((.ofNat 0), (.ofNat 8388607), (18, (1, (.ofNat 6)), (0, (.ofNat 1)))), ((.ofNat 0), (.ofNat 8388607), (13, (1, (.ofNat 15)), (0, (.ofNat 1431655765)))), ((.negSucc 8388606), (.ofNat 16777215), (11, (1, (.ofNat 6)), (1, (.ofNat 16)))), ((.ofNat 0), (.ofNat 858993459), (13, (1, (.ofNat 17)), (0, (.ofNat 858993459)))), ((.ofNat 0), (.ofNat 1073741823), (18, (1, (.ofNat 17)), (0, (.ofNat 2)))), ((.ofNat 0), (.ofNat 858993459), (13, (1, (.ofNat 19)), (0, (.ofNat 858993459)))), ((.ofNat 0), (.ofNat 1717986918), (10, (1, (.ofNat 18)), (1, (.ofNat 20)))), ((.ofNat 0), (.ofNat 107374182), (18, (1, (.ofNat 21)), (0, (.ofNat 4)))), ((.ofNat 0), (.ofNat 1825361100), (10, (1, (.ofNat 21)), (1, (.ofNat 22)))), ((.ofNat 0), (.ofNat 252645135), (13, (1, (.ofNat 23)), (0, (.ofNat 252645135)))), ((.ofNat 0), (.ofNat 986895), (18, (1, (.ofNat 24)), (0, (.ofNat 8)))), ((.ofNat 0), (.ofNat 253632030), (10, (1, (.ofNat 24)), (1, (.ofNat 25)))), ((.ofNat 0), (.ofNat 3870), (18, (1, (.ofNat 26)), (0, (.ofNat 16)))), ((.ofNat 0), (.ofNat 253635900), (10, (1, (.ofNat 26)), (1, (.ofNat 27)))), ((.ofNat 0), (.ofNat 8), (13, (1, (.ofNat 28)), (0, (.ofNat 63)))), ((.ofNat 0), (.ofNat 16777215), (15, (1, (.ofNat 6)), (1, (.ofNat 13)))), ((.ofNat 0), (.ofNat 16777215), (13, (1, (.ofNat 7)), (1, (.ofNat 30)))), ((.ofNat 1), (.ofNat 30), (10, (1, (.ofNat 8)), (0, (.ofNat 1))))], zHW, [(10, (1, (.ofNat 32))), (9, (1, (.ofNat 31))), (8, (1, (.ofNat 30))), (12, (0, (.ofNat 1))), (11, (1, (.ofNat 13))), (6, (1, (.ofNat 10))), (0, (2, (.ofNat 15))), (2, (1, (.ofNat 0))), (3, (1, (.ofNat 1))), (4, (1, (.ofNat 2))), (5, (1, (.ofNat 3))), (7, (1, (.ofNat 5)))], [], 0, 0)
def zd13_0 : zA_T := ([((.ofNat 1), (.ofNat 30), zD0), ((.ofNat 1), (.ofNat 30), zD0), ((.ofNat 0), (.ofNat 23), zD0), ((.negSucc 2147483647), (.ofNat 2147483647), zD0), ((.negSucc 2147483647), (.ofNat 2147483647), zD0), ((.ofNat 0), (.ofNat 29), zD0), ((.ofNat 0), (.ofNat 16777215), zD0), ((.ofNat 0), (.ofNat 16777215), zD0), ((.ofNat 0), (.ofNat 30), zD0), ((.ofNat 0), (.ofNat 16777215), (17, (1, (.ofNat 6)), (1, (.ofNat 2)))), ((.ofNat 0), (.ofNat 1), (13, (1, (.ofNat 9)), (0, (.ofNat 1)))), ((.negSucc 2147483647), (.ofNat 2147483647), (10, (1, (.ofNat 3)), (1, (.ofNat 10)))), ((.ofNat 1), (.ofNat 30), (10, (1, (.ofNat 5)), (0, (.ofNat 1))))], zHW, [(7, (1, (.ofNat 12))), (5, (1, (.ofNat 11))), (0, (2, (.ofNat 15))), (2, (1, (.ofNat 0))), (3, (1, (.ofNat 1))), (4, (1, (.ofNat 2))), (6, (1, (.ofNat 4))), (8, (1, (.ofNat 6))), (9, (1, (.ofNat 7))), (10, (1, (.ofNat 8)))], [], 0, 0)
def zd13_1 : zA_T := ([((.ofNat 1), (.ofNat 30), zD0), ((.ofNat 1), (.ofNat 30), zD0), ((.negSucc 0), (.negSucc 0), zD0), ((.negSucc 2147483647), (.ofNat 2147483647), zD0), ((.negSucc 2147483647), (.ofNat 2147483647), zD0), ((.ofNat 0), (.ofNat 29), zD0), ((.ofNat 0), (.ofNat 16777215), zD0), ((.ofNat 0), (.ofNat 16777215), zD0), ((.ofNat 0), (.ofNat 30), zD0), ((.negSucc 2147483647), (.ofNat 2147483647), (10, (1, (.ofNat 3)), (0, (.ofNat 0)))), ((.ofNat 1), (.ofNat 30), (10, (1, (.ofNat 5)), (0, (.ofNat 1))))], zHW, [(7, (1, (.ofNat 10))), (5, (1, (.ofNat 9))), (0, (2, (.ofNat 15))), (2, (1, (.ofNat 0))), (3, (1, (.ofNat 1))), (4, (1, (.ofNat 2))), (6, (1, (.ofNat 4))), (8, (1, (.ofNat 6))), (9, (1, (.ofNat 7))), (10, (1, (.ofNat 8)))], [], 0, 0)
set_option maxRecDepth 100000 in
theorem zdr_E : zx1 2000000 znf (zcuts 130 150 13 [zd13e]) zon 4000 130 150 0 zdE [] = true := by decide +kernel
set_option maxRecDepth 100000 in
theorem zdr_O : zx1 2000000 znf (zcuts 130 150 16 [zd16]) zon 4000 130 150 13 zdO_ [] = true := by decide +kernel
set_option maxRecDepth 100000 in
theorem zdr_19 : zx1 2000000 znf (zcuts 130 150 40 [zd40]) zon 4000 130 150 19 zd19 [] = true := by decide +kernel
set_option maxRecDepth 100000 in
theorem zdr_I : zx1 2000000 znf (zcuts 130 150 43 [zd43]) zon 4000 130 150 40 zdI_ [] = true := by decide +kernel
set_option maxRecDepth 100000 in
theorem zdr_46 : zx1 2000000 znf (zcuts 130 150 40 [zd40_0, zd40_1, zd40_2]) zon 4000 130 150 46 zd46 [] = true := by decide +kernel
set_option maxRecDepth 100000 in
theorem zdr_128 : zx1 2000000 znf (zcuts 130 150 13 [zd13_0, zd13_1]) zorcIA 4000 130 150 128 zd128 [] = true := by decide +kernel
set_option maxRecDepth 100000 in
theorem zdr_163 : zx1 2000000 (zfinR zHW (some (1, 3))) zno zon 4000 130 150 163 zd163 [] = true := by decide +kernel
theorem zdm_e : zmT [(1, (.ofNat 1)), (1, (.ofNat 2)), (1, (.ofNat 3)), (0, (.ofNat 0)), (1, (.ofNat 0)), (0, (.ofNat 0))] zd13e zdO_ = true := by decide +kernel
theorem zdm_40 : zmT [(1, (.ofNat 0)), (1, (.ofNat 1)), (1, (.ofNat 2)), (1, (.ofNat 3)), (1, (.ofNat 4)), (1, (.ofNat 5)), (0, (.ofNat 0)), (0, (.ofNat 0)), (0, (.ofNat 0))] zd40 zdI_ = true := by decide +kernel
theorem zdm_40_0 : zmT [(1, (.ofNat 0)), (1, (.ofNat 1)), (1, (.ofNat 2)), (1, (.ofNat 3)), (1, (.ofNat 10)), (1, (.ofNat 5)), (1, (.ofNat 15)), (1, (.ofNat 16)), (1, (.ofNat 17))] zd40_0 zdI_ = true := by decide +kernel
theorem zdm_40_1 : zmT [(1, (.ofNat 0)), (1, (.ofNat 1)), (1, (.ofNat 2)), (1, (.ofNat 3)), (1, (.ofNat 10)), (1, (.ofNat 5)), (1, (.ofNat 30)), (1, (.ofNat 31)), (1, (.ofNat 32))] zd40_1 zdI_ = true := by decide +kernel
theorem zdm_40_2 : zmT [(1, (.ofNat 0)), (1, (.ofNat 1)), (1, (.ofNat 2)), (1, (.ofNat 3)), (1, (.ofNat 10)), (1, (.ofNat 5)), (1, (.ofNat 30)), (1, (.ofNat 31)), (1, (.ofNat 32))] zd40_2 zdI_ = true := by decide +kernel
theorem zdm_13_0 : zmT [(1, (.ofNat 0)), (1, (.ofNat 1)), (1, (.ofNat 2)), (1, (.ofNat 11)), (1, (.ofNat 4)), (1, (.ofNat 12))] zd13_0 zdO_ = true := by decide +kernel
theorem zdm_13_1 : zmT [(1, (.ofNat 0)), (1, (.ofNat 1)), (0, (.negSucc 0)), (1, (.ofNat 9)), (1, (.ofNat 4)), (1, (.ofNat 10))] zd13_1 zdO_ = true := by decide +kernel
theorem zdI_s (n : Nat) (z b : Int) : zdI (n + 1) z b = zdI n (zdz z) (zdb b (zdl (zdz z))) := rfl
theorem zdO_s (n s : Nat) (z line sum : Int) : zdO (n + 1) s z line sum = zdO n s (zdI s z 0).1 line (zb_c 10 sum (zdG line (zdI s z 0).2)) := rfl
def zdQ (Q : Option Value → List z_C → Prop) (T : Int) : Prop := ∀ (ph' : List z_C) (x : Int32), x.toInt = T → zL2 (zg_C [] []) zHW ph' → Q (some (.int x)) ph'
def zdIO (T : Int) (k : Nat) (ns : List Int) : Prop := ∃ n0 n1 n2 n3 n4 n5 : Int, ns = [n0, n1, n2, n3, n4, n5] ∧ n5 ≤ n0 ∧ k = (n0 - n5).toNat ∧ zdO k n1.toNat n4 n2 n3 = T
def zdII (T : Int) (k j : Nat) (ns : List Int) : Prop := ∃ n0 n1 n2 n3 n4 n5 n6 n7 n8 : Int, ns = [n0, n1, n2, n3, n4, n5, n6, n7, n8] ∧ n5 < n0 ∧ n8 ≤ n1 ∧ k = (n0 - n5 - 1).toNat ∧ j = (n1 - n8).toNat ∧ zdO k n1.toNat (zdI j n4 n6).1 n2 (zb_c 10 n3 (zdG n2 (zdI j n4 n6).2)) = T
theorem zGd_ex {l : Launch} {X : zx_X} {XL : Nat} {φ : List z_C} {Q : Option Value → List z_C → Prop} {α : Type} {P : α → List Int → Prop} {m d pc : Nat} {t : zA_T} {stk : List zA_F} (h : ∀ a, zGd l X XL φ (P a) Q m d pc t stk) : zGd l X XL φ (fun ρ => ∃ a, P a ρ) Q m d pc t stk :=
  fun ρ ph lv st cst hp g gs => hp.elim (fun a hp => h a ρ ph lv st cst hp g gs)
theorem zint2 {ρ : List Int} {i j : Nat} {st : List Value} {a b : Int} (ha : ρ[i]? = some a) (hb : ρ[j]? = some b) (g : zL2 (zg_V ρ) [(1, (i : Int)), (1, (j : Int))] st) : ∃ x y : Int32, st = [.int x, .int y] ∧ x.toInt = a ∧ y.toInt = b := by
  obtain ⟨v, st1, rfl, gv, gr⟩ := zL2.cons1 g
  obtain ⟨w, st2, rfl, gw, gn⟩ := zL2.cons1 gr
  have gn := zL2.nil1 gn
  subst gn
  obtain ⟨x, rfl, ex⟩ := zg_int (a := (1, (i : Int))) rfl gv
  obtain ⟨y, rfl, ey⟩ := zg_int (a := (1, (j : Int))) rfl gw
  exact ⟨x, y, rfl, zE_fun ex (zEk ha), zE_fun ey (zEk hb)⟩
section ZD
variable {l : Launch} {X : zx_X} {φ : List z_C} {Q : Option Value → List z_C → Prop} {T : Int}
theorem zd_163 (hQ : zdQ Q T) : zGd l X 2000000 φ (zPf (fun ns => ns[3]? = some T)) Q 130 150 163 zd163 [] := by
  refine zGd_run (zPf_up _) ?_ (zOk_no l X _ φ _) (zCt_no l X _ φ _ Q) (by decide) zdr_163
  intro t r h ρ ph v hp gS gH gR
  obtain ⟨h1, h2⟩ := zw_and h
  have e1 := zHeq_eq h1
  have e2 := of_decide_eq_true h2
  subst e2
  rw [e1] at gH
  obtain ⟨ns, hle, h3⟩ := hp
  cases v with
  | none => exact gR.elim
  | some u =>
    obtain ⟨x, rfl, ex⟩ := zg_int (a := (1, 3)) rfl gR
    exact hQ ph x (zE_fun ex (zEk (j := 3) (hle 3 _ h3))) (zPhi zHW_8 (zcnH_g zHW_cn gH))
theorem zd_d16 : decode (zm 130).2.1 16 = .ok (.if_icmp .ge 147, 3) := by decide +kernel
theorem zd_d43 : decode (zm 130).2.1 43 = .ok (.if_icmp .ge 85, 3) := by decide +kernel
theorem zmap_eq5 {ρ : List Int} {a0 a1 a2 a3 a4 : zA_V} {x0 x1 x2 x3 x4 : Int} (e0 : zval ρ a0 = x0) (e1 : zval ρ a1 = x1) (e2 : zval ρ a2 = x2) (e3 : zval ρ a3 = x3) (e4 : zval ρ a4 = x4) : [a0, a1, a2, a3, a4].map (zval ρ) = [x0, x1, x2, x3, x4] := by
  show [zval ρ a0, zval ρ a1, zval ρ a2, zval ρ a3, zval ρ a4] = _
  rw [e0, e1, e2, e3, e4]
theorem zmap_eq6 {ρ : List Int} {a0 a1 a2 a3 a4 a5 : zA_V} {x0 x1 x2 x3 x4 x5 : Int} (e0 : zval ρ a0 = x0) (e1 : zval ρ a1 = x1) (e2 : zval ρ a2 = x2) (e3 : zval ρ a3 = x3) (e4 : zval ρ a4 = x4) (e5 : zval ρ a5 = x5) : [a0, a1, a2, a3, a4, a5].map (zval ρ) = [x0, x1, x2, x3, x4, x5] := by
  show [zval ρ a0, zval ρ a1, zval ρ a2, zval ρ a3, zval ρ a4, zval ρ a5] = _
  rw [e0, e1, e2, e3, e4, e5]
theorem zmap_eq7 {ρ : List Int} {a0 a1 a2 a3 a4 a5 a6 : zA_V} {x0 x1 x2 x3 x4 x5 x6 : Int} (e0 : zval ρ a0 = x0) (e1 : zval ρ a1 = x1) (e2 : zval ρ a2 = x2) (e3 : zval ρ a3 = x3) (e4 : zval ρ a4 = x4) (e5 : zval ρ a5 = x5) (e6 : zval ρ a6 = x6) : [a0, a1, a2, a3, a4, a5, a6].map (zval ρ) = [x0, x1, x2, x3, x4, x5, x6] := by
  show [zval ρ a0, zval ρ a1, zval ρ a2, zval ρ a3, zval ρ a4, zval ρ a5, zval ρ a6] = _
  rw [e0, e1, e2, e3, e4, e5, e6]
theorem zmap_eq9 {ρ : List Int} {a0 a1 a2 a3 a4 a5 a6 a7 a8 : zA_V} {x0 x1 x2 x3 x4 x5 x6 x7 x8 : Int} (e0 : zval ρ a0 = x0) (e1 : zval ρ a1 = x1) (e2 : zval ρ a2 = x2) (e3 : zval ρ a3 = x3) (e4 : zval ρ a4 = x4) (e5 : zval ρ a5 = x5) (e6 : zval ρ a6 = x6) (e7 : zval ρ a7 = x7) (e8 : zval ρ a8 = x8) : [a0, a1, a2, a3, a4, a5, a6, a7, a8].map (zval ρ) = [x0, x1, x2, x3, x4, x5, x6, x7, x8] := by
  show [zval ρ a0, zval ρ a1, zval ρ a2, zval ρ a3, zval ρ a4, zval ρ a5, zval ρ a6, zval ρ a7, zval ρ a8] = _
  rw [e0, e1, e2, e3, e4, e5, e6, e7, e8]
theorem zdp_0 {k j : Nat} {ρ : List Int} (hp : zPf (zdII T k (j + 1)) ρ) (hS : zg_S ρ zd40_0.1) : zdII T k j ([(1, (.ofNat 0)), (1, (.ofNat 1)), (1, (.ofNat 2)), (1, (.ofNat 3)), (1, (.ofNat 10)), (1, (.ofNat 5)), (1, (.ofNat 15)), (1, (.ofNat 16)), (1, (.ofNat 17))].map (zval ρ)) := by
  obtain ⟨ns, hle, n0, n1, n2, n3, n4, n5, n6, n7, n8, rfl, q1, q2, q3, q4, q5⟩ := hp
  have b0 : ρ[0]? = some n0 := hle 0 _ rfl
  have b1 : ρ[1]? = some n1 := hle 1 _ rfl
  have b2 : ρ[2]? = some n2 := hle 2 _ rfl
  have b3 : ρ[3]? = some n3 := hle 3 _ rfl
  have b4 : ρ[4]? = some n4 := hle 4 _ rfl
  have b5 : ρ[5]? = some n5 := hle 5 _ rfl
  have b6 : ρ[6]? = some n6 := hle 6 _ rfl
  have b7 : ρ[7]? = some n7 := hle 7 _ rfl
  have b8 : ρ[8]? = some n8 := hle 8 _ rfl
  have r6 : (0 : Int) ≤ n6 ∧ n6 ≤ 16777215 := zS_rng hS (rfl : zd40_0.1[6]? = some (0, 16777215, zD0)) b6
  have r8 : (0 : Int) ≤ n8 ∧ n8 ≤ 29 := zS_rng hS (rfl : zd40_0.1[8]? = some (0, 29, zD0)) b8
  have h9 : ρ[9]? = some (zb_c 12 n4 1103515245) ∧ (-2147483648 : Int) ≤ zb_c 12 n4 1103515245 ∧ zb_c 12 n4 1103515245 ≤ (2147483647 : Int) := zD_use hS (rfl : zd40_0.1[9]? = some ((-2147483648), 2147483647, (12, (1, (.ofNat 4)), (0, (.ofNat 1103515245))))) (by decide) (zEk b4) (zE0 ρ 1103515245)
  have h10 : ρ[10]? = some (zdz n4) ∧ (-2147483648 : Int) ≤ zdz n4 ∧ zdz n4 ≤ (2147483647 : Int) := zD_use hS (rfl : zd40_0.1[10]? = some ((-2147483648), 2147483647, (10, (1, (.ofNat 9)), (0, (.ofNat 12345))))) (by decide) (zEk h9.1) (zE0 ρ 12345)
  have h11 : ρ[11]? = some (zb_c 18 (zdz n4) 8) ∧ (0 : Int) ≤ zb_c 18 (zdz n4) 8 ∧ zb_c 18 (zdz n4) 8 ≤ (16777215 : Int) := zD_use hS (rfl : zd40_0.1[11]? = some (0, 16777215, (18, (1, (.ofNat 10)), (0, (.ofNat 8))))) (by decide) (zEk h10.1) (zE0 ρ 8)
  have h12 : ρ[12]? = some (zdl (zdz n4)) ∧ (0 : Int) ≤ zdl (zdz n4) ∧ zdl (zdz n4) ≤ (23 : Int) := zD_use hS (rfl : zd40_0.1[12]? = some (0, 23, (20, (1, (.ofNat 11)), (0, (.ofNat 24))))) (by decide) (zEk h11.1) (zE0 ρ 24)
  have h13 : ρ[13]? = some (zb_c 16 1 (zdl (zdz n4))) ∧ (1 : Int) ≤ zb_c 16 1 (zdl (zdz n4)) ∧ zb_c 16 1 (zdl (zdz n4)) ≤ (8388608 : Int) := zD_use hS (rfl : zd40_0.1[13]? = some (1, 8388608, (16, (0, (.ofNat 1)), (1, (.ofNat 12))))) (by decide) (zE0 ρ 1) (zEk h12.1)
  have h14 : ρ[14]? = some (zb_c 13 n6 (zb_c 16 1 (zdl (zdz n4)))) ∧ (1 : Int) ≤ zb_c 13 n6 (zb_c 16 1 (zdl (zdz n4))) ∧ zb_c 13 n6 (zb_c 16 1 (zdl (zdz n4))) ≤ (8388608 : Int) := zD_use hS (rfl : zd40_0.1[14]? = some (1, 8388608, (13, (1, (.ofNat 6)), (1, (.ofNat 13))))) (by decide) (zEk b6) (zEk h13.1)
  have h15 := zD_use hS (rfl : zd40_0.1[15]? = some (0, 16777215, (15, (1, (.ofNat 6)), (1, (.ofNat 13))))) (by decide) (zEk b6) (zEk h13.1)
  have h16 := zD_use hS (rfl : zd40_0.1[16]? = some (0, 16777215, (13, (1, (.ofNat 7)), (1, (.ofNat 15))))) (by decide) (zEk b7) (zEk h15.1)
  have h17 := zD_use hS (rfl : zd40_0.1[17]? = some (1, 30, (10, (1, (.ofNat 8)), (0, (.ofNat 1))))) (by decide) (zEk b8) (zE0 ρ 1)
  have e := zmap_eq9 (ρ := ρ) (zval_E (a := (1, (.ofNat 0))) rfl (zEk b0)) (zval_E (a := (1, (.ofNat 1))) rfl (zEk b1)) (zval_E (a := (1, (.ofNat 2))) rfl (zEk b2)) (zval_E (a := (1, (.ofNat 3))) rfl (zEk b3)) (zval_E (a := (1, (.ofNat 10))) rfl (zEk h10.1)) (zval_E (a := (1, (.ofNat 5))) rfl (zEk b5)) (zval_E (a := (1, (.ofNat 15))) rfl (zEk h15.1)) (zval_E (a := (1, (.ofNat 16))) rfl (zEk h16.1)) (zval_E (a := (1, (.ofNat 17))) rfl (zEk h17.1))
  have hs : zb_c 10 n8 1 = n8 + 1 := zb10 (by omega) (by omega)
  have hb := zdb_c1 h14.2.1
  rw [e, hs]
  refine ⟨n0, n1, n2, n3, zdz n4, n5, _, _, n8 + 1, rfl, q1, by omega, q3, by omega, ?_⟩
  rw [zdI_s, hb] at q5
  exact q5
theorem zdp_1 {k j : Nat} {ρ : List Int} (hp : zPf (zdII T k (j + 1)) ρ) (hS : zg_S ρ zd40_1.1) : zdII T k j ([(1, (.ofNat 0)), (1, (.ofNat 1)), (1, (.ofNat 2)), (1, (.ofNat 3)), (1, (.ofNat 10)), (1, (.ofNat 5)), (1, (.ofNat 30)), (1, (.ofNat 31)), (1, (.ofNat 32))].map (zval ρ)) := by
  obtain ⟨ns, hle, n0, n1, n2, n3, n4, n5, n6, n7, n8, rfl, q1, q2, q3, q4, q5⟩ := hp
  have b0 : ρ[0]? = some n0 := hle 0 _ rfl
  have b1 : ρ[1]? = some n1 := hle 1 _ rfl
  have b2 : ρ[2]? = some n2 := hle 2 _ rfl
  have b3 : ρ[3]? = some n3 := hle 3 _ rfl
  have b4 : ρ[4]? = some n4 := hle 4 _ rfl
  have b5 : ρ[5]? = some n5 := hle 5 _ rfl
  have b6 : ρ[6]? = some n6 := hle 6 _ rfl
  have b7 : ρ[7]? = some n7 := hle 7 _ rfl
  have b8 : ρ[8]? = some n8 := hle 8 _ rfl
  have r6 : (0 : Int) ≤ n6 ∧ n6 ≤ 16777215 := zS_rng hS (rfl : zd40_1.1[6]? = some (0, 16777215, zD0)) b6
  have r8 : (0 : Int) ≤ n8 ∧ n8 ≤ 29 := zS_rng hS (rfl : zd40_1.1[8]? = some (0, 29, zD0)) b8
  have h9 : ρ[9]? = some (zb_c 12 n4 1103515245) ∧ (-2147483648 : Int) ≤ zb_c 12 n4 1103515245 ∧ zb_c 12 n4 1103515245 ≤ (2147483647 : Int) := zD_use hS (rfl : zd40_1.1[9]? = some ((-2147483648), 2147483647, (12, (1, (.ofNat 4)), (0, (.ofNat 1103515245))))) (by decide) (zEk b4) (zE0 ρ 1103515245)
  have h10 : ρ[10]? = some (zdz n4) ∧ (-2147483648 : Int) ≤ zdz n4 ∧ zdz n4 ≤ (2147483647 : Int) := zD_use hS (rfl : zd40_1.1[10]? = some ((-2147483648), 2147483647, (10, (1, (.ofNat 9)), (0, (.ofNat 12345))))) (by decide) (zEk h9.1) (zE0 ρ 12345)
  have h11 : ρ[11]? = some (zb_c 18 (zdz n4) 8) ∧ (0 : Int) ≤ zb_c 18 (zdz n4) 8 ∧ zb_c 18 (zdz n4) 8 ≤ (16777215 : Int) := zD_use hS (rfl : zd40_1.1[11]? = some (0, 16777215, (18, (1, (.ofNat 10)), (0, (.ofNat 8))))) (by decide) (zEk h10.1) (zE0 ρ 8)
  have h12 : ρ[12]? = some (zdl (zdz n4)) ∧ (0 : Int) ≤ zdl (zdz n4) ∧ zdl (zdz n4) ≤ (23 : Int) := zD_use hS (rfl : zd40_1.1[12]? = some (0, 23, (20, (1, (.ofNat 11)), (0, (.ofNat 24))))) (by decide) (zEk h11.1) (zE0 ρ 24)
  have h13 : ρ[13]? = some (zb_c 16 1 (zdl (zdz n4))) ∧ (1 : Int) ≤ zb_c 16 1 (zdl (zdz n4)) ∧ zb_c 16 1 (zdl (zdz n4)) ≤ (8388608 : Int) := zD_use hS (rfl : zd40_1.1[13]? = some (1, 8388608, (16, (0, (.ofNat 1)), (1, (.ofNat 12))))) (by decide) (zE0 ρ 1) (zEk h12.1)
  have h14 : ρ[14]? = some (zb_c 13 n6 (zb_c 16 1 (zdl (zdz n4)))) ∧ (0 : Int) ≤ zb_c 13 n6 (zb_c 16 1 (zdl (zdz n4))) ∧ zb_c 13 n6 (zb_c 16 1 (zdl (zdz n4))) ≤ (0 : Int) := zD_use hS (rfl : zd40_1.1[14]? = some (0, 0, (13, (1, (.ofNat 6)), (1, (.ofNat 13))))) (by decide) (zEk b6) (zEk h13.1)
  have h15 := zD_use hS (rfl : zd40_1.1[15]? = some (0, 8388607, (18, (1, (.ofNat 6)), (0, (.ofNat 1))))) (by decide) (zEk b6) (zE0 ρ 1)
  have h16 := zD_use hS (rfl : zd40_1.1[16]? = some (0, 8388607, (13, (1, (.ofNat 15)), (0, (.ofNat 1431655765))))) (by decide) (zEk h15.1) (zE0 ρ 1431655765)
  have h17 : ρ[17]? = some (zbcA n6) ∧ (-8388607 : Int) ≤ zbcA n6 ∧ zbcA n6 ≤ (16777215 : Int) := zD_use hS (rfl : zd40_1.1[17]? = some ((-8388607), 16777215, (11, (1, (.ofNat 6)), (1, (.ofNat 16))))) (by decide) (zEk b6) (zEk h16.1)
  have h18 := zD_use hS (rfl : zd40_1.1[18]? = some (0, 858993459, (13, (1, (.ofNat 17)), (0, (.ofNat 858993459))))) (by decide) (zEk h17.1) (zE0 ρ 858993459)
  have h19 := zD_use hS (rfl : zd40_1.1[19]? = some (0, 1073741823, (18, (1, (.ofNat 17)), (0, (.ofNat 2))))) (by decide) (zEk h17.1) (zE0 ρ 2)
  have h20 := zD_use hS (rfl : zd40_1.1[20]? = some (0, 858993459, (13, (1, (.ofNat 19)), (0, (.ofNat 858993459))))) (by decide) (zEk h19.1) (zE0 ρ 858993459)
  have h21 : ρ[21]? = some (zbcB (zbcA n6)) ∧ (0 : Int) ≤ zbcB (zbcA n6) ∧ zbcB (zbcA n6) ≤ (1717986918 : Int) := zD_use hS (rfl : zd40_1.1[21]? = some (0, 1717986918, (10, (1, (.ofNat 18)), (1, (.ofNat 20))))) (by decide) (zEk h18.1) (zEk h20.1)
  have h22 := zD_use hS (rfl : zd40_1.1[22]? = some (0, 107374182, (18, (1, (.ofNat 21)), (0, (.ofNat 4))))) (by decide) (zEk h21.1) (zE0 ρ 4)
  have h23 := zD_use hS (rfl : zd40_1.1[23]? = some (0, 1825361100, (10, (1, (.ofNat 21)), (1, (.ofNat 22))))) (by decide) (zEk h21.1) (zEk h22.1)
  have h24 : ρ[24]? = some (zbcC (zbcB (zbcA n6))) ∧ (0 : Int) ≤ zbcC (zbcB (zbcA n6)) ∧ zbcC (zbcB (zbcA n6)) ≤ (252645135 : Int) := zD_use hS (rfl : zd40_1.1[24]? = some (0, 252645135, (13, (1, (.ofNat 23)), (0, (.ofNat 252645135))))) (by decide) (zEk h23.1) (zE0 ρ 252645135)
  have h25 := zD_use hS (rfl : zd40_1.1[25]? = some (0, 986895, (18, (1, (.ofNat 24)), (0, (.ofNat 8))))) (by decide) (zEk h24.1) (zE0 ρ 8)
  have h26 : ρ[26]? = some (zbcD (zbcC (zbcB (zbcA n6)))) ∧ (0 : Int) ≤ zbcD (zbcC (zbcB (zbcA n6))) ∧ zbcD (zbcC (zbcB (zbcA n6))) ≤ (253632030 : Int) := zD_use hS (rfl : zd40_1.1[26]? = some (0, 253632030, (10, (1, (.ofNat 24)), (1, (.ofNat 25))))) (by decide) (zEk h24.1) (zEk h25.1)
  have h27 := zD_use hS (rfl : zd40_1.1[27]? = some (0, 3870, (18, (1, (.ofNat 26)), (0, (.ofNat 16))))) (by decide) (zEk h26.1) (zE0 ρ 16)
  have h28 := zD_use hS (rfl : zd40_1.1[28]? = some (0, 253635900, (10, (1, (.ofNat 26)), (1, (.ofNat 27))))) (by decide) (zEk h26.1) (zEk h27.1)
  have h29 : ρ[29]? = some (zbc n6) ∧ (9 : Int) ≤ zbc n6 ∧ zbc n6 ≤ (63 : Int) := zD_use hS (rfl : zd40_1.1[29]? = some (9, 63, (13, (1, (.ofNat 28)), (0, (.ofNat 63))))) (by decide) (zEk h28.1) (zE0 ρ 63)
  have h30 := zD_use hS (rfl : zd40_1.1[30]? = some (0, 16777215, (15, (1, (.ofNat 6)), (0, (.ofNat 0))))) (by decide) (zEk b6) (zE0 ρ 0)
  have h31 := zD_use hS (rfl : zd40_1.1[31]? = some (0, 16777215, (13, (1, (.ofNat 7)), (1, (.ofNat 30))))) (by decide) (zEk b7) (zEk h30.1)
  have h32 := zD_use hS (rfl : zd40_1.1[32]? = some (1, 30, (10, (1, (.ofNat 8)), (0, (.ofNat 1))))) (by decide) (zEk b8) (zE0 ρ 1)
  have e := zmap_eq9 (ρ := ρ) (zval_E (a := (1, (.ofNat 0))) rfl (zEk b0)) (zval_E (a := (1, (.ofNat 1))) rfl (zEk b1)) (zval_E (a := (1, (.ofNat 2))) rfl (zEk b2)) (zval_E (a := (1, (.ofNat 3))) rfl (zEk b3)) (zval_E (a := (1, (.ofNat 10))) rfl (zEk h10.1)) (zval_E (a := (1, (.ofNat 5))) rfl (zEk b5)) (zval_E (a := (1, (.ofNat 30))) rfl (zEk h30.1)) (zval_E (a := (1, (.ofNat 31))) rfl (zEk h31.1)) (zval_E (a := (1, (.ofNat 32))) rfl (zEk h32.1))
  have hs : zb_c 10 n8 1 = n8 + 1 := zb10 (by omega) (by omega)
  have hb : zdb n6 (zdl (zdz n4)) = _ := zdb_c3 r6.1 r6.2 (by omega) h29.2.1
  rw [e, hs]
  refine ⟨n0, n1, n2, n3, zdz n4, n5, _, _, n8 + 1, rfl, q1, by omega, q3, by omega, ?_⟩
  rw [zdI_s, hb] at q5
  exact q5
theorem zdp_2 {k j : Nat} {ρ : List Int} (hp : zPf (zdII T k (j + 1)) ρ) (hS : zg_S ρ zd40_2.1) : zdII T k j ([(1, (.ofNat 0)), (1, (.ofNat 1)), (1, (.ofNat 2)), (1, (.ofNat 3)), (1, (.ofNat 10)), (1, (.ofNat 5)), (1, (.ofNat 30)), (1, (.ofNat 31)), (1, (.ofNat 32))].map (zval ρ)) := by
  obtain ⟨ns, hle, n0, n1, n2, n3, n4, n5, n6, n7, n8, rfl, q1, q2, q3, q4, q5⟩ := hp
  have b0 : ρ[0]? = some n0 := hle 0 _ rfl
  have b1 : ρ[1]? = some n1 := hle 1 _ rfl
  have b2 : ρ[2]? = some n2 := hle 2 _ rfl
  have b3 : ρ[3]? = some n3 := hle 3 _ rfl
  have b4 : ρ[4]? = some n4 := hle 4 _ rfl
  have b5 : ρ[5]? = some n5 := hle 5 _ rfl
  have b6 : ρ[6]? = some n6 := hle 6 _ rfl
  have b7 : ρ[7]? = some n7 := hle 7 _ rfl
  have b8 : ρ[8]? = some n8 := hle 8 _ rfl
  have r6 : (0 : Int) ≤ n6 ∧ n6 ≤ 16777215 := zS_rng hS (rfl : zd40_2.1[6]? = some (0, 16777215, zD0)) b6
  have r8 : (0 : Int) ≤ n8 ∧ n8 ≤ 29 := zS_rng hS (rfl : zd40_2.1[8]? = some (0, 29, zD0)) b8
  have h9 : ρ[9]? = some (zb_c 12 n4 1103515245) ∧ (-2147483648 : Int) ≤ zb_c 12 n4 1103515245 ∧ zb_c 12 n4 1103515245 ≤ (2147483647 : Int) := zD_use hS (rfl : zd40_2.1[9]? = some ((-2147483648), 2147483647, (12, (1, (.ofNat 4)), (0, (.ofNat 1103515245))))) (by decide) (zEk b4) (zE0 ρ 1103515245)
  have h10 : ρ[10]? = some (zdz n4) ∧ (-2147483648 : Int) ≤ zdz n4 ∧ zdz n4 ≤ (2147483647 : Int) := zD_use hS (rfl : zd40_2.1[10]? = some ((-2147483648), 2147483647, (10, (1, (.ofNat 9)), (0, (.ofNat 12345))))) (by decide) (zEk h9.1) (zE0 ρ 12345)
  have h11 : ρ[11]? = some (zb_c 18 (zdz n4) 8) ∧ (0 : Int) ≤ zb_c 18 (zdz n4) 8 ∧ zb_c 18 (zdz n4) 8 ≤ (16777215 : Int) := zD_use hS (rfl : zd40_2.1[11]? = some (0, 16777215, (18, (1, (.ofNat 10)), (0, (.ofNat 8))))) (by decide) (zEk h10.1) (zE0 ρ 8)
  have h12 : ρ[12]? = some (zdl (zdz n4)) ∧ (0 : Int) ≤ zdl (zdz n4) ∧ zdl (zdz n4) ≤ (23 : Int) := zD_use hS (rfl : zd40_2.1[12]? = some (0, 23, (20, (1, (.ofNat 11)), (0, (.ofNat 24))))) (by decide) (zEk h11.1) (zE0 ρ 24)
  have h13 : ρ[13]? = some (zb_c 16 1 (zdl (zdz n4))) ∧ (1 : Int) ≤ zb_c 16 1 (zdl (zdz n4)) ∧ zb_c 16 1 (zdl (zdz n4)) ≤ (8388608 : Int) := zD_use hS (rfl : zd40_2.1[13]? = some (1, 8388608, (16, (0, (.ofNat 1)), (1, (.ofNat 12))))) (by decide) (zE0 ρ 1) (zEk h12.1)
  have h14 : ρ[14]? = some (zb_c 13 n6 (zb_c 16 1 (zdl (zdz n4)))) ∧ (0 : Int) ≤ zb_c 13 n6 (zb_c 16 1 (zdl (zdz n4))) ∧ zb_c 13 n6 (zb_c 16 1 (zdl (zdz n4))) ≤ (0 : Int) := zD_use hS (rfl : zd40_2.1[14]? = some (0, 0, (13, (1, (.ofNat 6)), (1, (.ofNat 13))))) (by decide) (zEk b6) (zEk h13.1)
  have h15 := zD_use hS (rfl : zd40_2.1[15]? = some (0, 8388607, (18, (1, (.ofNat 6)), (0, (.ofNat 1))))) (by decide) (zEk b6) (zE0 ρ 1)
  have h16 := zD_use hS (rfl : zd40_2.1[16]? = some (0, 8388607, (13, (1, (.ofNat 15)), (0, (.ofNat 1431655765))))) (by decide) (zEk h15.1) (zE0 ρ 1431655765)
  have h17 : ρ[17]? = some (zbcA n6) ∧ (-8388607 : Int) ≤ zbcA n6 ∧ zbcA n6 ≤ (16777215 : Int) := zD_use hS (rfl : zd40_2.1[17]? = some ((-8388607), 16777215, (11, (1, (.ofNat 6)), (1, (.ofNat 16))))) (by decide) (zEk b6) (zEk h16.1)
  have h18 := zD_use hS (rfl : zd40_2.1[18]? = some (0, 858993459, (13, (1, (.ofNat 17)), (0, (.ofNat 858993459))))) (by decide) (zEk h17.1) (zE0 ρ 858993459)
  have h19 := zD_use hS (rfl : zd40_2.1[19]? = some (0, 1073741823, (18, (1, (.ofNat 17)), (0, (.ofNat 2))))) (by decide) (zEk h17.1) (zE0 ρ 2)
  have h20 := zD_use hS (rfl : zd40_2.1[20]? = some (0, 858993459, (13, (1, (.ofNat 19)), (0, (.ofNat 858993459))))) (by decide) (zEk h19.1) (zE0 ρ 858993459)
  have h21 : ρ[21]? = some (zbcB (zbcA n6)) ∧ (0 : Int) ≤ zbcB (zbcA n6) ∧ zbcB (zbcA n6) ≤ (1717986918 : Int) := zD_use hS (rfl : zd40_2.1[21]? = some (0, 1717986918, (10, (1, (.ofNat 18)), (1, (.ofNat 20))))) (by decide) (zEk h18.1) (zEk h20.1)
  have h22 := zD_use hS (rfl : zd40_2.1[22]? = some (0, 107374182, (18, (1, (.ofNat 21)), (0, (.ofNat 4))))) (by decide) (zEk h21.1) (zE0 ρ 4)
  have h23 := zD_use hS (rfl : zd40_2.1[23]? = some (0, 1825361100, (10, (1, (.ofNat 21)), (1, (.ofNat 22))))) (by decide) (zEk h21.1) (zEk h22.1)
  have h24 : ρ[24]? = some (zbcC (zbcB (zbcA n6))) ∧ (0 : Int) ≤ zbcC (zbcB (zbcA n6)) ∧ zbcC (zbcB (zbcA n6)) ≤ (252645135 : Int) := zD_use hS (rfl : zd40_2.1[24]? = some (0, 252645135, (13, (1, (.ofNat 23)), (0, (.ofNat 252645135))))) (by decide) (zEk h23.1) (zE0 ρ 252645135)
  have h25 := zD_use hS (rfl : zd40_2.1[25]? = some (0, 986895, (18, (1, (.ofNat 24)), (0, (.ofNat 8))))) (by decide) (zEk h24.1) (zE0 ρ 8)
  have h26 : ρ[26]? = some (zbcD (zbcC (zbcB (zbcA n6)))) ∧ (0 : Int) ≤ zbcD (zbcC (zbcB (zbcA n6))) ∧ zbcD (zbcC (zbcB (zbcA n6))) ≤ (253632030 : Int) := zD_use hS (rfl : zd40_2.1[26]? = some (0, 253632030, (10, (1, (.ofNat 24)), (1, (.ofNat 25))))) (by decide) (zEk h24.1) (zEk h25.1)
  have h27 := zD_use hS (rfl : zd40_2.1[27]? = some (0, 3870, (18, (1, (.ofNat 26)), (0, (.ofNat 16))))) (by decide) (zEk h26.1) (zE0 ρ 16)
  have h28 := zD_use hS (rfl : zd40_2.1[28]? = some (0, 253635900, (10, (1, (.ofNat 26)), (1, (.ofNat 27))))) (by decide) (zEk h26.1) (zEk h27.1)
  have h29 : ρ[29]? = some (zbc n6) ∧ (0 : Int) ≤ zbc n6 ∧ zbc n6 ≤ (8 : Int) := zD_use hS (rfl : zd40_2.1[29]? = some (0, 8, (13, (1, (.ofNat 28)), (0, (.ofNat 63))))) (by decide) (zEk h28.1) (zE0 ρ 63)
  have h30 := zD_use hS (rfl : zd40_2.1[30]? = some (0, 16777215, (15, (1, (.ofNat 6)), (1, (.ofNat 13))))) (by decide) (zEk b6) (zEk h13.1)
  have h31 := zD_use hS (rfl : zd40_2.1[31]? = some (0, 16777215, (13, (1, (.ofNat 7)), (1, (.ofNat 30))))) (by decide) (zEk b7) (zEk h30.1)
  have h32 := zD_use hS (rfl : zd40_2.1[32]? = some (1, 30, (10, (1, (.ofNat 8)), (0, (.ofNat 1))))) (by decide) (zEk b8) (zE0 ρ 1)
  have e := zmap_eq9 (ρ := ρ) (zval_E (a := (1, (.ofNat 0))) rfl (zEk b0)) (zval_E (a := (1, (.ofNat 1))) rfl (zEk b1)) (zval_E (a := (1, (.ofNat 2))) rfl (zEk b2)) (zval_E (a := (1, (.ofNat 3))) rfl (zEk b3)) (zval_E (a := (1, (.ofNat 10))) rfl (zEk h10.1)) (zval_E (a := (1, (.ofNat 5))) rfl (zEk b5)) (zval_E (a := (1, (.ofNat 30))) rfl (zEk h30.1)) (zval_E (a := (1, (.ofNat 31))) rfl (zEk h31.1)) (zval_E (a := (1, (.ofNat 32))) rfl (zEk h32.1))
  have hs : zb_c 10 n8 1 = n8 + 1 := zb10 (by omega) (by omega)
  have hb : zdb n6 (zdl (zdz n4)) = _ := zdb_c2 r6.1 r6.2 h29.2.2
  rw [e, hs]
  refine ⟨n0, n1, n2, n3, zdz n4, n5, _, _, n8 + 1, rfl, q1, by omega, q3, by omega, ?_⟩
  rw [zdI_s, hb] at q5
  exact q5
theorem zd_40s {k j : Nat} (h : zGd l X 2000000 φ (zPf (zdII T k j)) Q 130 150 40 zdI_ []) : ∀ t ∈ [zd40_0, zd40_1, zd40_2], zGd l X 2000000 φ (zPf (zdII T k (j + 1))) Q 130 150 40 t [] := by
  intro t ht
  rcases List.mem_cons.mp ht with rfl | ht
  · exact zGd_m (XL := 2000000) (XL' := 2000000) (by decide) zdm_40_0 (fun ρ hp hS _ => zPf_self (zdp_0 hp hS)) h
  · rcases List.mem_cons.mp ht with rfl | ht
    · exact zGd_m (XL := 2000000) (XL' := 2000000) (by decide) zdm_40_1 (fun ρ hp hS _ => zPf_self (zdp_1 hp hS)) h
    · rw [List.mem_singleton] at ht
      subst ht
      exact zGd_m (XL := 2000000) (XL' := 2000000) (by decide) zdm_40_2 (fun ρ hp hS _ => zPf_self (zdp_2 hp hS)) h
theorem zd_46 {k j : Nat} (h : zGd l X 2000000 φ (zPf (zdII T k j)) Q 130 150 40 zdI_ []) : zGd l X 2000000 φ (zPf (zdII T k (j + 1))) Q 130 150 46 zd46 [] :=
  zGd_run (zPf_up _) (znf_ok _) (zOk_no l X _ φ _) (zcuts_g (zd_40s h)) (by decide) zdr_46
theorem zdq_0 {k : Nat} {ρ : List Int} (hp : zPf (zdII T k 0) ρ) (hS : zg_S ρ zd13_0.1) : zdIO T k ([(1, (.ofNat 0)), (1, (.ofNat 1)), (1, (.ofNat 2)), (1, (.ofNat 11)), (1, (.ofNat 4)), (1, (.ofNat 12))].map (zval ρ)) := by
  obtain ⟨ns, hle, n0, n1, n2, n3, n4, n5, n6, n7, n8, rfl, q1, q2, q3, q4, q5⟩ := hp
  have b0 : ρ[0]? = some n0 := hle 0 _ rfl
  have b1 : ρ[1]? = some n1 := hle 1 _ rfl
  have b2 : ρ[2]? = some n2 := hle 2 _ rfl
  have b3 : ρ[3]? = some n3 := hle 3 _ rfl
  have b4 : ρ[4]? = some n4 := hle 4 _ rfl
  have b5 : ρ[5]? = some n5 := hle 5 _ rfl
  have b6 : ρ[6]? = some n6 := hle 6 _ rfl
  have b7 : ρ[7]? = some n7 := hle 7 _ rfl
  have b8 : ρ[8]? = some n8 := hle 8 _ rfl
  have r2 : (0 : Int) ≤ n2 ∧ n2 ≤ 23 := zS_rng hS (rfl : zd13_0.1[2]? = some (0, 23, zD0)) b2
  have r5 : (0 : Int) ≤ n5 ∧ n5 ≤ 29 := zS_rng hS (rfl : zd13_0.1[5]? = some (0, 29, zD0)) b5
  have h9 := zD_use hS (rfl : zd13_0.1[9]? = some (0, 16777215, (17, (1, (.ofNat 6)), (1, (.ofNat 2))))) (by decide) (zEk b6) (zEk b2)
  have h10 := zD_use hS (rfl : zd13_0.1[10]? = some (0, 1, (13, (1, (.ofNat 9)), (0, (.ofNat 1))))) (by decide) (zEk h9.1) (zE0 ρ 1)
  have h11 := zD_use hS (rfl : zd13_0.1[11]? = some ((-2147483648), 2147483647, (10, (1, (.ofNat 3)), (1, (.ofNat 10))))) (by decide) (zEk b3) (zEk h10.1)
  have h12 := zD_use hS (rfl : zd13_0.1[12]? = some (1, 30, (10, (1, (.ofNat 5)), (0, (.ofNat 1))))) (by decide) (zEk b5) (zE0 ρ 1)
  have e := zmap_eq6 (ρ := ρ) (zval_E (a := (1, (.ofNat 0))) rfl (zEk b0)) (zval_E (a := (1, (.ofNat 1))) rfl (zEk b1)) (zval_E (a := (1, (.ofNat 2))) rfl (zEk b2)) (zval_E (a := (1, (.ofNat 11))) rfl (zEk h11.1)) (zval_E (a := (1, (.ofNat 4))) rfl (zEk b4)) (zval_E (a := (1, (.ofNat 12))) rfl (zEk h12.1))
  have hs : zb_c 10 n5 1 = n5 + 1 := zb10 (by omega) (by omega)
  rw [e, hs]
  refine ⟨n0, n1, n2, _, n4, n5 + 1, rfl, by omega, by omega, ?_⟩
  have hG : zdG n2 n6 = zb_c 13 (zb_c 17 n6 n2) 1 := if_neg (by omega)
  rw [← hG]
  exact q5
theorem zdq_1 {k : Nat} {ρ : List Int} (hp : zPf (zdII T k 0) ρ) (hS : zg_S ρ zd13_1.1) : zdIO T k ([(1, (.ofNat 0)), (1, (.ofNat 1)), (0, (.negSucc 0)), (1, (.ofNat 9)), (1, (.ofNat 4)), (1, (.ofNat 10))].map (zval ρ)) := by
  obtain ⟨ns, hle, n0, n1, n2, n3, n4, n5, n6, n7, n8, rfl, q1, q2, q3, q4, q5⟩ := hp
  have b0 : ρ[0]? = some n0 := hle 0 _ rfl
  have b1 : ρ[1]? = some n1 := hle 1 _ rfl
  have b2 : ρ[2]? = some n2 := hle 2 _ rfl
  have b3 : ρ[3]? = some n3 := hle 3 _ rfl
  have b4 : ρ[4]? = some n4 := hle 4 _ rfl
  have b5 : ρ[5]? = some n5 := hle 5 _ rfl
  have b6 : ρ[6]? = some n6 := hle 6 _ rfl
  have b7 : ρ[7]? = some n7 := hle 7 _ rfl
  have b8 : ρ[8]? = some n8 := hle 8 _ rfl
  have r2 : ((-1) : Int) ≤ n2 ∧ n2 ≤ (-1) := zS_rng hS (rfl : zd13_1.1[2]? = some ((-1), (-1), zD0)) b2
  have r5 : (0 : Int) ≤ n5 ∧ n5 ≤ 29 := zS_rng hS (rfl : zd13_1.1[5]? = some (0, 29, zD0)) b5
  have h9 := zD_use hS (rfl : zd13_1.1[9]? = some ((-2147483648), 2147483647, (10, (1, (.ofNat 3)), (0, (.ofNat 0))))) (by decide) (zEk b3) (zE0 ρ 0)
  have h10 := zD_use hS (rfl : zd13_1.1[10]? = some (1, 30, (10, (1, (.ofNat 5)), (0, (.ofNat 1))))) (by decide) (zEk b5) (zE0 ρ 1)
  have em : n2 = -1 := by omega
  have e := zmap_eq6 (ρ := ρ) (zval_E (a := (1, (.ofNat 0))) rfl (zEk b0)) (zval_E (a := (1, (.ofNat 1))) rfl (zEk b1)) (zval_E (a := (0, (.negSucc 0))) rfl (show zE ρ (0, .negSucc 0) n2 from by rw [em]; exact zE0 ρ (-1))) (zval_E (a := (1, (.ofNat 9))) rfl (zEk h9.1)) (zval_E (a := (1, (.ofNat 4))) rfl (zEk b4)) (zval_E (a := (1, (.ofNat 10))) rfl (zEk h10.1))
  have hs : zb_c 10 n5 1 = n5 + 1 := zb10 (by omega) (by omega)
  rw [e, hs]
  refine ⟨n0, n1, n2, _, n4, n5 + 1, rfl, by omega, by omega, ?_⟩
  have hG : zdG n2 n6 = 0 := if_pos (by omega)
  rw [← hG]
  exact q5
theorem zd_128 {k : Nat} (h : zGd l X 2000000 φ (zPf (zdIO T k)) Q 130 150 13 zdO_ []) : zGd l X 2000000 φ (zPf (zdII T k 0)) Q 130 150 128 zd128 [] := by
  refine zGd_run (zPf_up _) (znf_ok _) (zOk_IA l X φ _) (zcuts_g (fun t ht => ?_)) (by decide) zdr_128
  rcases List.mem_cons.mp ht with rfl | ht
  · exact zGd_m (XL := 2000000) (XL' := 2000000) (by decide) zdm_13_0 (fun ρ hp hS _ => zPf_self (zdq_0 hp hS)) h
  · rw [List.mem_singleton] at ht
    subst ht
    exact zGd_m (XL := 2000000) (XL' := 2000000) (by decide) zdm_13_1 (fun ρ hp hS _ => zPf_self (zdq_1 hp hS)) h
theorem zd_43 {k j : Nat} (hO : zGd l X 2000000 φ (zPf (zdIO T k)) Q 130 150 13 zdO_ []) (hI : ∀ j', j' < j → zGd l X 2000000 φ (zPf (zdII T k j')) Q 130 150 40 zdI_ []) : zGd l X 2000000 φ (zPf (zdII T k j)) Q 130 150 43 zd43 [] := by
  intro ρ ph lv st cst hp g gs
  obtain ⟨g1, g2, g3, g4, g5⟩ := g
  have hp0 := hp
  obtain ⟨ns, hle, n0, n1, n2, n3, n4, n5, n6, n7, n8, rfl, q1, q2, q3, q4, q5⟩ := hp
  have b1 : ρ[1]? = some n1 := hle 1 _ rfl
  have b8 : ρ[8]? = some n8 := hle 8 _ rfl
  have r1 : (1 : Int) ≤ n1 ∧ n1 ≤ 30 := zS_rng g1 (rfl : zd43.1[1]? = some (1, 30, zD0)) b1
  have r8 : (0 : Int) ≤ n8 ∧ n8 ≤ 30 := zS_rng g1 (rfl : zd43.1[8]? = some (0, 30, zD0)) b8
  obtain ⟨x, z, rfl, ex, ez⟩ := zint2 (i := 1) (j := 8) b1 b8 g4
  refine zs_icmp_ge (tgt := 128) zd_d43 (by decide) (fun hc => ?_) (fun hc => ?_)
  · rw [Int32.le_iff_toInt_le] at hc
    have ej : j = 0 := by omega
    subst ej
    exact zd_128 hO ρ ph lv _ cst hp0 ⟨g1, g2, g3, trivial, g5⟩ gs
  · rw [Int32.le_iff_toInt_le] at hc
    obtain ⟨j', rfl⟩ : ∃ j', j = j' + 1 := ⟨j - 1, by omega⟩
    exact zd_46 (hI j' (by omega)) ρ ph lv _ cst hp0 ⟨zrf_g (a := (1, 8)) (q := (0, 29)) g1 (zEk (j := 8) b8) (by show 0 ≤ n8; omega) (by show n8 ≤ 29; omega), g2, g3, trivial, g5⟩ gs
theorem zd_I {k : Nat} (hO : zGd l X 2000000 φ (zPf (zdIO T k)) Q 130 150 13 zdO_ []) (j : Nat) : zGd l X 2000000 φ (zPf (zdII T k j)) Q 130 150 40 zdI_ [] := by
  induction j using Nat.strongRecOn with
  | ind j ih => exact zGd_run (zPf_up _) (znf_ok _) (zOk_no l X _ φ _) (zcut1 (zd_43 hO ih)) (by decide) zdr_I
theorem zd_19 {k : Nat} (hI : ∀ j, zGd l X 2000000 φ (zPf (zdII T k j)) Q 130 150 40 zdI_ []) : zGd l X 2000000 φ (zPf (fun ns => zdIO T (k + 1) ns)) Q 130 150 19 zd19 [] := by
  refine zGd_run (zPf_up _) (znf_ok _) (zOk_no l X _ φ _) (zcut1 ?_) (by decide) zdr_19
  refine zGd_m (XL := 2000000) (XL' := 2000000) (by decide) zdm_40 (P0 := fun ρ => ∃ j, zPf (zdII T k j) ρ) (fun ρ hp hS _ => ?_) (zGd_ex hI)
  obtain ⟨ns, hle, n0, n1, n2, n3, n4, n5, rfl, q1, q2, q3⟩ := hp
  have b0 : ρ[0]? = some n0 := hle 0 _ rfl
  have b1 : ρ[1]? = some n1 := hle 1 _ rfl
  have b2 : ρ[2]? = some n2 := hle 2 _ rfl
  have b3 : ρ[3]? = some n3 := hle 3 _ rfl
  have b4 : ρ[4]? = some n4 := hle 4 _ rfl
  have b5 : ρ[5]? = some n5 := hle 5 _ rfl
  have r1 : (1 : Int) ≤ n1 ∧ n1 ≤ 30 := zS_rng hS (rfl : zd40.1[1]? = some (1, 30, zD0)) b1
  have e := zmap_eq9 (ρ := ρ) (zval_E (a := (1, (.ofNat 0))) rfl (zEk b0)) (zval_E (a := (1, (.ofNat 1))) rfl (zEk b1)) (zval_E (a := (1, (.ofNat 2))) rfl (zEk b2)) (zval_E (a := (1, (.ofNat 3))) rfl (zEk b3)) (zval_E (a := (1, (.ofNat 4))) rfl (zEk b4)) (zval_E (a := (1, (.ofNat 5))) rfl (zEk b5)) (zval_E (a := (0, (.ofNat 0))) rfl (zE0 ρ 0)) (zval_E (a := (0, (.ofNat 0))) rfl (zE0 ρ 0)) (zval_E (a := (0, (.ofNat 0))) rfl (zE0 ρ 0))
  rw [e]
  refine ⟨n1.toNat, zPf_self ⟨n0, n1, n2, n3, n4, n5, 0, 0, 0, rfl, by omega, by omega, by omega, by omega, ?_⟩⟩
  rw [zdO_s] at q3
  exact q3
theorem zd_16 (hQ : zdQ Q T) {k : Nat} (hI : ∀ k' j, k = k' + 1 → zGd l X 2000000 φ (zPf (zdII T k' j)) Q 130 150 40 zdI_ []) : zGd l X 2000000 φ (zPf (zdIO T k)) Q 130 150 16 zd16 [] := by
  intro ρ ph lv st cst hp g gs
  obtain ⟨g1, g2, g3, g4, g5⟩ := g
  have hp0 := hp
  obtain ⟨ns, hle, n0, n1, n2, n3, n4, n5, rfl, q1, q2, q3⟩ := hp
  have b0 : ρ[0]? = some n0 := hle 0 _ rfl
  have b5 : ρ[5]? = some n5 := hle 5 _ rfl
  have r0 : (1 : Int) ≤ n0 ∧ n0 ≤ 30 := zS_rng g1 (rfl : zd16.1[0]? = some (1, 30, zD0)) b0
  have r5 : (0 : Int) ≤ n5 ∧ n5 ≤ 30 := zS_rng g1 (rfl : zd16.1[5]? = some (0, 30, zD0)) b5
  obtain ⟨x, z, rfl, ex, ez⟩ := zint2 (i := 0) (j := 5) b0 b5 g4
  refine zs_icmp_ge (tgt := 163) zd_d16 (by decide) (fun hc => ?_) (fun hc => ?_)
  · rw [Int32.le_iff_toInt_le] at hc
    have ek : k = 0 := by omega
    subst ek
    exact zd_163 hQ ρ ph lv _ cst ⟨_, hle, congrArg some q3⟩ ⟨g1, g2, g3, trivial, g5⟩ gs
  · rw [Int32.le_iff_toInt_le] at hc
    obtain ⟨k', rfl⟩ : ∃ k', k = k' + 1 := ⟨k - 1, by omega⟩
    exact zd_19 (fun j => hI k' j rfl) ρ ph lv _ cst hp0 ⟨zrf_g (a := (1, 5)) (q := (0, 29)) g1 (zEk (j := 5) b5) (by show 0 ≤ n5; omega) (by show n5 ≤ 29; omega), g2, g3, trivial, g5⟩ gs
theorem zd_O (hQ : zdQ Q T) (k : Nat) : zGd l X 2000000 φ (zPf (zdIO T k)) Q 130 150 13 zdO_ [] := by
  induction k with
  | zero => exact zGd_run (zPf_up _) (znf_ok _) (zOk_no l X _ φ _) (zcut1 (zd_16 hQ (fun k' j h => absurd h (by omega)))) (by decide) zdr_O
  | succ k ih => exact zGd_run (zPf_up _) (znf_ok _) (zOk_no l X _ φ _) (zcut1 (zd_16 hQ (fun k' j h => by
      have : k' = k := by omega
      subst this
      exact zd_I ih j))) (by decide) zdr_O
/-- drawnDays -/
theorem zdC (seed days strokes line : Int) (hT : T = zdO days.toNat strokes.toNat seed line 0) (hQ : zdQ Q T) : zGd l X 2000000 φ (zPf (fun ns => ns = [seed, days, strokes, line])) Q 130 150 0 zdE [] := by
  refine zGd_run (zPf_up _) (znf_ok _) (zOk_no l X _ φ _) (zcut1 ?_) (by decide) zdr_E
  refine zGd_m (XL := 2000000) (XL' := 2000000) (by decide) zdm_e (P0 := fun ρ => ∃ k, zPf (zdIO T k) ρ) (fun ρ hp hS _ => ?_) (zGd_ex (zd_O hQ))
  obtain ⟨ns, hle, rfl⟩ := hp
  have b0 : ρ[0]? = some seed := hle 0 _ rfl
  have b1 : ρ[1]? = some days := hle 1 _ rfl
  have b2 : ρ[2]? = some strokes := hle 2 _ rfl
  have b3 : ρ[3]? = some line := hle 3 _ rfl
  have r1 : (1 : Int) ≤ days ∧ days ≤ 30 := zS_rng hS (rfl : zd13e.1[1]? = some (1, 30, zD0)) b1
  have e := zmap_eq6 (ρ := ρ) (zval_E (a := (1, (.ofNat 1))) rfl (zEk b1)) (zval_E (a := (1, (.ofNat 2))) rfl (zEk b2)) (zval_E (a := (1, (.ofNat 3))) rfl (zEk b3)) (zval_E (a := (0, (.ofNat 0))) rfl (zE0 ρ 0)) (zval_E (a := (1, (.ofNat 0))) rfl (zEk b0)) (zval_E (a := (0, (.ofNat 0))) rfl (zE0 ρ 0))
  rw [e]
  exact ⟨days.toNat, zPf_self ⟨days, strokes, line, 0, seed, 0, rfl, by omega, by omega, hT.symm⟩⟩
end ZD
