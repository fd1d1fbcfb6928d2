/-! PART 25, 0: what a MATTER weighs with nobody there -/
def zHW : zA_H := [(0, 0, 0, [(2, (.ofNat 4)), (2, (.ofNat 8)), (2, (.ofNat 12)), (2, (.ofNat 15)), (2, (.ofNat 18)), (2, (.ofNat 19)), (2, (.ofNat 20)), (2, (.ofNat 25)), (2, (.ofNat 30)), (2, (.ofNat 33))], []),
  (0, 1, 0, [(2, (.ofNat 5)), (2, (.ofNat 6)), (2, (.ofNat 7)), (0, (.ofNat 0)), (0, (.ofNat 9)), (0, (.ofNat 0))], []),
  (1, 0, 24, [(0, (.ofNat 0))], []),
  (1, 0, 8, [(0, (.ofNat 0))], []),
  (1, 0, 8, [(0, (.ofNat 0))], []),
  (0, 2, 0, [(2, (.ofNat 9)), (2, (.ofNat 10)), (2, (.ofNat 11)), (0, (.ofNat 0)), (0, (.ofNat 0))], []),
  (1, 0, 128, [(0, (.ofNat 0))], []),
  (1, 0, 128, [(0, (.ofNat 0))], []),
  (1, 0, 6, [(0, (.ofNat 0))], []),
  (0, 3, 0, [(2, (.ofNat 13)), (2, (.ofNat 14)), (0, (.ofNat 0)), (0, (.ofNat 0)), (0, (.ofNat 0)), (0, (.ofNat 0))], []),
  (1, 0, 120, [(0, (.ofNat 0))], []),
  (1, 0, 128, [(0, (.ofNat 0))], []),
  (0, 4, 0, [(2, (.ofNat 4)), (2, (.ofNat 8)), (2, (.ofNat 16)), (2, (.ofNat 17)), (0, (.ofNat 0)), (0, (.ofNat 0))], []),
  (1, 0, 1536, [(7, (.ofNat 4294967296))], []),
  (1, 0, 70, [(0, (.ofNat 0))], []),
  (0, 5, 0, [(2, (.ofNat 4)), (2, (.ofNat 15)), (0, (.ofNat 0)), (0, (.ofNat 24))], []),
  (0, 6, 0, [(2, (.ofNat 4))], []),
  (0, 7, 0, [(2, (.ofNat 4)), (2, (.ofNat 21)), (0, (.ofNat 0)), (0, (.ofNat 0)), (0, (.ofNat 0)), (2, (.ofNat 22)), (2, (.ofNat 23)), (2, (.ofNat 24))], []),
  (1, 0, 5, [(0, (.ofNat 0))], []),
  (1, 0, 24, [(0, (.ofNat 0))], []),
  (1, 0, 8, [(0, (.ofNat 0))], []),
  (1, 0, 5, [(0, (.ofNat 0))], []),
  (0, 8, 0, [(2, (.ofNat 4)), (2, (.ofNat 26)), (2, (.ofNat 27)), (2, (.ofNat 28)), (2, (.ofNat 29)), (0, (.ofNat 0)), (0, (.ofNat 0))], []),
  (1, 0, 40, [(0, (.ofNat 0))], []),
  (1, 0, 40, [(0, (.ofNat 0))], []),
  (1, 0, 40, [(0, (.ofNat 0))], []),
  (1, 0, 40, [(0, (.ofNat 0))], []),
  (0, 9, 0, [(2, (.ofNat 31)), (2, (.ofNat 32)), (0, (.ofNat 0)), (0, (.ofNat 0))], []),
  (1, 0, 50, [(0, (.ofNat 0))], []),
  (1, 0, 24, [(0, (.ofNat 0))], []),
  (1, 2, 6, [(3, (.ofNat 0))], [(5, (2, (.ofNat 44))), (4, (2, (.ofNat 42))), (3, (2, (.ofNat 40))), (2, (2, (.ofNat 38))), (1, (2, (.ofNat 36))), (0, (2, (.ofNat 34)))]),
  (0, 10, 0, [(2, (.ofNat 35)), (0, (.negSucc 0)), (0, (.negSucc 0)), (0, (.ofNat 0))], []),
  (1, 1, 60, [(4, (.ofNat 0))], []),
  (0, 10, 0, [(2, (.ofNat 37)), (0, (.negSucc 0)), (0, (.negSucc 0)), (0, (.ofNat 0))], []),
  (1, 1, 60, [(4, (.ofNat 0))], []),
  (0, 10, 0, [(2, (.ofNat 39)), (0, (.negSucc 0)), (0, (.negSucc 0)), (0, (.ofNat 0))], []),
  (1, 1, 60, [(4, (.ofNat 0))], []),
  (0, 10, 0, [(2, (.ofNat 41)), (0, (.negSucc 0)), (0, (.negSucc 0)), (0, (.ofNat 0))], []),
  (1, 1, 60, [(4, (.ofNat 0))], []),
  (0, 10, 0, [(2, (.ofNat 43)), (0, (.negSucc 0)), (0, (.negSucc 0)), (0, (.ofNat 0))], []),
  (1, 1, 60, [(4, (.ofNat 0))], []),
  (0, 10, 0, [(2, (.ofNat 45)), (0, (.negSucc 0)), (0, (.negSucc 0)), (0, (.ofNat 0))], []),
  (1, 1, 60, [(4, (.ofNat 0))], []),
  (0, 11, 0, [(2, (.ofNat 47)), (2, (.ofNat 48)), (2, (.ofNat 49)), (2, (.ofNat 50)), (0, (.ofNat 0)), (0, (.ofNat 0)), (0, (.ofNat 0)), (0, (.ofNat 0)), (2, (.ofNat 51)), (0, (.ofNat 0)), (2, (.ofNat 52)), (0, (.negSucc 0)), (0, (.ofNat 0)), (0, (.ofNat 0)), (0, (.ofNat 0)), (0, (.ofNat 0)), (0, (.ofNat 0)), (2, (.ofNat 53)), (2, (.ofNat 54)), (2, (.ofNat 55)), (2, (.ofNat 56)), (2, (.ofNat 57)), (0, (.ofNat 0)), (0, (.ofNat 0)), (0, (.ofNat 0)), (2, (.ofNat 58)), (2, (.ofNat 59)), (2, (.ofNat 60)), (0, (.ofNat 0)), (2, (.ofNat 61)), (2, (.ofNat 62)), (0, (.ofNat 0)), (0, (.ofNat 0)), (0, (.ofNat 0)), (2, (.ofNat 63)), (2, (.ofNat 64)), (2, (.ofNat 65)), (2, (.ofNat 66))], []),
  (1, 0, 41, [(0, (.ofNat 0))], [(40, (0, (.ofNat 9)))]),
  (1, 0, 40, [(0, (.ofNat 0))], []),
  (1, 0, 40, [(0, (.ofNat 0))], []),
  (1, 0, 40, [(0, (.ofNat 0))], []),
  (1, 0, 120, [(0, (.ofNat 0))], []),
  (1, 0, 120, [(0, (.ofNat 0))], []),
  (1, 0, 6, [(0, (.ofNat 0))], []),
  (1, 0, 24, [(0, (.ofNat 0))], []),
  (1, 0, 70, [(0, (.ofNat 0))], []),
  (1, 0, 96, [(0, (.ofNat 0))], []),
  (1, 0, 5, [(0, (.ofNat 0))], []),
  (1, 0, 8, [(0, (.ofNat 0))], []),
  (1, 0, 24, [(0, (.ofNat 0))], []),
  (1, 0, 5, [(0, (.ofNat 0))], []),
  (1, 0, 50, [(0, (.ofNat 0))], []),
  (1, 0, 24, [(0, (.ofNat 0))], []),
  (1, 0, 6, [(0, (.ofNat 0))], [(5, (0, (.negSucc 0))), (4, (0, (.negSucc 0))), (3, (0, (.negSucc 0))), (2, (0, (.negSucc 0))), (1, (0, (.negSucc 0))), (0, (0, (.negSucc 0)))]),
  (1, 0, 6, [(0, (.ofNat 0))], []),
  (1, 1, 360, [(4, (.ofNat 0))], []),
  (1, 1, 60, [(4, (.ofNat 0))], [])]
def zHO : zA_H := [(0, 0, 0, [(2, (.ofNat 4)), (2, (.ofNat 8)), (2, (.ofNat 12)), (2, (.ofNat 15)), (2, (.ofNat 18)), (2, (.ofNat 19)), (2, (.ofNat 20)), (2, (.ofNat 25)), (2, (.ofNat 30)), (2, (.ofNat 33))], []),
  (0, 1, 0, [(2, (.ofNat 5)), (2, (.ofNat 6)), (2, (.ofNat 7)), (0, (.ofNat 0)), (0, (.ofNat 9)), (0, (.ofNat 0))], []),
  (1, 0, 24, [(0, (.ofNat 0))], []),
  (1, 0, 8, [(0, (.ofNat 0))], []),
  (1, 0, 8, [(0, (.ofNat 0))], []),
  (0, 2, 0, [(2, (.ofNat 9)), (2, (.ofNat 10)), (2, (.ofNat 11)), (0, (.ofNat 0)), (0, (.ofNat 0))], []),
  (1, 0, 128, [(0, (.ofNat 0))], []),
  (1, 0, 128, [(0, (.ofNat 0))], []),
  (1, 0, 6, [(0, (.ofNat 0))], []),
  (0, 3, 0, [(2, (.ofNat 13)), (2, (.ofNat 14)), (0, (.ofNat 0)), (0, (.ofNat 0)), (0, (.ofNat 0)), (0, (.ofNat 0))], []),
  (1, 0, 120, [(0, (.ofNat 0))], []),
  (1, 0, 128, [(0, (.ofNat 0))], []),
  (0, 4, 0, [(2, (.ofNat 4)), (2, (.ofNat 8)), (2, (.ofNat 16)), (2, (.ofNat 17)), (0, (.ofNat 0)), (0, (.ofNat 0))], []),
  (8, 13, 0, [], []),
  (1, 0, 70, [(0, (.ofNat 0))], []),
  (0, 5, 0, [(2, (.ofNat 4)), (2, (.ofNat 15)), (0, (.ofNat 0)), (0, (.ofNat 24))], []),
  (0, 6, 0, [(2, (.ofNat 4))], []),
  (0, 7, 0, [(2, (.ofNat 4)), (2, (.ofNat 21)), (0, (.ofNat 0)), (0, (.ofNat 0)), (0, (.ofNat 0)), (2, (.ofNat 22)), (2, (.ofNat 23)), (2, (.ofNat 24))], []),
  (1, 0, 5, [(0, (.ofNat 0))], []),
  (1, 0, 24, [(0, (.ofNat 0))], []),
  (1, 0, 8, [(0, (.ofNat 0))], []),
  (1, 0, 5, [(0, (.ofNat 0))], []),
  (0, 8, 0, [(2, (.ofNat 4)), (2, (.ofNat 26)), (2, (.ofNat 27)), (2, (.ofNat 28)), (2, (.ofNat 29)), (0, (.ofNat 0)), (0, (.ofNat 0))], []),
  (1, 0, 40, [(0, (.ofNat 0))], []),
  (1, 0, 40, [(0, (.ofNat 0))], []),
  (1, 0, 40, [(0, (.ofNat 0))], []),
  (1, 0, 40, [(0, (.ofNat 0))], []),
  (0, 9, 0, [(2, (.ofNat 31)), (2, (.ofNat 32)), (0, (.ofNat 0)), (0, (.ofNat 0))], []),
  (1, 0, 50, [(0, (.ofNat 0))], []),
  (1, 0, 24, [(0, (.ofNat 0))], []),
  (1, 2, 6, [(3, (.ofNat 0))], [(5, (2, (.ofNat 44))), (4, (2, (.ofNat 42))), (3, (2, (.ofNat 40))), (2, (2, (.ofNat 38))), (1, (2, (.ofNat 36))), (0, (2, (.ofNat 34)))]),
  (0, 10, 0, [(2, (.ofNat 35)), (0, (.negSucc 0)), (0, (.negSucc 0)), (0, (.ofNat 0))], []),
  (1, 1, 60, [(4, (.ofNat 0))], []),
  (0, 10, 0, [(2, (.ofNat 37)), (0, (.negSucc 0)), (0, (.negSucc 0)), (0, (.ofNat 0))], []),
  (1, 1, 60, [(4, (.ofNat 0))], []),
  (0, 10, 0, [(2, (.ofNat 39)), (0, (.negSucc 0)), (0, (.negSucc 0)), (0, (.ofNat 0))], []),
  (1, 1, 60, [(4, (.ofNat 0))], []),
  (0, 10, 0, [(2, (.ofNat 41)), (0, (.negSucc 0)), (0, (.negSucc 0)), (0, (.ofNat 0))], []),
  (1, 1, 60, [(4, (.ofNat 0))], []),
  (0, 10, 0, [(2, (.ofNat 43)), (0, (.negSucc 0)), (0, (.negSucc 0)), (0, (.ofNat 0))], []),
  (1, 1, 60, [(4, (.ofNat 0))], []),
  (0, 10, 0, [(2, (.ofNat 45)), (0, (.negSucc 0)), (0, (.negSucc 0)), (0, (.ofNat 0))], []),
  (1, 1, 60, [(4, (.ofNat 0))], []),
  (0, 11, 0, [(2, (.ofNat 47)), (2, (.ofNat 48)), (2, (.ofNat 49)), (2, (.ofNat 50)), (0, (.ofNat 0)), (0, (.ofNat 0)), (0, (.ofNat 0)), (0, (.ofNat 0)), (2, (.ofNat 51)), (0, (.ofNat 0)), (2, (.ofNat 52)), (0, (.negSucc 0)), (0, (.ofNat 0)), (0, (.ofNat 0)), (0, (.ofNat 0)), (0, (.ofNat 0)), (0, (.ofNat 0)), (2, (.ofNat 53)), (2, (.ofNat 54)), (2, (.ofNat 55)), (2, (.ofNat 56)), (2, (.ofNat 57)), (0, (.ofNat 0)), (0, (.ofNat 0)), (0, (.ofNat 0)), (2, (.ofNat 58)), (2, (.ofNat 59)), (2, (.ofNat 60)), (0, (.ofNat 0)), (2, (.ofNat 61)), (2, (.ofNat 62)), (0, (.ofNat 0)), (0, (.ofNat 0)), (0, (.ofNat 0)), (2, (.ofNat 63)), (2, (.ofNat 64)), (2, (.ofNat 65)), (2, (.ofNat 66))], []),
  (1, 0, 41, [(0, (.ofNat 0))], [(40, (0, (.ofNat 9)))]),
  (1, 0, 40, [(0, (.ofNat 0))], []),
  (1, 0, 40, [(0, (.ofNat 0))], []),
  (1, 0, 40, [(0, (.ofNat 0))], []),
  (1, 0, 120, [(0, (.ofNat 0))], []),
  (1, 0, 120, [(0, (.ofNat 0))], []),
  (1, 0, 6, [(0, (.ofNat 0))], []),
  (1, 0, 24, [(0, (.ofNat 0))], []),
  (1, 0, 70, [(0, (.ofNat 0))], []),
  (1, 0, 96, [(0, (.ofNat 0))], []),
  (1, 0, 5, [(0, (.ofNat 0))], []),
  (1, 0, 8, [(0, (.ofNat 0))], []),
  (1, 0, 24, [(0, (.ofNat 0))], []),
  (1, 0, 5, [(0, (.ofNat 0))], []),
  (1, 0, 50, [(0, (.ofNat 0))], []),
  (1, 0, 24, [(0, (.ofNat 0))], []),
  (1, 0, 6, [(0, (.ofNat 0))], [(5, (0, (.negSucc 0))), (4, (0, (.negSucc 0))), (3, (0, (.negSucc 0))), (2, (0, (.negSucc 0))), (1, (0, (.negSucc 0))), (0, (0, (.negSucc 0)))]),
  (1, 0, 6, [(0, (.ofNat 0))], []),
  (1, 1, 360, [(4, (.ofNat 0))], []),
  (1, 1, 60, [(4, (.ofNat 0))], [])]
def zW13 : zA_C := (1, 0, 1536, [(7, (.ofNat 4294967296))], [])
def zom_A : zA_T := ([((.ofNat 0), (.ofNat 16777215), zD0), ((.ofNat 0), (.ofNat 16777215), zD0), ((.ofNat 0), (.ofNat 5), zD0), ((.ofNat 0), (.ofNat 1280), (12, (0, (.ofNat 256)), (1, (.ofNat 2)))), ((.ofNat 0), (.ofNat 20), (12, (0, (.ofNat 4)), (1, (.ofNat 2)))), ((.ofNat 0), (.ofNat 16777215), (17, (1, (.ofNat 0)), (1, (.ofNat 4)))), ((.ofNat 0), (.ofNat 15), (13, (1, (.ofNat 5)), (0, (.ofNat 15)))), ((.ofNat 0), (.ofNat 240), (12, (0, (.ofNat 16)), (1, (.ofNat 6)))), ((.ofNat 0), (.ofNat 1520), (10, (1, (.ofNat 3)), (1, (.ofNat 7)))), ((.ofNat 0), (.ofNat 16777215), (13, (1, (.ofNat 0)), (1, (.ofNat 1)))), ((.ofNat 0), (.ofNat 16777215), (17, (1, (.ofNat 9)), (1, (.ofNat 4)))), ((.ofNat 0), (.ofNat 15), (13, (1, (.ofNat 10)), (0, (.ofNat 15)))), ((.ofNat 0), (.ofNat 1535), (10, (1, (.ofNat 8)), (1, (.ofNat 11))))], zHO, [(4, (1, (.ofNat 12))), (0, (2, (.ofNat 15))), (1, (1, (.ofNat 2))), (2, (1, (.ofNat 0))), (3, (1, (.ofNat 1)))], [(1, (.ofNat 12)), (2, (.ofNat 16))], 0, 0)
def zom_B : zA_T := ([((.ofNat 0), (.ofNat 16777215), zD0), ((.ofNat 0), (.ofNat 16777215), zD0), ((.ofNat 0), (.ofNat 5), zD0), ((.ofNat 0), (.ofNat 1280), (12, (0, (.ofNat 256)), (1, (.ofNat 2)))), ((.ofNat 0), (.ofNat 20), (12, (0, (.ofNat 4)), (1, (.ofNat 2)))), ((.ofNat 0), (.ofNat 16777215), (17, (1, (.ofNat 0)), (1, (.ofNat 4)))), ((.ofNat 0), (.ofNat 15), (13, (1, (.ofNat 5)), (0, (.ofNat 15)))), ((.ofNat 0), (.ofNat 240), (12, (0, (.ofNat 16)), (1, (.ofNat 6)))), ((.ofNat 0), (.ofNat 1520), (10, (1, (.ofNat 3)), (1, (.ofNat 7)))), ((.ofNat 0), (.ofNat 16777215), (13, (1, (.ofNat 0)), (1, (.ofNat 1)))), ((.ofNat 0), (.ofNat 16777215), (17, (1, (.ofNat 9)), (1, (.ofNat 4)))), ((.ofNat 0), (.ofNat 15), (13, (1, (.ofNat 10)), (0, (.ofNat 15)))), ((.ofNat 0), (.ofNat 1535), (10, (1, (.ofNat 8)), (1, (.ofNat 11))))], zHO, [(4, (1, (.ofNat 12))), (0, (2, (.ofNat 15))), (1, (1, (.ofNat 2))), (2, (1, (.ofNat 0))), (3, (1, (.ofNat 1)))], [(0, (.negSucc 1999999999))], 0, 0)
def zom_C : zA_T := ([((.ofNat 0), (.ofNat 16777215), zD0), ((.ofNat 0), (.ofNat 16777215), zD0), ((.ofNat 0), (.ofNat 5), zD0), ((.ofNat 0), (.ofNat 1280), (12, (0, (.ofNat 256)), (1, (.ofNat 2)))), ((.ofNat 0), (.ofNat 20), (12, (0, (.ofNat 4)), (1, (.ofNat 2)))), ((.ofNat 0), (.ofNat 16777215), (17, (1, (.ofNat 0)), (1, (.ofNat 4)))), ((.ofNat 0), (.ofNat 15), (13, (1, (.ofNat 5)), (0, (.ofNat 15)))), ((.ofNat 0), (.ofNat 240), (12, (0, (.ofNat 16)), (1, (.ofNat 6)))), ((.ofNat 0), (.ofNat 1520), (10, (1, (.ofNat 3)), (1, (.ofNat 7)))), ((.ofNat 0), (.ofNat 16777215), (13, (1, (.ofNat 0)), (1, (.ofNat 1)))), ((.ofNat 0), (.ofNat 16777215), (17, (1, (.ofNat 9)), (1, (.ofNat 4)))), ((.ofNat 0), (.ofNat 15), (13, (1, (.ofNat 10)), (0, (.ofNat 15)))), ((.ofNat 0), (.ofNat 1535), (10, (1, (.ofNat 8)), (1, (.ofNat 11))))], zHO, [(4, (1, (.ofNat 12))), (0, (2, (.ofNat 15))), (1, (1, (.ofNat 2))), (2, (1, (.ofNat 0))), (3, (1, (.ofNat 1)))], [(0, (.ofNat 0)), (1, (.ofNat 12)), (2, (.ofNat 16))], 0, 0)
def zom_D : zA_T := ([((.ofNat 0), (.ofNat 16777215), zD0), ((.ofNat 0), (.ofNat 16777215), zD0), ((.ofNat 0), (.ofNat 5), zD0), ((.ofNat 0), (.ofNat 1280), (12, (0, (.ofNat 256)), (1, (.ofNat 2)))), ((.ofNat 0), (.ofNat 20), (12, (0, (.ofNat 4)), (1, (.ofNat 2)))), ((.ofNat 0), (.ofNat 16777215), (17, (1, (.ofNat 0)), (1, (.ofNat 4)))), ((.ofNat 0), (.ofNat 15), (13, (1, (.ofNat 5)), (0, (.ofNat 15)))), ((.ofNat 0), (.ofNat 240), (12, (0, (.ofNat 16)), (1, (.ofNat 6)))), ((.ofNat 0), (.ofNat 1520), (10, (1, (.ofNat 3)), (1, (.ofNat 7)))), ((.ofNat 0), (.ofNat 16777215), (13, (1, (.ofNat 0)), (1, (.ofNat 1)))), ((.ofNat 0), (.ofNat 16777215), (17, (1, (.ofNat 9)), (1, (.ofNat 4)))), ((.ofNat 0), (.ofNat 15), (13, (1, (.ofNat 10)), (0, (.ofNat 15)))), ((.ofNat 0), (.ofNat 1535), (10, (1, (.ofNat 8)), (1, (.ofNat 11))))], zHO, [(4, (1, (.ofNat 12))), (0, (2, (.ofNat 15))), (1, (1, (.ofNat 2))), (2, (1, (.ofNat 0))), (3, (1, (.ofNat 1)))], [], 0, 0)
def zom_E : zA_T := ([((.ofNat 0), (.ofNat 16777215), zD0), ((.ofNat 0), (.ofNat 16777215), zD0), ((.ofNat 0), (.ofNat 5), zD0), ((.ofNat 0), (.ofNat 1280), (12, (0, (.ofNat 256)), (1, (.ofNat 2)))), ((.ofNat 0), (.ofNat 20), (12, (0, (.ofNat 4)), (1, (.ofNat 2)))), ((.ofNat 0), (.ofNat 16777215), (17, (1, (.ofNat 0)), (1, (.ofNat 4)))), ((.ofNat 0), (.ofNat 15), (13, (1, (.ofNat 5)), (0, (.ofNat 15)))), ((.ofNat 0), (.ofNat 240), (12, (0, (.ofNat 16)), (1, (.ofNat 6)))), ((.ofNat 0), (.ofNat 1520), (10, (1, (.ofNat 3)), (1, (.ofNat 7)))), ((.ofNat 0), (.ofNat 16777215), (13, (1, (.ofNat 0)), (1, (.ofNat 1)))), ((.ofNat 0), (.ofNat 16777215), (17, (1, (.ofNat 9)), (1, (.ofNat 4)))), ((.ofNat 0), (.ofNat 15), (13, (1, (.ofNat 10)), (0, (.ofNat 15)))), ((.ofNat 0), (.ofNat 1535), (10, (1, (.ofNat 8)), (1, (.ofNat 11))))], zHO, [(4, (1, (.ofNat 12))), (0, (2, (.ofNat 15))), (1, (1, (.ofNat 2))), (2, (1, (.ofNat 0))), (3, (1, (.ofNat 1)))], [(1, (.ofNat 12)), (2, (.ofNat 16))], 0, 0)
def zom_F : zA_T := ([((.ofNat 0), (.ofNat 16777215), zD0), ((.ofNat 0), (.ofNat 16777215), zD0), ((.ofNat 0), (.ofNat 5), zD0), ((.ofNat 0), (.ofNat 1280), (12, (0, (.ofNat 256)), (1, (.ofNat 2)))), ((.ofNat 0), (.ofNat 20), (12, (0, (.ofNat 4)), (1, (.ofNat 2)))), ((.ofNat 0), (.ofNat 16777215), (17, (1, (.ofNat 0)), (1, (.ofNat 4)))), ((.ofNat 0), (.ofNat 15), (13, (1, (.ofNat 5)), (0, (.ofNat 15)))), ((.ofNat 0), (.ofNat 240), (12, (0, (.ofNat 16)), (1, (.ofNat 6)))), ((.ofNat 0), (.ofNat 1520), (10, (1, (.ofNat 3)), (1, (.ofNat 7)))), ((.ofNat 0), (.ofNat 16777215), (13, (1, (.ofNat 0)), (1, (.ofNat 1)))), ((.ofNat 0), (.ofNat 16777215), (17, (1, (.ofNat 9)), (1, (.ofNat 4)))), ((.ofNat 0), (.ofNat 15), (13, (1, (.ofNat 10)), (0, (.ofNat 15)))), ((.ofNat 0), (.ofNat 1535), (10, (1, (.ofNat 8)), (1, (.ofNat 11))))], zHO, [(4, (1, (.ofNat 12))), (0, (2, (.ofNat 15))), (1, (1, (.ofNat 2))), (2, (1, (.ofNat 0))), (3, (1, (.ofNat 1)))], [(0, (.ofNat 0))], 0, 0)
def zom_Z : zA_T := ([((.ofNat 0), (.ofNat 16777215), zD0), ((.ofNat 0), (.ofNat 16777215), zD0), ((.ofNat 0), (.ofNat 5), zD0)], zHO, [(0, (2, (.ofNat 15))), (1, (1, (.ofNat 2))), (2, (1, (.ofNat 0))), (3, (1, (.ofNat 1)))], [], 0, 0)
def zom_Y : zA_T := ([((.ofNat 0), (.ofNat 16777215), zD0), ((.ofNat 0), (.ofNat 16777215), zD0), ((.ofNat 0), (.ofNat 5), zD0), ((.ofNat 0), (.ofNat 1280), (12, (0, (.ofNat 256)), (1, (.ofNat 2)))), ((.ofNat 0), (.ofNat 20), (12, (0, (.ofNat 4)), (1, (.ofNat 2)))), ((.ofNat 0), (.ofNat 16777215), (17, (1, (.ofNat 0)), (1, (.ofNat 4)))), ((.ofNat 0), (.ofNat 15), (13, (1, (.ofNat 5)), (0, (.ofNat 15)))), ((.ofNat 0), (.ofNat 240), (12, (0, (.ofNat 16)), (1, (.ofNat 6)))), ((.ofNat 0), (.ofNat 1520), (10, (1, (.ofNat 3)), (1, (.ofNat 7)))), ((.ofNat 0), (.ofNat 16777215), (13, (1, (.ofNat 0)), (1, (.ofNat 1)))), ((.ofNat 0), (.ofNat 16777215), (17, (1, (.ofNat 9)), (1, (.ofNat 4)))), ((.ofNat 0), (.ofNat 15), (13, (1, (.ofNat 10)), (0, (.ofNat 15)))), ((.ofNat 0), (.ofNat 1535), (10, (1, (.ofNat 8)), (1, (.ofNat 11))))], zHO, [(4, (1, (.ofNat 12))), (0, (2, (.ofNat 15))), (1, (1, (.ofNat 2))), (2, (1, (.ofNat 0))), (3, (1, (.ofNat 1)))], [(0, (.ofNat 0))], 0, 0)
theorem zHO_set : zHO.set 13 zW13 = zHW := by decide +kernel
theorem zHO_set2 : zHW.set 13 (8, 13, 0, [], []) = zHO := by decide +kernel
theorem zHO_at : zHO[13]? = some (8, 13, 0, [], []) := by decide +kernel
theorem zHW_at : zHW[13]? = some zW13 := by decide +kernel
theorem zHW_cn : zHW.all zcnC = true := by decide +kernel
def zno8 (a : zA_C) : Bool := !(a.1 == 8)
theorem zPhi {φ φ' : List z_C} {ρ : List Int} : ∀ {H : zA_H} {ph : List z_C}, H.all zno8 = true → zL2 (zg_C φ ρ) H ph → zL2 (zg_C φ' ρ) H ph
  | [], [], _, _ => trivial
  | a :: as, c :: cs, h, g => by
    simp only [List.all_cons, Bool.and_eq_true] at h
    refine ⟨?_, zPhi h.2 g.2⟩
    have h8 : a.1 ≠ 8 := by simpa [zno8] using h.1
    rcases g.1 with ⟨g1, -⟩ | g1
    · exact absurd g1 h8
    · exact Or.inr g1
  | [], _ :: _, _, g => g.elim
  | _ :: _, [], _, g => g.elim
theorem zHW_8 : zHW.all zno8 = true := by decide +kernel
/-- the heap while what was weighed is looked at: all else as it was -/
theorem zHO_of {φ : List z_C} {ρ : List Int} {ph : List z_C} (g : zL2 (zg_C φ ρ) zHW ph) : ∃ f : Nat → Int32, ph[13]? = some (.inl (0, 1536, z_I f)) ∧ (∀ j, j < 1536 → f j = -2000000000 ∨ f j = 0) ∧ zL2 (zg_C ph ρ) zHO ph := by
  obtain ⟨c, hc, gc⟩ := zL2.get g zHW_at
  obtain ⟨f, rfl, gf⟩ := zg_CI (a := zW13) rfl rfl gc
  refine ⟨f, hc, fun j hj => ?_, ?_⟩
  · have := gf j hj
    rcases this with ⟨h, -⟩ | ⟨h, -⟩ | ⟨h, -⟩ | ⟨h, -⟩ | ⟨h, -⟩ | ⟨h, -⟩ | ⟨-, h⟩
    all_goals first | exact absurd h (by decide) | skip
    rcases h with ⟨x, e, q, hq, h1, h2⟩ | ⟨h, -⟩ | ⟨h, -⟩
    · cases e
      have hq2 : q ∈ [((-2000000000 : Int), (-2000000000 : Int)), ((0 : Int), (0 : Int))] := hq
      rcases List.mem_cons.mp hq2 with rfl | hq2
      · exact Or.inl (Int32.toInt_inj.mp (show (f j).toInt = (-2000000000 : Int32).toInt from by have e : (-2000000000 : Int32).toInt = -2000000000 := by decide
                                                                                                 omega))
      · rw [List.mem_singleton] at hq2
        subst hq2
        exact Or.inr (Int32.toInt_inj.mp (show (f j).toInt = (0 : Int32).toInt from by have e : (0 : Int32).toInt = 0 := by decide
                                                                                       omega))
    · exact absurd h (by decide)
    · exact absurd h (by decide)
  · have g2 := zPhi (φ' := ph) zHW_8 g
    have g3 := zL2.setL (a := ((8, 13, 0, [], []) : zA_C)) 13 g2 (fun b hb => Or.inl ⟨rfl, hb⟩)
    rw [zHO_set2] at g3
    exact g3
theorem zHW_of {φ : List z_C} {ρ : List Int} {ph : List z_C} {f : Nat → Int32} (h13 : φ[13]? = some (.inl (0, 1536, z_I f))) (hf : ∀ j, j < 1536 → f j = -2000000000 ∨ f j = 0) (g : zL2 (zg_C φ ρ) zHO ph) (φ' : List z_C) (ρ' : List Int) : zL2 (zg_C φ' ρ') zHW ph := by
  obtain ⟨c, hc, gc⟩ := zL2.get g zHO_at
  have ec : φ[13]? = some c := by
    rcases gc with ⟨-, gc⟩ | ⟨h, -⟩ | ⟨h, -⟩ | ⟨h, -⟩ | ⟨h, -⟩
    · exact gc
    all_goals exact absurd h (by decide)
  rw [h13] at ec
  cases ec
  have g3 := zL2.setL (a := zW13) 13 g (fun b hb => by
    rw [hc] at hb
    cases hb
    refine Or.inr (Or.inr (Or.inl ⟨rfl, rfl, f, rfl, fun j hj => ?_⟩))
    refine Or.inr (Or.inr (Or.inr (Or.inr (Or.inr (Or.inr ⟨by decide, Or.inl ⟨f j, rfl, ?_⟩⟩)))))
    rcases hf j hj with e | e
    · exact ⟨(-2000000000, -2000000000), List.mem_cons_self, by rw [e]; decide, by rw [e]; decide⟩
    · exact ⟨(0, 0), List.mem_cons_of_mem _ List.mem_cons_self, by rw [e]; decide, by rw [e]; decide⟩)
  rw [zHO_set] at g3
  exact zcnH_g zHW_cn (zPhi zHW_8 g3)
/-- the end that is wanted: 0, and the heap as it was -/
def zom_Q (Q : Option Value → List z_C → Prop) : Prop := ∀ ph', zL2 (zg_C [] []) zHW ph' → Q (some (.int 0)) ph'
/-- the place is 0 in f -/
def zom_P (f : Nat → Int32) (ρ : List Int) : Prop := ∃ n : Int, ρ[12]? = some n ∧ f n.toNat = 0
theorem zom_Pup (f : Nat → Int32) : ∀ ρ ρ' : List Int, zLE ρ ρ' → zom_P f ρ → zom_P f ρ' := fun _ _ h ⟨n, h1, h2⟩ => ⟨n, h _ _ h1, h2⟩
theorem zg_R0 {ρ : List Int} {v : Option Value} (g : zg_R ρ (some (0, 0)) v) : v = some (.int 0) := by
  cases v with
  | none => exact g.elim
  | some u =>
    obtain ⟨x, rfl, ex⟩ := zg_int (a := (0, 0)) rfl g
    have hx : x.toInt = 0 := by rcases ex with ⟨-, e⟩ | ⟨e, -⟩; exact e; exact absurd e (by decide)
    rw [Int32.toInt_inj.mp (show x.toInt = (0 : Int32).toInt from hx)]
section ZM
variable {l : Launch} {X : zx_X} {φ : List z_C} {Q : Option Value → List z_C → Prop} {f : Nat → Int32}
theorem zom_fin (hQ : zom_Q Q) (h13 : φ[13]? = some (.inl (0, 1536, z_I f))) (hf : ∀ j, j < 1536 → f j = -2000000000 ∨ f j = 0) (P : List Int → Prop) : zFn φ P Q (zfinR zHO (some (0, 0))) := by
  intro t r h ρ ph v _ gS gH gR
  obtain ⟨h1, h2⟩ := zw_and h
  have e1 := zHeq_eq h1
  have e2 := of_decide_eq_true h2
  subst e2
  rw [e1] at gH
  rw [zg_R0 gR]
  exact hQ ph (zHW_of h13 hf gH _ _)
set_option maxRecDepth 100000 in
theorem zom_r51 : zx1 2000000 (zfinR zHO (some (0, 0))) zno zon 4000 55 100 51 zom_Y [] = true := by decide +kernel
theorem zom_51 (hQ : zom_Q Q) (h13 : φ[13]? = some (.inl (0, 1536, z_I f))) (hf : ∀ j, j < 1536 → f j = -2000000000 ∨ f j = 0) : zGd l X 2000000 φ (zom_P f) Q 55 100 51 zom_Y [] :=
  zGd_run (zom_Pup f) (zom_fin hQ h13 hf _) (zOk_no l X _ φ _) (zCt_no l X _ φ _ Q) (by decide) zom_r51
theorem zom_d50 : decode (zm 55).2.1 50 = .ok (.iaload, 1) := by decide +kernel
theorem zom_d14 : decode (zm 55).2.1 14 = .ok (.iaload, 1) := by decide +kernel
theorem zom_d43 : decode (zm 55).2.1 43 = .ok (.iastore, 1) := by decide +kernel
theorem zom_st {ρ : List Int} {st : List Value} (g : zL2 (zg_V ρ) [(1, .ofNat 12), (2, .ofNat 16)] st) : ∃ x : Int32, st = [.int x, .ref (13 + 3)] ∧ ρ[12]? = some x.toInt := by
  obtain ⟨v, st1, rfl, gv, gr⟩ := zL2.cons1 g
  obtain ⟨w, st2, rfl, gw, gn⟩ := zL2.cons1 gr
  cases st2 with
  | cons a b => exact gn.elim
  | nil =>
    obtain ⟨x, rfl, ex⟩ := zg_int (a := (1, .ofNat 12)) rfl gv
    have e2 := zg_ref (a := (2, .ofNat 16)) rfl gw
    subst e2
    refine ⟨x, rfl, ?_⟩
    rcases ex with ⟨e, -⟩ | ⟨-, e⟩
    · exact absurd e (by decide)
    · exact e
theorem zom_ph {ρ : List Int} {ph : List z_C} (g : zL2 (zg_C φ ρ) zHO ph) (h13 : φ[13]? = some (.inl (0, 1536, z_I f))) : ph[13]? = some (.inl (0, 1536, z_I f)) := by
  obtain ⟨c, hc, gc⟩ := zL2.get g zHO_at
  rcases gc with ⟨-, gc⟩ | ⟨h, -⟩ | ⟨h, -⟩ | ⟨h, -⟩ | ⟨h, -⟩
  · have gc : φ[13]? = some c := gc
    rw [h13] at gc
    cases gc
    exact hc
  all_goals exact absurd h (by decide)
theorem zom_50 (hQ : zom_Q Q) (h13 : φ[13]? = some (.inl (0, 1536, z_I f))) (hf : ∀ j, j < 1536 → f j = -2000000000 ∨ f j = 0) : zGd l X 2000000 φ (zom_P f) Q 55 100 50 zom_E [] := by
  intro ρ ph lv st cst hp g gs
  obtain ⟨g1, g2, g3, g4, g5⟩ := g
  obtain ⟨x, rfl, ex⟩ := zom_st g4
  obtain ⟨n, hn, h0⟩ := hp
  rw [ex] at hn
  cases hn
  have hb := zS_rng g1 (rfl : zom_E.1[12]? = some (0, 1535, (10, (1, .ofNat 8), (1, .ofNat 11)))) ex
  refine zs_iaload zom_d50 (zom_ph g2 h13) (vp_in_iff.mpr ⟨hb.1, by omega⟩) ?_
  have e : f x.toNatClampNeg = 0 := h0
  rw [e]
  exact zom_51 hQ h13 hf ρ ph lv _ cst ⟨_, ex, h0⟩ ⟨g1, g2, g3, ⟨zg_ofI (by decide), trivial⟩, g5⟩ gs
set_option maxRecDepth 100000 in
theorem zom_r44 : zx1 2000000 znf (zcuts 55 100 50 [zom_E]) zon 4000 55 100 44 zom_D [] = true := by decide +kernel
set_option maxRecDepth 100000 in
theorem zom_rF : zx1 2000000 znf (zcuts 55 100 50 [zom_E]) zon 4000 55 100 15 zom_F [] = true := by decide +kernel
set_option maxRecDepth 100000 in
theorem zom_rB : zx1 2000000 znf (zcuts 55 100 43 [zom_C]) zon 4000 55 100 15 zom_B [] = true := by decide +kernel
set_option maxRecDepth 100000 in
theorem zom_rZ : zx1 2000000 znf (zcuts 55 100 14 [zom_A]) zon 4000 55 100 0 zom_Z [] = true := by decide +kernel
theorem zcut1 {XL : Nat} {P : List Int → Prop} {m0 d0 pc0 : Nat} {t0 : zA_T} (h : zGd l X XL φ P Q m0 d0 pc0 t0 []) : ∀ (m d pc : Nat) (t : zA_T) (stk : List zA_F), zcuts m0 d0 pc0 [t0] m d pc t stk = true → zGd l X XL φ P Q m d pc t stk :=
  zcuts_g (fun t ht => by rw [List.mem_singleton] at ht; subst ht; exact h)
theorem zom_44 (hQ : zom_Q Q) (h13 : φ[13]? = some (.inl (0, 1536, z_I f))) (hf : ∀ j, j < 1536 → f j = -2000000000 ∨ f j = 0) : zGd l X 2000000 φ (zom_P f) Q 55 100 44 zom_D [] :=
  zGd_run (zom_Pup f) (znf_ok _) (zOk_no l X _ φ _) (zcut1 (zom_50 hQ h13 hf)) (by decide) zom_r44
theorem zom_15z (hQ : zom_Q Q) (h13 : φ[13]? = some (.inl (0, 1536, z_I f))) (hf : ∀ j, j < 1536 → f j = -2000000000 ∨ f j = 0) : zGd l X 2000000 φ (zom_P f) Q 55 100 15 zom_F [] :=
  zGd_run (zom_Pup f) (znf_ok _) (zOk_no l X _ φ _) (zcut1 (zom_50 hQ h13 hf)) (by decide) zom_rF
theorem zom_43 (hQ : zom_Q Q) (h13 : φ[13]? = some (.inl (0, 1536, z_I f))) (hf : ∀ j, j < 1536 → f j = -2000000000 ∨ f j = 0) : zGd l X 2000000 φ zPt Q 55 100 43 zom_C [] := by
  intro ρ ph lv st cst _ g gs
  obtain ⟨g1, g2, g3, g4, g5⟩ := g
  obtain ⟨v, st1, rfl, gv, gr⟩ := zL2.cons1 g4
  obtain ⟨x, rfl, ex⟩ := zom_st gr
  have ev := zg_R0 (v := some v) gv
  cases ev
  have hb := zS_rng g1 (rfl : zom_C.1[12]? = some (0, 1535, (10, (1, .ofNat 8), (1, .ofNat 11)))) ex
  refine zs_iastore zom_d43 (zom_ph g2 h13) (vp_in_iff.mpr ⟨hb.1, by omega⟩) ?_
  generalize hph' : ph.set 13 (.inl (0, 1536, z_I (upd f x.toNatClampNeg 0))) = ph'
  have hf' : ∀ j, j < 1536 → upd f x.toNatClampNeg 0 j = -2000000000 ∨ upd f x.toNatClampNeg 0 j = 0 := by
    intro j hj
    simp only [upd]
    split
    · exact Or.inr rfl
    · exact hf j hj
  have hl : 13 < ph.length := by
    have := zom_ph g2 h13
    exact (List.getElem?_eq_some_iff.mp this).1
  have h13' : ph'[13]? = some (.inl (0, 1536, z_I (upd f x.toNatClampNeg 0))) := by
    rw [← hph', List.getElem?_set_self hl]
  have gW := zHW_of h13 hf g2 [] ρ
  have gO : zL2 (zg_C ph' ρ) zHO ph' := by
    have u1 := zL2.set (a := ((8, 13, 0, [], []) : zA_C)) (b := .inl (0, 1536, z_I (upd f x.toNatClampNeg 0))) (R := zg_C ph' ρ) (Or.inl ⟨rfl, h13'⟩) 13 (zPhi (φ' := ph') zHW_8 gW)
    rw [zHO_set2, hph'] at u1
    exact u1
  refine zom_44 (φ := ph') hQ h13' hf' ρ ph' lv [] cst ⟨_, ex, ?_⟩ ⟨g1, gO, g3, trivial, g5⟩ gs
  show upd f x.toNatClampNeg 0 x.toNatClampNeg = 0
  simp [upd]
theorem zom_15v (hQ : zom_Q Q) (h13 : φ[13]? = some (.inl (0, 1536, z_I f))) (hf : ∀ j, j < 1536 → f j = -2000000000 ∨ f j = 0) : zGd l X 2000000 φ zPt Q 55 100 15 zom_B [] :=
  zGd_run (fun _ _ _ h => h) (znf_ok _) (zOk_no l X _ φ _) (zcut1 (zom_43 hQ h13 hf)) (by decide) zom_rB
theorem zom_14 (hQ : zom_Q Q) (h13 : φ[13]? = some (.inl (0, 1536, z_I f))) (hf : ∀ j, j < 1536 → f j = -2000000000 ∨ f j = 0) : zGd l X 2000000 φ zPt Q 55 100 14 zom_A [] := by
  intro ρ ph lv st cst _ g gs
  obtain ⟨g1, g2, g3, g4, g5⟩ := g
  obtain ⟨x, rfl, ex⟩ := zom_st g4
  have hb := zS_rng g1 (rfl : zom_A.1[12]? = some (0, 1535, (10, (1, .ofNat 8), (1, .ofNat 11)))) ex
  refine zs_iaload zom_d14 (zom_ph g2 h13) (vp_in_iff.mpr ⟨hb.1, by omega⟩) ?_
  have hl : x.toNatClampNeg < 1536 := by show x.toInt.toNat < 1536; omega
  rcases hf _ hl with e | e
  · rw [e]
    exact zom_15v hQ h13 hf ρ ph lv _ cst trivial ⟨g1, g2, g3, ⟨zg_ofI (by decide), trivial⟩, g5⟩ gs
  · rw [e]
    exact zom_15z hQ h13 hf ρ ph lv _ cst ⟨_, ex, e⟩ ⟨g1, g2, g3, ⟨zg_ofI (by decide), trivial⟩, g5⟩ gs
theorem zom_0 (hQ : zom_Q Q) (h13 : φ[13]? = some (.inl (0, 1536, z_I f))) (hf : ∀ j, j < 1536 → f j = -2000000000 ∨ f j = 0) : zGd l X 2000000 φ zPt Q 55 100 0 zom_Z [] :=
  zGd_run (fun _ _ _ h => h) (znf_ok _) (zOk_no l X _ φ _) (zcut1 (zom_14 hQ h13 hf)) (by decide) zom_rZ
/-- onMatter: 0 -/
theorem zOM (hQ : zom_Q Q) {ρ : List Int} {ph : List z_C} {lv : List (Nat × Value)} (g1 : zg_S ρ zom_Z.1) (g2 : zL2 (zg_C φ ρ) zHW ph) (g3 : zg_L ρ zom_Z.2.2.1 lv) : ZW l 100 (zm 55) X (zmc 55).1 (zmc 55).2 Q 0 lv [] ph 0 0 := by
  obtain ⟨f, h13, hf, gO⟩ := zHO_of g2
  exact zom_0 (l := l) (X := X) (φ := ph) hQ h13 hf ρ ph lv [] [] trivial ⟨g1, gO, g3, trivial, fun hx => absurd hx (by decide)⟩ trivial
end ZM
def zorcOM (m d : Nat) (t : zA_T) : Option (List zR_) := if m = 55 then (match t.2.2.1 with
  | [(0, k), (1, a), (2, b), (3, c)] => if 100 ≤ d ∧ k = (2, .ofNat 15) ∧ zinb t.1 a 0 5 = true ∧ zinb t.1 b 0 16777215 = true ∧ zinb t.1 c 0 16777215 = true ∧ t.2.2.2.2 = (0, 0) ∧ zHeq t.2.1 zHW = true then some [(t.1, zHW, some (0, 0))] else none
  | _ => none) else none
theorem zL2.nil1 {α β : Type} {R : α → β → Prop} {bs : List β} (h : zL2 R [] bs) : bs = [] := by
  cases bs with
  | nil => rfl
  | cons a b => exact h.elim
theorem zg_Xnil {ρ : List Int} {X : zx_X} : zg_X ρ 2000000 X := fun h => absurd h (by decide)
theorem zOk_OM (l : Launch) (X : zx_X) (φ : List z_C) (P : List Int → Prop) : zOk l X 2000000 φ P zorcOM := by
  intro m d t rs h ρ ph lv _ g Q hQ
  obtain ⟨S, H, L, s0, cn⟩ := t
  obtain ⟨g1, g2, g3, g4, g5⟩ := g
  unfold zorcOM at h
  split at h
  · next hm =>
    subst hm
    dsimp only at h g1 g2 g3
    split at h
    · next _ k a b c =>
      split at h
      · next hc =>
        obtain ⟨c1, c2, c3, c4, c5, c10, c11⟩ := hc
        cases h
        subst c2
        have c11 := zHeq_eq c11
        subst c11
        subst c10
        obtain ⟨q0, lv1, rfl, ⟨k0, gk⟩, g3⟩ := zL2.cons1 g3
        obtain ⟨q1, lv2, rfl, ⟨k1, ga⟩, g3⟩ := zL2.cons1 g3
        obtain ⟨q2, lv3, rfl, ⟨k2, gb⟩, g3⟩ := zL2.cons1 g3
        obtain ⟨q3, lv4, rfl, ⟨k3, gc⟩, g3⟩ := zL2.cons1 g3
        have g3 := zL2.nil1 g3
        subst g3
        obtain ⟨x, ex, x1, x2⟩ := zinb_g g1 ga c3
        obtain ⟨y, ey, y1, y2⟩ := zinb_g g1 gb c4
        obtain ⟨z, ez, z1, z2⟩ := zinb_g g1 gc c5
        refine ZW.deeper c1 (zOM (l := l) (X := X) (φ := φ) (ρ := [y.toInt, z.toInt, x.toInt]) (fun ph' hp => hQ _ (List.mem_singleton.mpr rfl) ρ _ ph' (zLE.refl ρ) g1 (zcnH_g zHW_cn (zPhi zHW_8 hp)) (zg_ofI (by decide))) ⟨⟨y1, y2, Or.inl rfl⟩, ⟨z1, z2, Or.inl rfl⟩, ⟨x1, x2, Or.inl rfl⟩, trivial⟩ (zcnH_g zHW_cn g2) ⟨⟨k0, zcnV_g rfl gk⟩, ⟨k1, ?_⟩, ⟨k2, ?_⟩, ⟨k3, ?_⟩, trivial⟩)
        · rw [ex]; exact zg_ofK (k := 2) rfl
        · rw [ey]; exact zg_ofK (k := 0) rfl
        · rw [ez]; exact zg_ofK (k := 1) rfl
      · cases h
    · cases h
  · cases h
def zia_Z : zA_T := ([(0, 16777215, zD0), (0, 16777215, zD0)], zHW, [(0, (2, .ofNat 15)), (1, (1, .ofNat 0)), (2, (1, .ofNat 1))], [], 0, 0)
set_option maxRecDepth 100000 in
theorem zia_r : zx1 2000000 (zfinR zHW (some (0, 0))) zno zorcOM 4000 54 110 0 zia_Z [] = true := by decide +kernel
/-- inAll: 0 -/
def zorcIA (m d : Nat) (t : zA_T) : Option (List zR_) := if m = 54 then (match t.2.2.1 with
  | [(0, k), (1, b), (2, c)] => if 110 ≤ d ∧ k = (2, .ofNat 15) ∧ zinb t.1 b 0 16777215 = true ∧ zinb t.1 c 0 16777215 = true ∧ t.2.2.2.2 = (0, 0) ∧ zHeq t.2.1 zHW = true then some [(t.1, zHW, some (0, 0))] else none
  | _ => none) else none
theorem zOk_IA (l : Launch) (X : zx_X) (φ : List z_C) (P : List Int → Prop) : zOk l X 2000000 φ P zorcIA := by
  intro m d t rs h ρ ph lv _ g Q hQ
  obtain ⟨S, H, L, s0, cn⟩ := t
  obtain ⟨g1, g2, g3, g4, g5⟩ := g
  unfold zorcIA at h
  split at h
  · next hm =>
    subst hm
    dsimp only at h g1 g2 g3
    split at h
    · next _ k b c =>
      split at h
      · next hc =>
        obtain ⟨c1, c2, c4, c5, c10, c11⟩ := hc
        cases h
        subst c2
        have c11 := zHeq_eq c11
        subst c11
        subst c10
        obtain ⟨q0, lv1, rfl, ⟨k0, gk⟩, g3⟩ := zL2.cons1 g3
        obtain ⟨q2, lv3, rfl, ⟨k2, gb⟩, g3⟩ := zL2.cons1 g3
        obtain ⟨q3, lv4, rfl, ⟨k3, gc⟩, g3⟩ := zL2.cons1 g3
        have g3 := zL2.nil1 g3
        subst g3
        obtain ⟨y, ey, y1, y2⟩ := zinb_g g1 gb c4
        obtain ⟨z, ez, z1, z2⟩ := zinb_g g1 gc c5
        have hfin : zFn φ zPt Q (zfinR zHW (some (0, 0))) := by
          intro t r h ρ1 ph1 v _ gS gH gR
          obtain ⟨h1, h2⟩ := zw_and h
          have e1 := zHeq_eq h1
          have e2 := of_decide_eq_true h2
          subst e2
          rw [e1] at gH
          rw [zg_R0 gR]
          exact hQ _ (List.mem_singleton.mpr rfl) ρ _ ph1 (zLE.refl ρ) g1 (zcnH_g zHW_cn gH) (zg_ofI (by decide))
        refine ZW.deeper c1 (zGd_run (l := l) (X := X) (φ := φ) (Q0 := Q) (P := zPt) (fun _ _ _ h => h) hfin (zOk_OM l X φ zPt) (zCt_no l X _ φ zPt Q) (by decide) zia_r [y.toInt, z.toInt] ph _ [] [] trivial ⟨⟨⟨y1, y2, Or.inl rfl⟩, ⟨z1, z2, Or.inl rfl⟩, trivial⟩, zcnH_g zHW_cn g2, ⟨⟨k0, zcnV_g rfl gk⟩, ⟨k2, ?_⟩, ⟨k3, ?_⟩, trivial⟩, trivial, zg_Xnil⟩ trivial)
        · rw [ey]; exact zg_ofK (k := 0) rfl
        · rw [ez]; exact zg_ofK (k := 1) rfl
      · cases h
    · cases h
  · cases h
