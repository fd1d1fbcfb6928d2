/-! PART 26: drawn of the reference with nobody there -/
def zeE : zA_T := ([((.negSucc 2147483647), (.ofNat 2147483647), zD0), ((.ofNat 100), (.ofNat 3099), zD0), ((.negSucc 0), (.ofNat 23), zD0), ((.ofNat 1), (.ofNat 30), (19, (1, (.ofNat 1)), (0, (.ofNat 100)))), ((.ofNat 1), (.ofNat 30), (20, (1, (.ofNat 1)), (0, (.ofNat 100))))], zHW, [(0, (2, (.ofNat 46))), (1, (1, (.ofNat 0))), (2, (1, (.ofNat 1))), (3, (1, (.ofNat 2)))], [], 0, 0)
def zeO_ : zA_T := ([((.ofNat 100), (.ofNat 3099), zD0), ((.negSucc 0), (.ofNat 23), zD0), ((.negSucc 2147483647), (.ofNat 2147483647), zD0), ((.negSucc 2147483647), (.ofNat 2147483647), zD0), ((.ofNat 0), (.ofNat 30), zD0)], zHW, [(0, (2, (.ofNat 46))), (2, (1, (.ofNat 0))), (3, (1, (.ofNat 1))), (4, (1, (.ofNat 2))), (5, (0, (.ofNat 0))), (6, (1, (.ofNat 3))), (7, (1, (.ofNat 4)))], [], 0, 0)
def ze70 : zA_T := ([((.ofNat 100), (.ofNat 3099), zD0), ((.negSucc 0), (.ofNat 23), zD0), ((.negSucc 2147483647), (.ofNat 2147483647), zD0), ((.negSucc 2147483647), (.ofNat 2147483647), zD0), ((.ofNat 0), (.ofNat 29), zD0), ((.ofNat 1), (.ofNat 30), (19, (1, (.ofNat 0)), (0, (.ofNat 100))))], zHW, [(0, (2, (.ofNat 46))), (2, (1, (.ofNat 0))), (3, (1, (.ofNat 1))), (4, (1, (.ofNat 2))), (5, (0, (.ofNat 0))), (6, (1, (.ofNat 3))), (7, (1, (.ofNat 4)))], [], 0, 0)
def zeI_ : zA_T := ([((.ofNat 100), (.ofNat 3099), zD0), ((.negSucc 0), (.ofNat 23), zD0), ((.negSucc 2147483647), (.ofNat 2147483647), zD0), ((.negSucc 2147483647), (.ofNat 2147483647), zD0), ((.ofNat 0), (.ofNat 29), zD0), ((.ofNat 0), (.ofNat 16777215), zD0), ((.ofNat 0), (.ofNat 30), zD0)], zHW, [(0, (2, (.ofNat 46))), (2, (1, (.ofNat 0))), (3, (1, (.ofNat 1))), (4, (1, (.ofNat 2))), (5, (0, (.ofNat 0))), (6, (1, (.ofNat 3))), (7, (1, (.ofNat 4))), (8, (1, (.ofNat 5))), (9, (1, (.ofNat 6)))], [], 0, 0)
def ze92 : zA_T := ([((.ofNat 100), (.ofNat 3099), zD0), ((.negSucc 0), (.ofNat 23), zD0), ((.negSucc 2147483647), (.ofNat 2147483647), zD0), ((.negSucc 2147483647), (.ofNat 2147483647), zD0), ((.ofNat 0), (.ofNat 29), zD0), ((.ofNat 0), (.ofNat 16777215), zD0), ((.ofNat 0), (.ofNat 29), zD0), ((.ofNat 0), (.ofNat 99), (20, (1, (.ofNat 0)), (0, (.ofNat 100))))], zHW, [(0, (2, (.ofNat 46))), (2, (1, (.ofNat 0))), (3, (1, (.ofNat 1))), (4, (1, (.ofNat 2))), (5, (0, (.ofNat 0))), (6, (1, (.ofNat 3))), (7, (1, (.ofNat 4))), (8, (1, (.ofNat 5))), (9, (1, (.ofNat 6)))], [], 0, 0)
def ze170 : zA_T := ([((.ofNat 100), (.ofNat 3099), zD0), ((.negSucc 0), (.ofNat 23), zD0), ((.negSucc 2147483647), (.ofNat 2147483647), zD0), ((.negSucc 2147483647), (.ofNat 2147483647), zD0), ((.ofNat 0), (.ofNat 29), zD0), ((.ofNat 0), (.ofNat 16777215), zD0), ((.ofNat 0), (.ofNat 30), zD0), ((.ofNat 0), (.ofNat 99), (20, (1, (.ofNat 0)), (0, (.ofNat 100))))], zHW, [(0, (2, (.ofNat 46))), (2, (1, (.ofNat 0))), (3, (1, (.ofNat 1))), (4, (1, (.ofNat 2))), (5, (0, (.ofNat 0))), (6, (1, (.ofNat 3))), (7, (1, (.ofNat 4))), (8, (1, (.ofNat 5))), (9, (1, (.ofNat 6)))], [], 0, 0)
def ze210 : zA_T := ([((.ofNat 100), (.ofNat 3099), zD0), ((.negSucc 0), (.ofNat 23), zD0), ((.negSucc 2147483647), (.ofNat 2147483647), zD0), ((.negSucc 2147483647), (.ofNat 2147483647), zD0), ((.ofNat 0), (.ofNat 30), zD0), ((.ofNat 1), (.ofNat 30), (19, (1, (.ofNat 0)), (0, (.ofNat 100))))], zHW, [(0, (2, (.ofNat 46))), (2, (1, (.ofNat 0))), (3, (1, (.ofNat 1))), (4, (1, (.ofNat 2))), (5, (0, (.ofNat 0))), (6, (1, (.ofNat 3))), (7, (1, (.ofNat 4)))], [], 0, 0)
def ze67 : zA_T := ([((.ofNat 100), (.ofNat 3099), zD0), ((.negSucc 0), (.ofNat 23), zD0), ((.negSucc 2147483647), (.ofNat 2147483647), zD0), ((.negSucc 2147483647), (.ofNat 2147483647), zD0), ((.ofNat 0), (.ofNat 30), zD0), ((.ofNat 1), (.ofNat 30), (19, (1, (.ofNat 0)), (0, (.ofNat 100))))], zHW, [(0, (2, (.ofNat 46))), (2, (1, (.ofNat 0))), (3, (1, (.ofNat 1))), (4, (1, (.ofNat 2))), (5, (0, (.ofNat 0))), (6, (1, (.ofNat 3))), (7, (1, (.ofNat 4)))], [(1, (.ofNat 5)), (1, (.ofNat 4))], 0, 0)
def ze83 : zA_T := ([((.ofNat 100), (.ofNat 3099), zD0), ((.negSucc 0), (.ofNat 23), zD0), ((.negSucc 2147483647), (.ofNat 2147483647), zD0), ((.negSucc 2147483647), (.ofNat 2147483647), zD0), ((.ofNat 0), (.ofNat 29), zD0), ((.ofNat 1), (.ofNat 30), (19, (1, (.ofNat 0)), (0, (.ofNat 100))))], zHW, [(9, (0, (.ofNat 0))), (8, (0, (.ofNat 0))), (0, (2, (.ofNat 46))), (2, (1, (.ofNat 0))), (3, (1, (.ofNat 1))), (4, (1, (.ofNat 2))), (5, (0, (.ofNat 0))), (6, (1, (.ofNat 3))), (7, (1, (.ofNat 4)))], [], 0, 0)
def ze89 : zA_T := ([((.ofNat 100), (.ofNat 3099), zD0), ((.negSucc 0), (.ofNat 23), zD0), ((.negSucc 2147483647), (.ofNat 2147483647), zD0), ((.negSucc 2147483647), (.ofNat 2147483647), zD0), ((.ofNat 0), (.ofNat 29), zD0), ((.ofNat 0), (.ofNat 16777215), zD0), ((.ofNat 0), (.ofNat 30), zD0), ((.ofNat 0), (.ofNat 99), (20, (1, (.ofNat 0)), (0, (.ofNat 100))))], zHW, [(0, (2, (.ofNat 46))), (2, (1, (.ofNat 0))), (3, (1, (.ofNat 1))), (4, (1, (.ofNat 2))), (5, (0, (.ofNat 0))), (6, (1, (.ofNat 3))), (7, (1, (.ofNat 4))), (8, (1, (.ofNat 5))), (9, (1, (.ofNat 6)))], [(1, (.ofNat 7)), (1, (.ofNat 6))], 0, 0)
def ze83_0 : zA_T := ([((.ofNat 100), (.ofNat 3099), zD0), ((.negSucc 0), (.ofNat 23), zD0), ((.negSucc 2147483647), (.ofNat 2147483647), zD0), ((.negSucc 2147483647), (.ofNat 2147483647), zD0), ((.ofNat 0), (.ofNat 29), zD0), ((.ofNat 0), (.ofNat 16777215), zD0), ((.ofNat 0), (.ofNat 29), zD0), ((.ofNat 0), (.ofNat 99), (20, (1, (.ofNat 0)), (0, (.ofNat 100)))), ((.negSucc 2147483647), (.ofNat 2147483647), (12, (1, (.ofNat 2)), (0, (.ofNat 1103515245)))), ((.negSucc 2147483647), (.ofNat 2147483647), (10, (1, (.ofNat 8)), (0, (.ofNat 12345)))), ((.ofNat 0), (.ofNat 16777215), (18, (1, (.ofNat 9)), (0, (.ofNat 8)))), ((.ofNat 0), (.ofNat 23), (20, (1, (.ofNat 10)), (0, (.ofNat 24)))), ((.ofNat 0), (.ofNat 16777215), (17, (1, (.ofNat 5)), (1, (.ofNat 11)))), ((.ofNat 0), (.ofNat 0), (13, (1, (.ofNat 12)), (0, (.ofNat 1)))), ((.ofNat 0), (.ofNat 16777215), (17, (1, (.ofNat 5)), (0, (.ofNat 0)))), ((.ofNat 0), (.ofNat 1), (13, (1, (.ofNat 14)), (0, (.ofNat 1)))), ((.ofNat 0), (.ofNat 1), (10, (0, (.ofNat 0)), (1, (.ofNat 15)))), ((.ofNat 0), (.ofNat 8388607), (17, (1, (.ofNat 5)), (0, (.ofNat 1)))), ((.ofNat 0), (.ofNat 1), (13, (1, (.ofNat 17)), (0, (.ofNat 1)))), ((.ofNat 0), (.ofNat 2), (10, (1, (.ofNat 16)), (1, (.ofNat 18)))), ((.ofNat 0), (.ofNat 4194303), (17, (1, (.ofNat 5)), (0, (.ofNat 2)))), ((.ofNat 0), (.ofNat 1), (13, (1, (.ofNat 20)), (0, (.ofNat 1)))), ((.ofNat 0), (.ofNat 3), (10, (1, (.ofNat 19)), (1, (.ofNat 21)))), ((.ofNat 0), (.ofNat 2097151), (17, (1, (.ofNat 5)), (0, (.ofNat 3)))), ((.ofNat 0), (.ofNat 1), (13, (1, (.ofNat 23)), (0, (.ofNat 1)))), ((.ofNat 0), (.ofNat 4), (10, (1, (.ofNat 22)), (1, (.ofNat 24)))), ((.ofNat 0), (.ofNat 1048575), (17, (1, (.ofNat 5)), (0, (.ofNat 4)))), ((.ofNat 0), (.ofNat 1), (13, (1, (.ofNat 26)), (0, (.ofNat 1)))), ((.ofNat 0), (.ofNat 5), (10, (1, (.ofNat 25)), (1, (.ofNat 27)))), ((.ofNat 0), (.ofNat 524287), (17, (1, (.ofNat 5)), (0, (.ofNat 5)))), ((.ofNat 0), (.ofNat 1), (13, (1, (.ofNat 29)), (0, (.ofNat 1)))), ((.ofNat 0), (.ofNat 6), (10, (1, (.ofNat 28)), (1, (.ofNat 30)))), ((.ofNat 0), (.ofNat 262143), (17, (1, (.ofNat 5)), (0, (.ofNat 6)))), ((.ofNat 0), (.ofNat 1), (13, (1, (.ofNat 32)), (0, (.ofNat 1)))), ((.ofNat 0), (.ofNat 7), (10, (1, (.ofNat 31)), (1, (.ofNat 33)))), ((.ofNat 0), (.ofNat 131071), (17, (1, (.ofNat 5)), (0, (.ofNat 7)))), ((.ofNat 0), (.ofNat 1), (13, (1, (.ofNat 35)), (0, (.ofNat 1)))), ((.ofNat 0), (.ofNat 8), (10, (1, (.ofNat 34)), (1, (.ofNat 36)))), ((.ofNat 0), (.ofNat 65535), (17, (1, (.ofNat 5)), (0, (.ofNat 8)))), ((.ofNat 0), (.ofNat 1), (13, (1, (.ofNat 38)), (0, (.ofNat 1)))), ((.ofNat 0), (.ofNat 9), (10, (1, (.ofNat 37)), (1, (.ofNat 39)))), ((.ofNat 0), (.ofNat 32767), (17, (1, (.ofNat 5)), (0, (.ofNat 9)))), ((.ofNat 0), (.ofNat 1), (13, (1, (.ofNat 41)), (0, (.ofNat 1)))), ((.ofNat 0), (.ofNat 10), (10, (1, (.ofNat 40)), (1, (.ofNat 42)))), ((.ofNat 0), (.ofNat 16383), (17, (1, (.ofNat 5)), (0, (.ofNat 10)))), ((.ofNat 0), (.ofNat 1), (13, (1, (.ofNat 44)), (0, (.ofNat 1)))), ((.ofNat 0), (.ofNat 11), (10, (1, (.ofNat 43)), (1, (.ofNat 45)))), ((.ofNat 0), (.ofNat 8191), (17, (1, (.ofNat 5)), (0, (.ofNat 11)))), ((.ofNat 0), (.ofNat 1), (13, (1, (.ofNat 47)), (0, (.ofNat 1)))), ((.ofNat 0), (.ofNat 12), (10, (1, (.ofNat 46)), (1, (.ofNat 48)))), ((.ofNat 0), (.ofNat 4095), (17, (1, (.ofNat 5)), (0, (.ofNat 12)))), ((.ofNat 0), (.ofNat 1), (13, (1, (.ofNat 50)), (0, (.ofNat 1)))), ((.ofNat 0), (.ofNat 13), (10, (1, (.ofNat 49)), (1, (.ofNat 51)))), ((.ofNat 0), (.ofNat 2047), (17, (1, (.ofNat 5)), (0, (.ofNat 13)))), ((.ofNat 0), (.ofNat 1), (13, (1, (.ofNat 53)), (0, (.ofNat 1)))), ((.ofNat 0), (.ofNat 14), (10, (1, (.ofNat 52)), (1, (.ofNat 54)))), ((.ofNat 0), (.ofNat 1023), (17, (1, (.ofNat 5)), (0, (.ofNat 14)))), ((.ofNat 0), (.ofNat 1), (13, (1, (.ofNat 56)), (0, (.ofNat 1)))), ((.ofNat 0), (.ofNat 15), (10, (1, (.ofNat 55)), (1, (.ofNat 57)))), ((.ofNat 0), (.ofNat 511), (17, (1, (.ofNat 5)), (0, (.ofNat 15)))), ((.ofNat 0), (.ofNat 1), (13, (1, (.ofNat 59)), (0, (.ofNat 1)))), ((.ofNat 0), (.ofNat 16), (10, (1, (.ofNat 58)), (1, (.ofNat 60)))), ((.ofNat 0), (.ofNat 255), (17, (1, (.ofNat 5)), (0, (.ofNat 16)))), ((.ofNat 0), (.ofNat 1), (13, (1, (.ofNat 62)), (0, (.ofNat 1)))), ((.ofNat 0), (.ofNat 17), (10, (1, (.ofNat 61)), (1, (.ofNat 63)))), ((.ofNat 0), (.ofNat 127), (17, (1, (.ofNat 5)), (0, (.ofNat 17)))), ((.ofNat 0), (.ofNat 1), (13, (1, (.ofNat 65)), (0, (.ofNat 1)))), ((.ofNat 0), (.ofNat 18), (10, (1, (.ofNat 64)), (1, (.ofNat 66)))), ((.ofNat 0), (.ofNat 63), (17, (1, (.ofNat 5)), (0, (.ofNat 18)))), ((.ofNat 0), (.ofNat 1), (13, (1, (.ofNat 68)), (0, (.ofNat 1)))), ((.ofNat 0), (.ofNat 19), (10, (1, (.ofNat 67)), (1, (.ofNat 69)))), ((.ofNat 0), (.ofNat 31), (17, (1, (.ofNat 5)), (0, (.ofNat 19)))), ((.ofNat 0), (.ofNat 1), (13, (1, (.ofNat 71)), (0, (.ofNat 1)))), ((.ofNat 0), (.ofNat 20), (10, (1, (.ofNat 70)), (1, (.ofNat 72)))), ((.ofNat 0), (.ofNat 15), (17, (1, (.ofNat 5)), (0, (.ofNat 20)))), ((.ofNat 0), (.ofNat 1), (13, (1, (.ofNat 74)), (0, (.ofNat 1)))), ((.ofNat 0), (.ofNat 21), (10, (1, (.ofNat 73)), (1, (.ofNat 75)))), ((.ofNat 0), (.ofNat 7), (17, (1, (.ofNat 5)), (0, (.ofNat 21)))), ((.ofNat 0), (.ofNat 1), (13, (1, (.ofNat 77)), (0, (.ofNat 1)))), ((.ofNat 0), (.ofNat 22), (10, (1, (.ofNat 76)), (1, (.ofNat 78)))), ((.ofNat 0), (.ofNat 3), (17, (1, (.ofNat 5)), (0, (.ofNat 22)))), ((.ofNat 0), (.ofNat 1), (13, (1, (.ofNat 80)), (0, (.ofNat 1)))), ((.ofNat 0), (.ofNat 23), (10, (1, (.ofNat 79)), (1, (.ofNat 81)))), ((.ofNat 0), (.ofNat 1), (17, (1, (.ofNat 5)), (0, (.ofNat 23)))), ((.ofNat 0), (.ofNat 1), (13, (1, (.ofNat 83)), (0, (.ofNat 1)))), ((.ofNat 9), (.ofNat 24), (10, (1, (.ofNat 82)), (1, (.ofNat 84)))), ((.ofNat 1), (.ofNat 30), (10, (1, (.ofNat 6)), (0, (.ofNat 1))))], zHW, [(9, (1, (.ofNat 86))), (10, (1, (.ofNat 11))), (4, (1, (.ofNat 9))), (0, (2, (.ofNat 46))), (2, (1, (.ofNat 0))), (3, (1, (.ofNat 1))), (5, (0, (.ofNat 0))), (6, (1, (.ofNat 3))), (7, (1, (.ofNat 4))), (8, (1, (.ofNat 5)))], [], 0, 0)
def ze83_1 : zA_T := ([((.ofNat 100), (.ofNat 3099), zD0), ((.negSucc 0), (.ofNat 23), zD0), ((.negSucc 2147483647), (.ofNat 2147483647), zD0), ((.negSucc 2147483647), (.ofNat 2147483647), zD0), ((.ofNat 0), (.ofNat 29), zD0), ((.ofNat 0), (.ofNat 16777215), zD0), ((.ofNat 0), (.ofNat 29), zD0), ((.ofNat 0), (.ofNat 99), (20, (1, (.ofNat 0)), (0, (.ofNat 100)))), ((.negSucc 2147483647), (.ofNat 2147483647), (12, (1, (.ofNat 2)), (0, (.ofNat 1103515245)))), ((.negSucc 2147483647), (.ofNat 2147483647), (10, (1, (.ofNat 8)), (0, (.ofNat 12345)))), ((.ofNat 0), (.ofNat 16777215), (18, (1, (.ofNat 9)), (0, (.ofNat 8)))), ((.ofNat 0), (.ofNat 23), (20, (1, (.ofNat 10)), (0, (.ofNat 24)))), ((.ofNat 0), (.ofNat 16777215), (17, (1, (.ofNat 5)), (1, (.ofNat 11)))), ((.ofNat 0), (.ofNat 0), (13, (1, (.ofNat 12)), (0, (.ofNat 1)))), ((.ofNat 0), (.ofNat 16777215), (17, (1, (.ofNat 5)), (0, (.ofNat 0)))), ((.ofNat 0), (.ofNat 1), (13, (1, (.ofNat 14)), (0, (.ofNat 1)))), ((.ofNat 0), (.ofNat 1), (10, (0, (.ofNat 0)), (1, (.ofNat 15)))), ((.ofNat 0), (.ofNat 8388607), (17, (1, (.ofNat 5)), (0, (.ofNat 1)))), ((.ofNat 0), (.ofNat 1), (13, (1, (.ofNat 17)), (0, (.ofNat 1)))), ((.ofNat 0), (.ofNat 2), (10, (1, (.ofNat 16)), (1, (.ofNat 18)))), ((.ofNat 0), (.ofNat 4194303), (17, (1, (.ofNat 5)), (0, (.ofNat 2)))), ((.ofNat 0), (.ofNat 1), (13, (1, (.ofNat 20)), (0, (.ofNat 1)))), ((.ofNat 0), (.ofNat 3), (10, (1, (.ofNat 19)), (1, (.ofNat 21)))), ((.ofNat 0), (.ofNat 2097151), (17, (1, (.ofNat 5)), (0, (.ofNat 3)))), ((.ofNat 0), (.ofNat 1), (13, (1, (.ofNat 23)), (0, (.ofNat 1)))), ((.ofNat 0), (.ofNat 4), (10, (1, (.ofNat 22)), (1, (.ofNat 24)))), ((.ofNat 0), (.ofNat 1048575), (17, (1, (.ofNat 5)), (0, (.ofNat 4)))), ((.ofNat 0), (.ofNat 1), (13, (1, (.ofNat 26)), (0, (.ofNat 1)))), ((.ofNat 0), (.ofNat 5), (10, (1, (.ofNat 25)), (1, (.ofNat 27)))), ((.ofNat 0), (.ofNat 524287), (17, (1, (.ofNat 5)), (0, (.ofNat 5)))), ((.ofNat 0), (.ofNat 1), (13, (1, (.ofNat 29)), (0, (.ofNat 1)))), ((.ofNat 0), (.ofNat 6), (10, (1, (.ofNat 28)), (1, (.ofNat 30)))), ((.ofNat 0), (.ofNat 262143), (17, (1, (.ofNat 5)), (0, (.ofNat 6)))), ((.ofNat 0), (.ofNat 1), (13, (1, (.ofNat 32)), (0, (.ofNat 1)))), ((.ofNat 0), (.ofNat 7), (10, (1, (.ofNat 31)), (1, (.ofNat 33)))), ((.ofNat 0), (.ofNat 131071), (17, (1, (.ofNat 5)), (0, (.ofNat 7)))), ((.ofNat 0), (.ofNat 1), (13, (1, (.ofNat 35)), (0, (.ofNat 1)))), ((.ofNat 0), (.ofNat 8), (10, (1, (.ofNat 34)), (1, (.ofNat 36)))), ((.ofNat 0), (.ofNat 65535), (17, (1, (.ofNat 5)), (0, (.ofNat 8)))), ((.ofNat 0), (.ofNat 1), (13, (1, (.ofNat 38)), (0, (.ofNat 1)))), ((.ofNat 0), (.ofNat 9), (10, (1, (.ofNat 37)), (1, (.ofNat 39)))), ((.ofNat 0), (.ofNat 32767), (17, (1, (.ofNat 5)), (0, (.ofNat 9)))), ((.ofNat 0), (.ofNat 1), (13, (1, (.ofNat 41)), (0, (.ofNat 1)))), ((.ofNat 0), (.ofNat 10), (10, (1, (.ofNat 40)), (1, (.ofNat 42)))), ((.ofNat 0), (.ofNat 16383), (17, (1, (.ofNat 5)), (0, (.ofNat 10)))), ((.ofNat 0), (.ofNat 1), (13, (1, (.ofNat 44)), (0, (.ofNat 1)))), ((.ofNat 0), (.ofNat 11), (10, (1, (.ofNat 43)), (1, (.ofNat 45)))), ((.ofNat 0), (.ofNat 8191), (17, (1, (.ofNat 5)), (0, (.ofNat 11)))), ((.ofNat 0), (.ofNat 1), (13, (1, (.ofNat 47)), (0, (.ofNat 1)))), ((.ofNat 0), (.ofNat 12), (10, (1, (.ofNat 46)), (1, (.ofNat 48)))), ((.ofNat 0), (.ofNat 4095), (17, (1, (.ofNat 5)), (0, (.ofNat 12)))), ((.ofNat 0), (.ofNat 1), (13, (1, (.ofNat 50)), (0, (.ofNat 1)))), ((.ofNat 0), (.ofNat 13), (10, (1, (.ofNat 49)), (1, (.ofNat 51)))), ((.ofNat 0), (.ofNat 2047), (17, (1, (.ofNat 5)), (0, (.ofNat 13)))), ((.ofNat 0), (.ofNat 1), (13, (1, (.ofNat 53)), (0, (.ofNat 1)))), ((.ofNat 0), (.ofNat 14), (10, (1, (.ofNat 52)), (1, (.ofNat 54)))), ((.ofNat 0), (.ofNat 1023), (17, (1, (.ofNat 5)), (0, (.ofNat 14)))), ((.ofNat 0), (.ofNat 1), (13, (1, (.ofNat 56)), (0, (.ofNat 1)))), ((.ofNat 0), (.ofNat 15), (10, (1, (.ofNat 55)), (1, (.ofNat 57)))), ((.ofNat 0), (.ofNat 511), (17, (1, (.ofNat 5)), (0, (.ofNat 15)))), ((.ofNat 0), (.ofNat 1), (13, (1, (.ofNat 59)), (0, (.ofNat 1)))), ((.ofNat 0), (.ofNat 16), (10, (1, (.ofNat 58)), (1, (.ofNat 60)))), ((.ofNat 0), (.ofNat 255), (17, (1, (.ofNat 5)), (0, (.ofNat 16)))), ((.ofNat 0), (.ofNat 1), (13, (1, (.ofNat 62)), (0, (.ofNat 1)))), ((.ofNat 0), (.ofNat 17), (10, (1, (.ofNat 61)), (1, (.ofNat 63)))), ((.ofNat 0), (.ofNat 127), (17, (1, (.ofNat 5)), (0, (.ofNat 17)))), ((.ofNat 0), (.ofNat 1), (13, (1, (.ofNat 65)), (0, (.ofNat 1)))), ((.ofNat 0), (.ofNat 18), (10, (1, (.ofNat 64)), (1, (.ofNat 66)))), ((.ofNat 0), (.ofNat 63), (17, (1, (.ofNat 5)), (0, (.ofNat 18)))), ((.ofNat 0), (.ofNat 1), (13, (1, (.ofNat 68)), (0, (.ofNat 1)))), ((.ofNat 0), (.ofNat 19), (10, (1, (.ofNat 67)), (1, (.ofNat 69)))), ((.ofNat 0), (.ofNat 31), (17, (1, (.ofNat 5)), (0, (.ofNat 19)))), ((.ofNat 0), (.ofNat 1), (13, (1, (.ofNat 71)), (0, (.ofNat 1)))), ((.ofNat 0), (.ofNat 20), (10, (1, (.ofNat 70)), (1, (.ofNat 72)))), ((.ofNat 0), (.ofNat 15), (17, (1, (.ofNat 5)), (0, (.ofNat 20)))), ((.ofNat 0), (.ofNat 1), (13, (1, (.ofNat 74)), (0, (.ofNat 1)))), ((.ofNat 0), (.ofNat 21), (10, (1, (.ofNat 73)), (1, (.ofNat 75)))), ((.ofNat 0), (.ofNat 7), (17, (1, (.ofNat 5)), (0, (.ofNat 21)))), ((.ofNat 0), (.ofNat 1), (13, (1, (.ofNat 77)), (0, (.ofNat 1)))), ((.ofNat 0), (.ofNat 22), (10, (1, (.ofNat 76)), (1, (.ofNat 78)))), ((.ofNat 0), (.ofNat 3), (17, (1, (.ofNat 5)), (0, (.ofNat 22)))), ((.ofNat 0), (.ofNat 1), (13, (1, (.ofNat 80)), (0, (.ofNat 1)))), ((.ofNat 0), (.ofNat 23), (10, (1, (.ofNat 79)), (1, (.ofNat 81)))), ((.ofNat 0), (.ofNat 1), (17, (1, (.ofNat 5)), (0, (.ofNat 23)))), ((.ofNat 0), (.ofNat 1), (13, (1, (.ofNat 83)), (0, (.ofNat 1)))), ((.ofNat 0), (.ofNat 8), (10, (1, (.ofNat 82)), (1, (.ofNat 84)))), ((.ofNat 1), (.ofNat 8388608), (16, (0, (.ofNat 1)), (1, (.ofNat 11)))), ((.ofNat 0), (.ofNat 16777215), (14, (1, (.ofNat 5)), (1, (.ofNat 86)))), ((.ofNat 1), (.ofNat 30), (10, (1, (.ofNat 6)), (0, (.ofNat 1))))], zHW, [(9, (1, (.ofNat 88))), (8, (1, (.ofNat 87))), (10, (1, (.ofNat 11))), (4, (1, (.ofNat 9))), (0, (2, (.ofNat 46))), (2, (1, (.ofNat 0))), (3, (1, (.ofNat 1))), (5, (0, (.ofNat 0))), (6, (1, (.ofNat 3))), (7, (1, (.ofNat 4)))], [], 0, 0)
def ze83_2 : zA_T := ([((.ofNat 100), (.ofNat 3099), zD0), ((.negSucc 0), (.ofNat 23), zD0), ((.negSucc 2147483647), (.ofNat 2147483647), zD0), ((.negSucc 2147483647), (.ofNat 2147483647), zD0), ((.ofNat 0), (.ofNat 29), zD0), ((.ofNat 0), (.ofNat 16777215), zD0), ((.ofNat 0), (.ofNat 29), zD0), ((.ofNat 0), (.ofNat 99), (20, (1, (.ofNat 0)), (0, (.ofNat 100)))), ((.negSucc 2147483647), (.ofNat 2147483647), (12, (1, (.ofNat 2)), (0, (.ofNat 1103515245)))), ((.negSucc 2147483647), (.ofNat 2147483647), (10, (1, (.ofNat 8)), (0, (.ofNat 12345)))), ((.ofNat 0), (.ofNat 16777215), (18, (1, (.ofNat 9)), (0, (.ofNat 8)))), ((.ofNat 0), (.ofNat 23), (20, (1, (.ofNat 10)), (0, (.ofNat 24)))), ((.ofNat 0), (.ofNat 16777215), (17, (1, (.ofNat 5)), (1, (.ofNat 11)))), ((.ofNat 1), (.ofNat 1), (13, (1, (.ofNat 12)), (0, (.ofNat 1)))), ((.ofNat 1), (.ofNat 8388608), (16, (0, (.ofNat 1)), (1, (.ofNat 11)))), ((.negSucc 2147483647), (.ofNat 2147483647), (15, (1, (.ofNat 14)), (0, (.negSucc 0)))), ((.ofNat 0), (.ofNat 16777215), (13, (1, (.ofNat 5)), (1, (.ofNat 15)))), ((.ofNat 1), (.ofNat 30), (10, (1, (.ofNat 6)), (0, (.ofNat 1))))], zHW, [(9, (1, (.ofNat 17))), (8, (1, (.ofNat 16))), (10, (1, (.ofNat 11))), (4, (1, (.ofNat 9))), (0, (2, (.ofNat 46))), (2, (1, (.ofNat 0))), (3, (1, (.ofNat 1))), (5, (0, (.ofNat 0))), (6, (1, (.ofNat 3))), (7, (1, (.ofNat 4)))], [], 0, 0)
def ze61_0 : zA_T := ([((.ofNat 100), (.ofNat 3099), zD0), ((.negSucc 0), (.negSucc 0), zD0), ((.negSucc 2147483647), (.ofNat 2147483647), zD0), ((.negSucc 2147483647), (.ofNat 2147483647), zD0), ((.ofNat 0), (.ofNat 29), zD0), ((.ofNat 0), (.ofNat 16777215), zD0), ((.ofNat 0), (.ofNat 30), zD0), ((.ofNat 0), (.ofNat 99), (20, (1, (.ofNat 0)), (0, (.ofNat 100)))), ((.negSucc 2147483647), (.ofNat 2147483647), (10, (1, (.ofNat 3)), (0, (.ofNat 0)))), ((.ofNat 1), (.ofNat 30), (10, (1, (.ofNat 4)), (0, (.ofNat 1))))], zHW, [(7, (1, (.ofNat 9))), (6, (1, (.ofNat 8))), (5, (0, (.ofNat 0))), (0, (2, (.ofNat 46))), (2, (1, (.ofNat 0))), (3, (1, (.ofNat 1))), (4, (1, (.ofNat 2))), (8, (1, (.ofNat 5))), (9, (1, (.ofNat 6)))], [], 0, 0)
def ze61_1 : zA_T := ([((.ofNat 100), (.ofNat 3099), zD0), ((.ofNat 0), (.ofNat 23), zD0), ((.negSucc 2147483647), (.ofNat 2147483647), zD0), ((.negSucc 2147483647), (.ofNat 2147483647), zD0), ((.ofNat 0), (.ofNat 29), zD0), ((.ofNat 0), (.ofNat 16777215), zD0), ((.ofNat 0), (.ofNat 30), zD0), ((.ofNat 0), (.ofNat 99), (20, (1, (.ofNat 0)), (0, (.ofNat 100)))), ((.ofNat 0), (.ofNat 16777215), (17, (1, (.ofNat 5)), (1, (.ofNat 1)))), ((.ofNat 0), (.ofNat 0), (13, (1, (.ofNat 8)), (0, (.ofNat 1)))), ((.negSucc 2147483647), (.ofNat 2147483647), (10, (1, (.ofNat 3)), (0, (.ofNat 0)))), ((.ofNat 1), (.ofNat 30), (10, (1, (.ofNat 4)), (0, (.ofNat 1))))], zHW, [(7, (1, (.ofNat 11))), (6, (1, (.ofNat 10))), (5, (0, (.ofNat 0))), (0, (2, (.ofNat 46))), (2, (1, (.ofNat 0))), (3, (1, (.ofNat 1))), (4, (1, (.ofNat 2))), (8, (1, (.ofNat 5))), (9, (1, (.ofNat 6)))], [], 0, 0)
def ze61_2 : zA_T := ([((.ofNat 100), (.ofNat 3099), zD0), ((.ofNat 0), (.ofNat 23), zD0), ((.negSucc 2147483647), (.ofNat 2147483647), zD0), ((.negSucc 2147483647), (.ofNat 2147483647), zD0), ((.ofNat 0), (.ofNat 29), zD0), ((.ofNat 0), (.ofNat 16777215), zD0), ((.ofNat 0), (.ofNat 30), zD0), ((.ofNat 0), (.ofNat 99), (20, (1, (.ofNat 0)), (0, (.ofNat 100)))), ((.ofNat 0), (.ofNat 16777215), (17, (1, (.ofNat 5)), (1, (.ofNat 1)))), ((.ofNat 1), (.ofNat 1), (13, (1, (.ofNat 8)), (0, (.ofNat 1)))), ((.negSucc 2147483647), (.ofNat 2147483647), (10, (1, (.ofNat 3)), (0, (.ofNat 1)))), ((.ofNat 1), (.ofNat 30), (10, (1, (.ofNat 4)), (0, (.ofNat 1))))], zHW, [(7, (1, (.ofNat 11))), (6, (1, (.ofNat 10))), (5, (0, (.ofNat 0))), (0, (2, (.ofNat 46))), (2, (1, (.ofNat 0))), (3, (1, (.ofNat 1))), (4, (1, (.ofNat 2))), (8, (1, (.ofNat 5))), (9, (1, (.ofNat 6)))], [], 0, 0)
/-- a cut at one place, at states that fit a pattern -/
def zcutM (σ : List zA_V) (m0 d0 pc0 : Nat) (t0 : zA_T) (m d pc : Nat) (t : zA_T) (stk : List zA_F) : Bool := match Nat.beq pc pc0 with
  | false => false
  | true => (match stk with
    | [] => Nat.beq m m0 && (Nat.beq d d0 && zmT σ t t0)
    | _ => false)
theorem zcutM_g {l : Launch} {X : zx_X} {XL XL' : Nat} {φ : List z_C} {Q0 : Option Value → List z_C → Prop} (hX : ¬ XL' < 1000) {P P0 : List Int → Prop} {σ : List zA_V} {m0 d0 pc0 : Nat} {t0 : zA_T} (hP : ∀ ρ, P ρ → P0 (σ.map (zval ρ))) (h : zGd l X XL' φ P0 Q0 m0 d0 pc0 t0 []) : ∀ (m d pc : Nat) (t : zA_T) (stk : List zA_F), zcutM σ m0 d0 pc0 t0 m d pc t stk = true → zGd l X XL φ P Q0 m d pc t stk := by
  intro m d pc t stk hc
  unfold zcutM at hc
  split at hc
  · cases hc
  · next hpc =>
    split at hc
    · obtain ⟨h1, h2⟩ := zw_and hc
      obtain ⟨h3, h4⟩ := zw_and h2
      rw [Nat.eq_of_beq_eq_true hpc, Nat.eq_of_beq_eq_true h1, Nat.eq_of_beq_eq_true h3]
      exact zGd_m hX h4 (fun ρ hp _ _ => hP ρ hp) h
    · cases hc
set_option maxRecDepth 100000 in
theorem zer_E : zx1 2000000 znf (zcutM [(1, (.ofNat 1)), (1, (.ofNat 2)), (1, (.ofNat 0)), (0, (.ofNat 0)), (0, (.ofNat 0))] 239 150 61 zeO_) zon 8000 239 150 0 zeE [] = true := by decide +kernel
set_option maxRecDepth 100000 in
theorem zer_O : zx1 2000000 znf (zcuts 239 150 67 [ze67]) zon 8000 239 150 61 zeO_ [] = true := by decide +kernel
set_option maxRecDepth 100000 in
theorem zer_70 : zx1 2000000 znf (zcuts 239 150 83 [ze83]) zon 8000 239 150 70 ze70 [] = true := by decide +kernel
set_option maxRecDepth 100000 in
theorem zer_I : zx1 2000000 znf (zcuts 239 150 89 [ze89]) zon 8000 239 150 83 zeI_ [] = true := by decide +kernel
set_option maxRecDepth 100000 in
theorem zer_92 : zx1 2000000 znf (zcuts 239 150 83 [ze83_0, ze83_1, ze83_2]) zon 8000 239 150 92 ze92 [] = true := by decide +kernel
set_option maxRecDepth 100000 in
theorem zer_170 : zx1 2000000 znf (zcuts 239 150 61 [ze61_0, ze61_1, ze61_2]) zon 8000 239 150 170 ze170 [] = true := by decide +kernel
def zefin (t : zA_T) (r : Option zA_V) : Bool := zHeq t.2.1 zHW && (match zat t.1 1 with
  | some q => (decide (r = some (1, 3)) && decide (0 ≤ q.1)) || (decide (r = some (0, 0)) && decide (q = (-1, -1)))
  | none => false)
set_option maxRecDepth 100000 in
theorem zer_210 : zx1 2000000 zefin zno zon 8000 239 150 210 ze210 [] = true := by decide +kernel
theorem zem_83 : zmT [(1, (.ofNat 0)), (1, (.ofNat 1)), (1, (.ofNat 2)), (1, (.ofNat 3)), (1, (.ofNat 4)), (0, (.ofNat 0)), (0, (.ofNat 0))] ze83 zeI_ = true := by decide +kernel
theorem zem_83_0 : zmT [(1, (.ofNat 0)), (1, (.ofNat 1)), (1, (.ofNat 9)), (1, (.ofNat 3)), (1, (.ofNat 4)), (1, (.ofNat 5)), (1, (.ofNat 86))] ze83_0 zeI_ = true := by decide +kernel
theorem zem_83_1 : zmT [(1, (.ofNat 0)), (1, (.ofNat 1)), (1, (.ofNat 9)), (1, (.ofNat 3)), (1, (.ofNat 4)), (1, (.ofNat 87)), (1, (.ofNat 88))] ze83_1 zeI_ = true := by decide +kernel
theorem zem_83_2 : zmT [(1, (.ofNat 0)), (1, (.ofNat 1)), (1, (.ofNat 9)), (1, (.ofNat 3)), (1, (.ofNat 4)), (1, (.ofNat 16)), (1, (.ofNat 17))] ze83_2 zeI_ = true := by decide +kernel
theorem zem_61_0 : zmT [(1, (.ofNat 0)), (0, (.negSucc 0)), (1, (.ofNat 2)), (1, (.ofNat 8)), (1, (.ofNat 9))] ze61_0 zeO_ = true := by decide +kernel
theorem zem_61_1 : zmT [(1, (.ofNat 0)), (1, (.ofNat 1)), (1, (.ofNat 2)), (1, (.ofNat 10)), (1, (.ofNat 11))] ze61_1 zeO_ = true := by decide +kernel
theorem zem_61_2 : zmT [(1, (.ofNat 0)), (1, (.ofNat 1)), (1, (.ofNat 2)), (1, (.ofNat 10)), (1, (.ofNat 11))] ze61_2 zeO_ = true := by decide +kernel
def zeT (line T v : Int) : Prop := (line = -1 → T = 0) ∧ (line ≠ -1 → v = T)
/-- outer: nm, line, z, often, day -/
def zeIO (T : Int) (k : Nat) (ns : List Int) : Prop := ∃ n0 n1 n2 n3 n4 : Int, ns = [n0, n1, n2, n3, n4] ∧ n4 ≤ zb_c 19 n0 100 ∧ zb_c 19 n0 100 ≤ 30 ∧ 1 ≤ zb_c 20 n0 100 ∧ zb_c 20 n0 100 ≤ 30 ∧ k = (zb_c 19 n0 100 - n4).toNat ∧ zeT n1 T (zdO k (zb_c 20 n0 100).toNat n2 n1 n3)
def zeII (T : Int) (k j : Nat) (ns : List Int) : Prop := ∃ n0 n1 n2 n3 n4 n5 n6 : Int, ns = [n0, n1, n2, n3, n4, n5, n6] ∧ n4 < zb_c 19 n0 100 ∧ zb_c 19 n0 100 ≤ 30 ∧ 1 ≤ zb_c 20 n0 100 ∧ zb_c 20 n0 100 ≤ 30 ∧ n6 ≤ zb_c 20 n0 100 ∧ k = (zb_c 19 n0 100 - n4 - 1).toNat ∧ j = (zb_c 20 n0 100 - n6).toNat ∧ zeT n1 T (zdO k (zb_c 20 n0 100).toNat (zdI j n2 n5).1 n1 (zb_c 10 n3 (zdG n1 (zdI j n2 n5).2)))
section ZE
variable {l : Launch} {X : zx_X} {φ : List z_C} {Q : Option Value → List z_C → Prop} {T : Int}
theorem ze_210 (hQ : zdQ Q T) : zGd l X 2000000 φ (zPf (fun ns => ∃ n1 n3 : Int, ns[1]? = some n1 ∧ ns[3]? = some n3 ∧ zeT n1 T n3)) Q 239 150 210 ze210 [] := by
  refine zGd_run (zPf_up _) ?_ (zOk_no l X _ φ _) (zCt_no l X _ φ _ Q) (by decide) zer_210
  intro t r h ρ ph v hp gS gH gR
  obtain ⟨h1, h2⟩ := zw_and h
  have e1 := zHeq_eq h1
  rw [e1] at gH
  obtain ⟨ns, hle, n1, n3, u1, u3, uT⟩ := hp
  have b1 : ρ[1]? = some n1 := hle 1 _ u1
  have b3 : ρ[3]? = some n3 := hle 3 _ u3
  have gW : zL2 (zg_C [] []) zHW ph := zPhi zHW_8 (zcnH_g zHW_cn gH)
  split at h2
  · next q hq =>
    have hb := zat_in gS hq b1
    rcases zw_or h2 with h3 | h3
    · obtain ⟨h4, h5⟩ := zw_and h3
      have e2 := of_decide_eq_true h4
      have e3 := of_decide_eq_true h5
      subst e2
      cases v with
      | none => exact gR.elim
      | some u =>
        obtain ⟨x, rfl, ex⟩ := zg_int (a := (1, 3)) rfl gR
        exact hQ ph x ((zE_fun ex (zEk (j := 3) b3)).trans (uT.2 (by omega))) gW
    · obtain ⟨h4, h5⟩ := zw_and h3
      have e2 := of_decide_eq_true h4
      have e3 : q = (-1, -1) := of_decide_eq_true h5
      subst e3
      subst e2
      have hb1 : -1 ≤ n1 := hb.1
      have hb2 : n1 ≤ -1 := hb.2
      rw [zg_R0 gR]
      refine hQ ph 0 ?_ gW
      rw [uT.1 (by omega)]
      rfl
  · cases h2
theorem ze_d67 : decode (zm 239).2.1 67 = .ok (.if_icmp .ge 143, 3) := by decide +kernel
theorem ze_d89 : decode (zm 239).2.1 89 = .ok (.if_icmp .ge 81, 3) := by decide +kernel
theorem zep_0 {k j : Nat} {ρ : List Int} (hp : zPf (zeII T k (j + 1)) ρ) (hS : zg_S ρ ze83_0.1) : zeII T k j ([(1, (.ofNat 0)), (1, (.ofNat 1)), (1, (.ofNat 9)), (1, (.ofNat 3)), (1, (.ofNat 4)), (1, (.ofNat 5)), (1, (.ofNat 86))].map (zval ρ)) := by
  obtain ⟨ns, hle, n0, n1, n2, n3, n4, n5, n6, rfl, q1, q2, q3, q4, q5, q6, q7, q8⟩ := hp
  have b0 : ρ[0]? = some n0 := hle 0 _ rfl
  have b1 : ρ[1]? = some n1 := hle 1 _ rfl
  have b2 : ρ[2]? = some n2 := hle 2 _ rfl
  have b3 : ρ[3]? = some n3 := hle 3 _ rfl
  have b4 : ρ[4]? = some n4 := hle 4 _ rfl
  have b5 : ρ[5]? = some n5 := hle 5 _ rfl
  have b6 : ρ[6]? = some n6 := hle 6 _ rfl
  have r5 : (0 : Int) ≤ n5 ∧ n5 ≤ 16777215 := zS_rng hS (rfl : ze83_0.1[5]? = some (0, 16777215, zD0)) b5
  have r6 : (0 : Int) ≤ n6 ∧ n6 ≤ 29 := zS_rng hS (rfl : ze83_0.1[6]? = some (0, 29, zD0)) b6
  have h7 := zD_use hS (rfl : ze83_0.1[7]? = some (0, 99, (20, (1, (.ofNat 0)), (0, (.ofNat 100))))) (by decide) (zEk b0) (zE0 ρ 100)
  have h8 := zD_use hS (rfl : ze83_0.1[8]? = some ((-2147483648), 2147483647, (12, (1, (.ofNat 2)), (0, (.ofNat 1103515245))))) (by decide) (zEk b2) (zE0 ρ 1103515245)
  have h9 : ρ[9]? = some (zdz n2) ∧ (-2147483648 : Int) ≤ zdz n2 ∧ zdz n2 ≤ (2147483647 : Int) := zD_use hS (rfl : ze83_0.1[9]? = some ((-2147483648), 2147483647, (10, (1, (.ofNat 8)), (0, (.ofNat 12345))))) (by decide) (zEk h8.1) (zE0 ρ 12345)
  have h10 := zD_use hS (rfl : ze83_0.1[10]? = some (0, 16777215, (18, (1, (.ofNat 9)), (0, (.ofNat 8))))) (by decide) (zEk h9.1) (zE0 ρ 8)
  have h11 : ρ[11]? = some (zdl (zdz n2)) ∧ (0 : Int) ≤ zdl (zdz n2) ∧ zdl (zdz n2) ≤ (23 : Int) := zD_use hS (rfl : ze83_0.1[11]? = some (0, 23, (20, (1, (.ofNat 10)), (0, (.ofNat 24))))) (by decide) (zEk h10.1) (zE0 ρ 24)
  have h12 : ρ[12]? = some (zb_c 17 n5 (zdl (zdz n2))) ∧ (0 : Int) ≤ zb_c 17 n5 (zdl (zdz n2)) ∧ zb_c 17 n5 (zdl (zdz n2)) ≤ (16777215 : Int) := zD_use hS (rfl : ze83_0.1[12]? = some (0, 16777215, (17, (1, (.ofNat 5)), (1, (.ofNat 11))))) (by decide) (zEk b5) (zEk h11.1)
  have h13 : ρ[13]? = some (zb_c 13 (zb_c 17 n5 (zdl (zdz n2))) 1) ∧ (0 : Int) ≤ zb_c 13 (zb_c 17 n5 (zdl (zdz n2))) 1 ∧ zb_c 13 (zb_c 17 n5 (zdl (zdz n2))) 1 ≤ (0 : Int) := zD_use hS (rfl : ze83_0.1[13]? = some (0, 0, (13, (1, (.ofNat 12)), (0, (.ofNat 1))))) (by decide) (zEk h12.1) (zE0 ρ 1)
  have h14 := zD_use hS (rfl : ze83_0.1[14]? = some (0, 16777215, (17, (1, (.ofNat 5)), (0, (.ofNat 0))))) (by decide) (zEk b5) (zE0 ρ 0)
  have h15 := zD_use hS (rfl : ze83_0.1[15]? = some (0, 1, (13, (1, (.ofNat 14)), (0, (.ofNat 1))))) (by decide) (zEk h14.1) (zE0 ρ 1)
  have h16 : ρ[16]? = some (zbits 1 n5) ∧ (0 : Int) ≤ zbits 1 n5 ∧ zbits 1 n5 ≤ (1 : Int) := zD_use hS (rfl : ze83_0.1[16]? = some (0, 1, (10, (0, (.ofNat 0)), (1, (.ofNat 15))))) (by decide) (zE0 ρ 0) (zEk h15.1)
  have h17 := zD_use hS (rfl : ze83_0.1[17]? = some (0, 8388607, (17, (1, (.ofNat 5)), (0, (.ofNat 1))))) (by decide) (zEk b5) (zE0 ρ 1)
  have h18 := zD_use hS (rfl : ze83_0.1[18]? = some (0, 1, (13, (1, (.ofNat 17)), (0, (.ofNat 1))))) (by decide) (zEk h17.1) (zE0 ρ 1)
  have h19 : ρ[19]? = some (zbits 2 n5) ∧ (0 : Int) ≤ zbits 2 n5 ∧ zbits 2 n5 ≤ (2 : Int) := zD_use hS (rfl : ze83_0.1[19]? = some (0, 2, (10, (1, (.ofNat 16)), (1, (.ofNat 18))))) (by decide) (zEk h16.1) (zEk h18.1)
  have h20 := zD_use hS (rfl : ze83_0.1[20]? = some (0, 4194303, (17, (1, (.ofNat 5)), (0, (.ofNat 2))))) (by decide) (zEk b5) (zE0 ρ 2)
  have h21 := zD_use hS (rfl : ze83_0.1[21]? = some (0, 1, (13, (1, (.ofNat 20)), (0, (.ofNat 1))))) (by decide) (zEk h20.1) (zE0 ρ 1)
  have h22 : ρ[22]? = some (zbits 3 n5) ∧ (0 : Int) ≤ zbits 3 n5 ∧ zbits 3 n5 ≤ (3 : Int) := zD_use hS (rfl : ze83_0.1[22]? = some (0, 3, (10, (1, (.ofNat 19)), (1, (.ofNat 21))))) (by decide) (zEk h19.1) (zEk h21.1)
  have h23 := zD_use hS (rfl : ze83_0.1[23]? = some (0, 2097151, (17, (1, (.ofNat 5)), (0, (.ofNat 3))))) (by decide) (zEk b5) (zE0 ρ 3)
  have h24 := zD_use hS (rfl : ze83_0.1[24]? = some (0, 1, (13, (1, (.ofNat 23)), (0, (.ofNat 1))))) (by decide) (zEk h23.1) (zE0 ρ 1)
  have h25 : ρ[25]? = some (zbits 4 n5) ∧ (0 : Int) ≤ zbits 4 n5 ∧ zbits 4 n5 ≤ (4 : Int) := zD_use hS (rfl : ze83_0.1[25]? = some (0, 4, (10, (1, (.ofNat 22)), (1, (.ofNat 24))))) (by decide) (zEk h22.1) (zEk h24.1)
  have h26 := zD_use hS (rfl : ze83_0.1[26]? = some (0, 1048575, (17, (1, (.ofNat 5)), (0, (.ofNat 4))))) (by decide) (zEk b5) (zE0 ρ 4)
  have h27 := zD_use hS (rfl : ze83_0.1[27]? = some (0, 1, (13, (1, (.ofNat 26)), (0, (.ofNat 1))))) (by decide) (zEk h26.1) (zE0 ρ 1)
  have h28 : ρ[28]? = some (zbits 5 n5) ∧ (0 : Int) ≤ zbits 5 n5 ∧ zbits 5 n5 ≤ (5 : Int) := zD_use hS (rfl : ze83_0.1[28]? = some (0, 5, (10, (1, (.ofNat 25)), (1, (.ofNat 27))))) (by decide) (zEk h25.1) (zEk h27.1)
  have h29 := zD_use hS (rfl : ze83_0.1[29]? = some (0, 524287, (17, (1, (.ofNat 5)), (0, (.ofNat 5))))) (by decide) (zEk b5) (zE0 ρ 5)
  have h30 := zD_use hS (rfl : ze83_0.1[30]? = some (0, 1, (13, (1, (.ofNat 29)), (0, (.ofNat 1))))) (by decide) (zEk h29.1) (zE0 ρ 1)
  have h31 : ρ[31]? = some (zbits 6 n5) ∧ (0 : Int) ≤ zbits 6 n5 ∧ zbits 6 n5 ≤ (6 : Int) := zD_use hS (rfl : ze83_0.1[31]? = some (0, 6, (10, (1, (.ofNat 28)), (1, (.ofNat 30))))) (by decide) (zEk h28.1) (zEk h30.1)
  have h32 := zD_use hS (rfl : ze83_0.1[32]? = some (0, 262143, (17, (1, (.ofNat 5)), (0, (.ofNat 6))))) (by decide) (zEk b5) (zE0 ρ 6)
  have h33 := zD_use hS (rfl : ze83_0.1[33]? = some (0, 1, (13, (1, (.ofNat 32)), (0, (.ofNat 1))))) (by decide) (zEk h32.1) (zE0 ρ 1)
  have h34 : ρ[34]? = some (zbits 7 n5) ∧ (0 : Int) ≤ zbits 7 n5 ∧ zbits 7 n5 ≤ (7 : Int) := zD_use hS (rfl : ze83_0.1[34]? = some (0, 7, (10, (1, (.ofNat 31)), (1, (.ofNat 33))))) (by decide) (zEk h31.1) (zEk h33.1)
  have h35 := zD_use hS (rfl : ze83_0.1[35]? = some (0, 131071, (17, (1, (.ofNat 5)), (0, (.ofNat 7))))) (by decide) (zEk b5) (zE0 ρ 7)
  have h36 := zD_use hS (rfl : ze83_0.1[36]? = some (0, 1, (13, (1, (.ofNat 35)), (0, (.ofNat 1))))) (by decide) (zEk h35.1) (zE0 ρ 1)
  have h37 : ρ[37]? = some (zbits 8 n5) ∧ (0 : Int) ≤ zbits 8 n5 ∧ zbits 8 n5 ≤ (8 : Int) := zD_use hS (rfl : ze83_0.1[37]? = some (0, 8, (10, (1, (.ofNat 34)), (1, (.ofNat 36))))) (by decide) (zEk h34.1) (zEk h36.1)
  have h38 := zD_use hS (rfl : ze83_0.1[38]? = some (0, 65535, (17, (1, (.ofNat 5)), (0, (.ofNat 8))))) (by decide) (zEk b5) (zE0 ρ 8)
  have h39 := zD_use hS (rfl : ze83_0.1[39]? = some (0, 1, (13, (1, (.ofNat 38)), (0, (.ofNat 1))))) (by decide) (zEk h38.1) (zE0 ρ 1)
  have h40 : ρ[40]? = some (zbits 9 n5) ∧ (0 : Int) ≤ zbits 9 n5 ∧ zbits 9 n5 ≤ (9 : Int) := zD_use hS (rfl : ze83_0.1[40]? = some (0, 9, (10, (1, (.ofNat 37)), (1, (.ofNat 39))))) (by decide) (zEk h37.1) (zEk h39.1)
  have h41 := zD_use hS (rfl : ze83_0.1[41]? = some (0, 32767, (17, (1, (.ofNat 5)), (0, (.ofNat 9))))) (by decide) (zEk b5) (zE0 ρ 9)
  have h42 := zD_use hS (rfl : ze83_0.1[42]? = some (0, 1, (13, (1, (.ofNat 41)), (0, (.ofNat 1))))) (by decide) (zEk h41.1) (zE0 ρ 1)
  have h43 : ρ[43]? = some (zbits 10 n5) ∧ (0 : Int) ≤ zbits 10 n5 ∧ zbits 10 n5 ≤ (10 : Int) := zD_use hS (rfl : ze83_0.1[43]? = some (0, 10, (10, (1, (.ofNat 40)), (1, (.ofNat 42))))) (by decide) (zEk h40.1) (zEk h42.1)
  have h44 := zD_use hS (rfl : ze83_0.1[44]? = some (0, 16383, (17, (1, (.ofNat 5)), (0, (.ofNat 10))))) (by decide) (zEk b5) (zE0 ρ 10)
  have h45 := zD_use hS (rfl : ze83_0.1[45]? = some (0, 1, (13, (1, (.ofNat 44)), (0, (.ofNat 1))))) (by decide) (zEk h44.1) (zE0 ρ 1)
  have h46 : ρ[46]? = some (zbits 11 n5) ∧ (0 : Int) ≤ zbits 11 n5 ∧ zbits 11 n5 ≤ (11 : Int) := zD_use hS (rfl : ze83_0.1[46]? = some (0, 11, (10, (1, (.ofNat 43)), (1, (.ofNat 45))))) (by decide) (zEk h43.1) (zEk h45.1)
  have h47 := zD_use hS (rfl : ze83_0.1[47]? = some (0, 8191, (17, (1, (.ofNat 5)), (0, (.ofNat 11))))) (by decide) (zEk b5) (zE0 ρ 11)
  have h48 := zD_use hS (rfl : ze83_0.1[48]? = some (0, 1, (13, (1, (.ofNat 47)), (0, (.ofNat 1))))) (by decide) (zEk h47.1) (zE0 ρ 1)
  have h49 : ρ[49]? = some (zbits 12 n5) ∧ (0 : Int) ≤ zbits 12 n5 ∧ zbits 12 n5 ≤ (12 : Int) := zD_use hS (rfl : ze83_0.1[49]? = some (0, 12, (10, (1, (.ofNat 46)), (1, (.ofNat 48))))) (by decide) (zEk h46.1) (zEk h48.1)
  have h50 := zD_use hS (rfl : ze83_0.1[50]? = some (0, 4095, (17, (1, (.ofNat 5)), (0, (.ofNat 12))))) (by decide) (zEk b5) (zE0 ρ 12)
  have h51 := zD_use hS (rfl : ze83_0.1[51]? = some (0, 1, (13, (1, (.ofNat 50)), (0, (.ofNat 1))))) (by decide) (zEk h50.1) (zE0 ρ 1)
  have h52 : ρ[52]? = some (zbits 13 n5) ∧ (0 : Int) ≤ zbits 13 n5 ∧ zbits 13 n5 ≤ (13 : Int) := zD_use hS (rfl : ze83_0.1[52]? = some (0, 13, (10, (1, (.ofNat 49)), (1, (.ofNat 51))))) (by decide) (zEk h49.1) (zEk h51.1)
  have h53 := zD_use hS (rfl : ze83_0.1[53]? = some (0, 2047, (17, (1, (.ofNat 5)), (0, (.ofNat 13))))) (by decide) (zEk b5) (zE0 ρ 13)
  have h54 := zD_use hS (rfl : ze83_0.1[54]? = some (0, 1, (13, (1, (.ofNat 53)), (0, (.ofNat 1))))) (by decide) (zEk h53.1) (zE0 ρ 1)
  have h55 : ρ[55]? = some (zbits 14 n5) ∧ (0 : Int) ≤ zbits 14 n5 ∧ zbits 14 n5 ≤ (14 : Int) := zD_use hS (rfl : ze83_0.1[55]? = some (0, 14, (10, (1, (.ofNat 52)), (1, (.ofNat 54))))) (by decide) (zEk h52.1) (zEk h54.1)
  have h56 := zD_use hS (rfl : ze83_0.1[56]? = some (0, 1023, (17, (1, (.ofNat 5)), (0, (.ofNat 14))))) (by decide) (zEk b5) (zE0 ρ 14)
  have h57 := zD_use hS (rfl : ze83_0.1[57]? = some (0, 1, (13, (1, (.ofNat 56)), (0, (.ofNat 1))))) (by decide) (zEk h56.1) (zE0 ρ 1)
  have h58 : ρ[58]? = some (zbits 15 n5) ∧ (0 : Int) ≤ zbits 15 n5 ∧ zbits 15 n5 ≤ (15 : Int) := zD_use hS (rfl : ze83_0.1[58]? = some (0, 15, (10, (1, (.ofNat 55)), (1, (.ofNat 57))))) (by decide) (zEk h55.1) (zEk h57.1)
  have h59 := zD_use hS (rfl : ze83_0.1[59]? = some (0, 511, (17, (1, (.ofNat 5)), (0, (.ofNat 15))))) (by decide) (zEk b5) (zE0 ρ 15)
  have h60 := zD_use hS (rfl : ze83_0.1[60]? = some (0, 1, (13, (1, (.ofNat 59)), (0, (.ofNat 1))))) (by decide) (zEk h59.1) (zE0 ρ 1)
  have h61 : ρ[61]? = some (zbits 16 n5) ∧ (0 : Int) ≤ zbits 16 n5 ∧ zbits 16 n5 ≤ (16 : Int) := zD_use hS (rfl : ze83_0.1[61]? = some (0, 16, (10, (1, (.ofNat 58)), (1, (.ofNat 60))))) (by decide) (zEk h58.1) (zEk h60.1)
  have h62 := zD_use hS (rfl : ze83_0.1[62]? = some (0, 255, (17, (1, (.ofNat 5)), (0, (.ofNat 16))))) (by decide) (zEk b5) (zE0 ρ 16)
  have h63 := zD_use hS (rfl : ze83_0.1[63]? = some (0, 1, (13, (1, (.ofNat 62)), (0, (.ofNat 1))))) (by decide) (zEk h62.1) (zE0 ρ 1)
  have h64 : ρ[64]? = some (zbits 17 n5) ∧ (0 : Int) ≤ zbits 17 n5 ∧ zbits 17 n5 ≤ (17 : Int) := zD_use hS (rfl : ze83_0.1[64]? = some (0, 17, (10, (1, (.ofNat 61)), (1, (.ofNat 63))))) (by decide) (zEk h61.1) (zEk h63.1)
  have h65 := zD_use hS (rfl : ze83_0.1[65]? = some (0, 127, (17, (1, (.ofNat 5)), (0, (.ofNat 17))))) (by decide) (zEk b5) (zE0 ρ 17)
  have h66 := zD_use hS (rfl : ze83_0.1[66]? = some (0, 1, (13, (1, (.ofNat 65)), (0, (.ofNat 1))))) (by decide) (zEk h65.1) (zE0 ρ 1)
  have h67 : ρ[67]? = some (zbits 18 n5) ∧ (0 : Int) ≤ zbits 18 n5 ∧ zbits 18 n5 ≤ (18 : Int) := zD_use hS (rfl : ze83_0.1[67]? = some (0, 18, (10, (1, (.ofNat 64)), (1, (.ofNat 66))))) (by decide) (zEk h64.1) (zEk h66.1)
  have h68 := zD_use hS (rfl : ze83_0.1[68]? = some (0, 63, (17, (1, (.ofNat 5)), (0, (.ofNat 18))))) (by decide) (zEk b5) (zE0 ρ 18)
  have h69 := zD_use hS (rfl : ze83_0.1[69]? = some (0, 1, (13, (1, (.ofNat 68)), (0, (.ofNat 1))))) (by decide) (zEk h68.1) (zE0 ρ 1)
  have h70 : ρ[70]? = some (zbits 19 n5) ∧ (0 : Int) ≤ zbits 19 n5 ∧ zbits 19 n5 ≤ (19 : Int) := zD_use hS (rfl : ze83_0.1[70]? = some (0, 19, (10, (1, (.ofNat 67)), (1, (.ofNat 69))))) (by decide) (zEk h67.1) (zEk h69.1)
  have h71 := zD_use hS (rfl : ze83_0.1[71]? = some (0, 31, (17, (1, (.ofNat 5)), (0, (.ofNat 19))))) (by decide) (zEk b5) (zE0 ρ 19)
  have h72 := zD_use hS (rfl : ze83_0.1[72]? = some (0, 1, (13, (1, (.ofNat 71)), (0, (.ofNat 1))))) (by decide) (zEk h71.1) (zE0 ρ 1)
  have h73 : ρ[73]? = some (zbits 20 n5) ∧ (0 : Int) ≤ zbits 20 n5 ∧ zbits 20 n5 ≤ (20 : Int) := zD_use hS (rfl : ze83_0.1[73]? = some (0, 20, (10, (1, (.ofNat 70)), (1, (.ofNat 72))))) (by decide) (zEk h70.1) (zEk h72.1)
  have h74 := zD_use hS (rfl : ze83_0.1[74]? = some (0, 15, (17, (1, (.ofNat 5)), (0, (.ofNat 20))))) (by decide) (zEk b5) (zE0 ρ 20)
  have h75 := zD_use hS (rfl : ze83_0.1[75]? = some (0, 1, (13, (1, (.ofNat 74)), (0, (.ofNat 1))))) (by decide) (zEk h74.1) (zE0 ρ 1)
  have h76 : ρ[76]? = some (zbits 21 n5) ∧ (0 : Int) ≤ zbits 21 n5 ∧ zbits 21 n5 ≤ (21 : Int) := zD_use hS (rfl : ze83_0.1[76]? = some (0, 21, (10, (1, (.ofNat 73)), (1, (.ofNat 75))))) (by decide) (zEk h73.1) (zEk h75.1)
  have h77 := zD_use hS (rfl : ze83_0.1[77]? = some (0, 7, (17, (1, (.ofNat 5)), (0, (.ofNat 21))))) (by decide) (zEk b5) (zE0 ρ 21)
  have h78 := zD_use hS (rfl : ze83_0.1[78]? = some (0, 1, (13, (1, (.ofNat 77)), (0, (.ofNat 1))))) (by decide) (zEk h77.1) (zE0 ρ 1)
  have h79 : ρ[79]? = some (zbits 22 n5) ∧ (0 : Int) ≤ zbits 22 n5 ∧ zbits 22 n5 ≤ (22 : Int) := zD_use hS (rfl : ze83_0.1[79]? = some (0, 22, (10, (1, (.ofNat 76)), (1, (.ofNat 78))))) (by decide) (zEk h76.1) (zEk h78.1)
  have h80 := zD_use hS (rfl : ze83_0.1[80]? = some (0, 3, (17, (1, (.ofNat 5)), (0, (.ofNat 22))))) (by decide) (zEk b5) (zE0 ρ 22)
  have h81 := zD_use hS (rfl : ze83_0.1[81]? = some (0, 1, (13, (1, (.ofNat 80)), (0, (.ofNat 1))))) (by decide) (zEk h80.1) (zE0 ρ 1)
  have h82 : ρ[82]? = some (zbits 23 n5) ∧ (0 : Int) ≤ zbits 23 n5 ∧ zbits 23 n5 ≤ (23 : Int) := zD_use hS (rfl : ze83_0.1[82]? = some (0, 23, (10, (1, (.ofNat 79)), (1, (.ofNat 81))))) (by decide) (zEk h79.1) (zEk h81.1)
  have h83 := zD_use hS (rfl : ze83_0.1[83]? = some (0, 1, (17, (1, (.ofNat 5)), (0, (.ofNat 23))))) (by decide) (zEk b5) (zE0 ρ 23)
  have h84 := zD_use hS (rfl : ze83_0.1[84]? = some (0, 1, (13, (1, (.ofNat 83)), (0, (.ofNat 1))))) (by decide) (zEk h83.1) (zE0 ρ 1)
  have h85 : ρ[85]? = some (zbits 24 n5) ∧ (9 : Int) ≤ zbits 24 n5 ∧ zbits 24 n5 ≤ (24 : Int) := zD_use hS (rfl : ze83_0.1[85]? = some (9, 24, (10, (1, (.ofNat 82)), (1, (.ofNat 84))))) (by decide) (zEk h82.1) (zEk h84.1)
  have h86 := zD_use hS (rfl : ze83_0.1[86]? = some (1, 30, (10, (1, (.ofNat 6)), (0, (.ofNat 1))))) (by decide) (zEk b6) (zE0 ρ 1)
  have e := zmap_eq7 (ρ := ρ) (zval_E (a := (1, (.ofNat 0))) rfl (zEk b0)) (zval_E (a := (1, (.ofNat 1))) rfl (zEk b1)) (zval_E (a := (1, (.ofNat 9))) rfl (zEk h9.1)) (zval_E (a := (1, (.ofNat 3))) rfl (zEk b3)) (zval_E (a := (1, (.ofNat 4))) rfl (zEk b4)) (zval_E (a := (1, (.ofNat 5))) rfl (zEk b5)) (zval_E (a := (1, (.ofNat 86))) rfl (zEk h86.1))
  have hs : zb_c 10 n6 1 = n6 + 1 := zb10 (by omega) (by omega)
  have hb : zdb n5 (zdl (zdz n2)) = _ := zdb_r3 r5.1 r5.2 h11.2.1 h11.2.2 (by omega) h85.2.1
  rw [e, hs]
  refine ⟨n0, n1, zdz n2, n3, n4, _, n6 + 1, rfl, q1, q2, q3, q4, by omega, q6, by omega, ?_⟩
  rw [zdI_s, hb] at q8
  exact q8
theorem zep_1 {k j : Nat} {ρ : List Int} (hp : zPf (zeII T k (j + 1)) ρ) (hS : zg_S ρ ze83_1.1) : zeII T k j ([(1, (.ofNat 0)), (1, (.ofNat 1)), (1, (.ofNat 9)), (1, (.ofNat 3)), (1, (.ofNat 4)), (1, (.ofNat 87)), (1, (.ofNat 88))].map (zval ρ)) := by
  obtain ⟨ns, hle, n0, n1, n2, n3, n4, n5, n6, rfl, q1, q2, q3, q4, q5, q6, q7, q8⟩ := hp
  have b0 : ρ[0]? = some n0 := hle 0 _ rfl
  have b1 : ρ[1]? = some n1 := hle 1 _ rfl
  have b2 : ρ[2]? = some n2 := hle 2 _ rfl
  have b3 : ρ[3]? = some n3 := hle 3 _ rfl
  have b4 : ρ[4]? = some n4 := hle 4 _ rfl
  have b5 : ρ[5]? = some n5 := hle 5 _ rfl
  have b6 : ρ[6]? = some n6 := hle 6 _ rfl
  have r5 : (0 : Int) ≤ n5 ∧ n5 ≤ 16777215 := zS_rng hS (rfl : ze83_1.1[5]? = some (0, 16777215, zD0)) b5
  have r6 : (0 : Int) ≤ n6 ∧ n6 ≤ 29 := zS_rng hS (rfl : ze83_1.1[6]? = some (0, 29, zD0)) b6
  have h7 := zD_use hS (rfl : ze83_1.1[7]? = some (0, 99, (20, (1, (.ofNat 0)), (0, (.ofNat 100))))) (by decide) (zEk b0) (zE0 ρ 100)
  have h8 := zD_use hS (rfl : ze83_1.1[8]? = some ((-2147483648), 2147483647, (12, (1, (.ofNat 2)), (0, (.ofNat 1103515245))))) (by decide) (zEk b2) (zE0 ρ 1103515245)
  have h9 : ρ[9]? = some (zdz n2) ∧ (-2147483648 : Int) ≤ zdz n2 ∧ zdz n2 ≤ (2147483647 : Int) := zD_use hS (rfl : ze83_1.1[9]? = some ((-2147483648), 2147483647, (10, (1, (.ofNat 8)), (0, (.ofNat 12345))))) (by decide) (zEk h8.1) (zE0 ρ 12345)
  have h10 := zD_use hS (rfl : ze83_1.1[10]? = some (0, 16777215, (18, (1, (.ofNat 9)), (0, (.ofNat 8))))) (by decide) (zEk h9.1) (zE0 ρ 8)
  have h11 : ρ[11]? = some (zdl (zdz n2)) ∧ (0 : Int) ≤ zdl (zdz n2) ∧ zdl (zdz n2) ≤ (23 : Int) := zD_use hS (rfl : ze83_1.1[11]? = some (0, 23, (20, (1, (.ofNat 10)), (0, (.ofNat 24))))) (by decide) (zEk h10.1) (zE0 ρ 24)
  have h12 : ρ[12]? = some (zb_c 17 n5 (zdl (zdz n2))) ∧ (0 : Int) ≤ zb_c 17 n5 (zdl (zdz n2)) ∧ zb_c 17 n5 (zdl (zdz n2)) ≤ (16777215 : Int) := zD_use hS (rfl : ze83_1.1[12]? = some (0, 16777215, (17, (1, (.ofNat 5)), (1, (.ofNat 11))))) (by decide) (zEk b5) (zEk h11.1)
  have h13 : ρ[13]? = some (zb_c 13 (zb_c 17 n5 (zdl (zdz n2))) 1) ∧ (0 : Int) ≤ zb_c 13 (zb_c 17 n5 (zdl (zdz n2))) 1 ∧ zb_c 13 (zb_c 17 n5 (zdl (zdz n2))) 1 ≤ (0 : Int) := zD_use hS (rfl : ze83_1.1[13]? = some (0, 0, (13, (1, (.ofNat 12)), (0, (.ofNat 1))))) (by decide) (zEk h12.1) (zE0 ρ 1)
  have h14 := zD_use hS (rfl : ze83_1.1[14]? = some (0, 16777215, (17, (1, (.ofNat 5)), (0, (.ofNat 0))))) (by decide) (zEk b5) (zE0 ρ 0)
  have h15 := zD_use hS (rfl : ze83_1.1[15]? = some (0, 1, (13, (1, (.ofNat 14)), (0, (.ofNat 1))))) (by decide) (zEk h14.1) (zE0 ρ 1)
  have h16 : ρ[16]? = some (zbits 1 n5) ∧ (0 : Int) ≤ zbits 1 n5 ∧ zbits 1 n5 ≤ (1 : Int) := zD_use hS (rfl : ze83_1.1[16]? = some (0, 1, (10, (0, (.ofNat 0)), (1, (.ofNat 15))))) (by decide) (zE0 ρ 0) (zEk h15.1)
  have h17 := zD_use hS (rfl : ze83_1.1[17]? = some (0, 8388607, (17, (1, (.ofNat 5)), (0, (.ofNat 1))))) (by decide) (zEk b5) (zE0 ρ 1)
  have h18 := zD_use hS (rfl : ze83_1.1[18]? = some (0, 1, (13, (1, (.ofNat 17)), (0, (.ofNat 1))))) (by decide) (zEk h17.1) (zE0 ρ 1)
  have h19 : ρ[19]? = some (zbits 2 n5) ∧ (0 : Int) ≤ zbits 2 n5 ∧ zbits 2 n5 ≤ (2 : Int) := zD_use hS (rfl : ze83_1.1[19]? = some (0, 2, (10, (1, (.ofNat 16)), (1, (.ofNat 18))))) (by decide) (zEk h16.1) (zEk h18.1)
  have h20 := zD_use hS (rfl : ze83_1.1[20]? = some (0, 4194303, (17, (1, (.ofNat 5)), (0, (.ofNat 2))))) (by decide) (zEk b5) (zE0 ρ 2)
  have h21 := zD_use hS (rfl : ze83_1.1[21]? = some (0, 1, (13, (1, (.ofNat 20)), (0, (.ofNat 1))))) (by decide) (zEk h20.1) (zE0 ρ 1)
  have h22 : ρ[22]? = some (zbits 3 n5) ∧ (0 : Int) ≤ zbits 3 n5 ∧ zbits 3 n5 ≤ (3 : Int) := zD_use hS (rfl : ze83_1.1[22]? = some (0, 3, (10, (1, (.ofNat 19)), (1, (.ofNat 21))))) (by decide) (zEk h19.1) (zEk h21.1)
  have h23 := zD_use hS (rfl : ze83_1.1[23]? = some (0, 2097151, (17, (1, (.ofNat 5)), (0, (.ofNat 3))))) (by decide) (zEk b5) (zE0 ρ 3)
  have h24 := zD_use hS (rfl : ze83_1.1[24]? = some (0, 1, (13, (1, (.ofNat 23)), (0, (.ofNat 1))))) (by decide) (zEk h23.1) (zE0 ρ 1)
  have h25 : ρ[25]? = some (zbits 4 n5) ∧ (0 : Int) ≤ zbits 4 n5 ∧ zbits 4 n5 ≤ (4 : Int) := zD_use hS (rfl : ze83_1.1[25]? = some (0, 4, (10, (1, (.ofNat 22)), (1, (.ofNat 24))))) (by decide) (zEk h22.1) (zEk h24.1)
  have h26 := zD_use hS (rfl : ze83_1.1[26]? = some (0, 1048575, (17, (1, (.ofNat 5)), (0, (.ofNat 4))))) (by decide) (zEk b5) (zE0 ρ 4)
  have h27 := zD_use hS (rfl : ze83_1.1[27]? = some (0, 1, (13, (1, (.ofNat 26)), (0, (.ofNat 1))))) (by decide) (zEk h26.1) (zE0 ρ 1)
  have h28 : ρ[28]? = some (zbits 5 n5) ∧ (0 : Int) ≤ zbits 5 n5 ∧ zbits 5 n5 ≤ (5 : Int) := zD_use hS (rfl : ze83_1.1[28]? = some (0, 5, (10, (1, (.ofNat 25)), (1, (.ofNat 27))))) (by decide) (zEk h25.1) (zEk h27.1)
  have h29 := zD_use hS (rfl : ze83_1.1[29]? = some (0, 524287, (17, (1, (.ofNat 5)), (0, (.ofNat 5))))) (by decide) (zEk b5) (zE0 ρ 5)
  have h30 := zD_use hS (rfl : ze83_1.1[30]? = some (0, 1, (13, (1, (.ofNat 29)), (0, (.ofNat 1))))) (by decide) (zEk h29.1) (zE0 ρ 1)
  have h31 : ρ[31]? = some (zbits 6 n5) ∧ (0 : Int) ≤ zbits 6 n5 ∧ zbits 6 n5 ≤ (6 : Int) := zD_use hS (rfl : ze83_1.1[31]? = some (0, 6, (10, (1, (.ofNat 28)), (1, (.ofNat 30))))) (by decide) (zEk h28.1) (zEk h30.1)
  have h32 := zD_use hS (rfl : ze83_1.1[32]? = some (0, 262143, (17, (1, (.ofNat 5)), (0, (.ofNat 6))))) (by decide) (zEk b5) (zE0 ρ 6)
  have h33 := zD_use hS (rfl : ze83_1.1[33]? = some (0, 1, (13, (1, (.ofNat 32)), (0, (.ofNat 1))))) (by decide) (zEk h32.1) (zE0 ρ 1)
  have h34 : ρ[34]? = some (zbits 7 n5) ∧ (0 : Int) ≤ zbits 7 n5 ∧ zbits 7 n5 ≤ (7 : Int) := zD_use hS (rfl : ze83_1.1[34]? = some (0, 7, (10, (1, (.ofNat 31)), (1, (.ofNat 33))))) (by decide) (zEk h31.1) (zEk h33.1)
  have h35 := zD_use hS (rfl : ze83_1.1[35]? = some (0, 131071, (17, (1, (.ofNat 5)), (0, (.ofNat 7))))) (by decide) (zEk b5) (zE0 ρ 7)
  have h36 := zD_use hS (rfl : ze83_1.1[36]? = some (0, 1, (13, (1, (.ofNat 35)), (0, (.ofNat 1))))) (by decide) (zEk h35.1) (zE0 ρ 1)
  have h37 : ρ[37]? = some (zbits 8 n5) ∧ (0 : Int) ≤ zbits 8 n5 ∧ zbits 8 n5 ≤ (8 : Int) := zD_use hS (rfl : ze83_1.1[37]? = some (0, 8, (10, (1, (.ofNat 34)), (1, (.ofNat 36))))) (by decide) (zEk h34.1) (zEk h36.1)
  have h38 := zD_use hS (rfl : ze83_1.1[38]? = some (0, 65535, (17, (1, (.ofNat 5)), (0, (.ofNat 8))))) (by decide) (zEk b5) (zE0 ρ 8)
  have h39 := zD_use hS (rfl : ze83_1.1[39]? = some (0, 1, (13, (1, (.ofNat 38)), (0, (.ofNat 1))))) (by decide) (zEk h38.1) (zE0 ρ 1)
  have h40 : ρ[40]? = some (zbits 9 n5) ∧ (0 : Int) ≤ zbits 9 n5 ∧ zbits 9 n5 ≤ (9 : Int) := zD_use hS (rfl : ze83_1.1[40]? = some (0, 9, (10, (1, (.ofNat 37)), (1, (.ofNat 39))))) (by decide) (zEk h37.1) (zEk h39.1)
  have h41 := zD_use hS (rfl : ze83_1.1[41]? = some (0, 32767, (17, (1, (.ofNat 5)), (0, (.ofNat 9))))) (by decide) (zEk b5) (zE0 ρ 9)
  have h42 := zD_use hS (rfl : ze83_1.1[42]? = some (0, 1, (13, (1, (.ofNat 41)), (0, (.ofNat 1))))) (by decide) (zEk h41.1) (zE0 ρ 1)
  have h43 : ρ[43]? = some (zbits 10 n5) ∧ (0 : Int) ≤ zbits 10 n5 ∧ zbits 10 n5 ≤ (10 : Int) := zD_use hS (rfl : ze83_1.1[43]? = some (0, 10, (10, (1, (.ofNat 40)), (1, (.ofNat 42))))) (by decide) (zEk h40.1) (zEk h42.1)
  have h44 := zD_use hS (rfl : ze83_1.1[44]? = some (0, 16383, (17, (1, (.ofNat 5)), (0, (.ofNat 10))))) (by decide) (zEk b5) (zE0 ρ 10)
  have h45 := zD_use hS (rfl : ze83_1.1[45]? = some (0, 1, (13, (1, (.ofNat 44)), (0, (.ofNat 1))))) (by decide) (zEk h44.1) (zE0 ρ 1)
  have h46 : ρ[46]? = some (zbits 11 n5) ∧ (0 : Int) ≤ zbits 11 n5 ∧ zbits 11 n5 ≤ (11 : Int) := zD_use hS (rfl : ze83_1.1[46]? = some (0, 11, (10, (1, (.ofNat 43)), (1, (.ofNat 45))))) (by decide) (zEk h43.1) (zEk h45.1)
  have h47 := zD_use hS (rfl : ze83_1.1[47]? = some (0, 8191, (17, (1, (.ofNat 5)), (0, (.ofNat 11))))) (by decide) (zEk b5) (zE0 ρ 11)
  have h48 := zD_use hS (rfl : ze83_1.1[48]? = some (0, 1, (13, (1, (.ofNat 47)), (0, (.ofNat 1))))) (by decide) (zEk h47.1) (zE0 ρ 1)
  have h49 : ρ[49]? = some (zbits 12 n5) ∧ (0 : Int) ≤ zbits 12 n5 ∧ zbits 12 n5 ≤ (12 : Int) := zD_use hS (rfl : ze83_1.1[49]? = some (0, 12, (10, (1, (.ofNat 46)), (1, (.ofNat 48))))) (by decide) (zEk h46.1) (zEk h48.1)
  have h50 := zD_use hS (rfl : ze83_1.1[50]? = some (0, 4095, (17, (1, (.ofNat 5)), (0, (.ofNat 12))))) (by decide) (zEk b5) (zE0 ρ 12)
  have h51 := zD_use hS (rfl : ze83_1.1[51]? = some (0, 1, (13, (1, (.ofNat 50)), (0, (.ofNat 1))))) (by decide) (zEk h50.1) (zE0 ρ 1)
  have h52 : ρ[52]? = some (zbits 13 n5) ∧ (0 : Int) ≤ zbits 13 n5 ∧ zbits 13 n5 ≤ (13 : Int) := zD_use hS (rfl : ze83_1.1[52]? = some (0, 13, (10, (1, (.ofNat 49)), (1, (.ofNat 51))))) (by decide) (zEk h49.1) (zEk h51.1)
  have h53 := zD_use hS (rfl : ze83_1.1[53]? = some (0, 2047, (17, (1, (.ofNat 5)), (0, (.ofNat 13))))) (by decide) (zEk b5) (zE0 ρ 13)
  have h54 := zD_use hS (rfl : ze83_1.1[54]? = some (0, 1, (13, (1, (.ofNat 53)), (0, (.ofNat 1))))) (by decide) (zEk h53.1) (zE0 ρ 1)
  have h55 : ρ[55]? = some (zbits 14 n5) ∧ (0 : Int) ≤ zbits 14 n5 ∧ zbits 14 n5 ≤ (14 : Int) := zD_use hS (rfl : ze83_1.1[55]? = some (0, 14, (10, (1, (.ofNat 52)), (1, (.ofNat 54))))) (by decide) (zEk h52.1) (zEk h54.1)
  have h56 := zD_use hS (rfl : ze83_1.1[56]? = some (0, 1023, (17, (1, (.ofNat 5)), (0, (.ofNat 14))))) (by decide) (zEk b5) (zE0 ρ 14)
  have h57 := zD_use hS (rfl : ze83_1.1[57]? = some (0, 1, (13, (1, (.ofNat 56)), (0, (.ofNat 1))))) (by decide) (zEk h56.1) (zE0 ρ 1)
  have h58 : ρ[58]? = some (zbits 15 n5) ∧ (0 : Int) ≤ zbits 15 n5 ∧ zbits 15 n5 ≤ (15 : Int) := zD_use hS (rfl : ze83_1.1[58]? = some (0, 15, (10, (1, (.ofNat 55)), (1, (.ofNat 57))))) (by decide) (zEk h55.1) (zEk h57.1)
  have h59 := zD_use hS (rfl : ze83_1.1[59]? = some (0, 511, (17, (1, (.ofNat 5)), (0, (.ofNat 15))))) (by decide) (zEk b5) (zE0 ρ 15)
  have h60 := zD_use hS (rfl : ze83_1.1[60]? = some (0, 1, (13, (1, (.ofNat 59)), (0, (.ofNat 1))))) (by decide) (zEk h59.1) (zE0 ρ 1)
  have h61 : ρ[61]? = some (zbits 16 n5) ∧ (0 : Int) ≤ zbits 16 n5 ∧ zbits 16 n5 ≤ (16 : Int) := zD_use hS (rfl : ze83_1.1[61]? = some (0, 16, (10, (1, (.ofNat 58)), (1, (.ofNat 60))))) (by decide) (zEk h58.1) (zEk h60.1)
  have h62 := zD_use hS (rfl : ze83_1.1[62]? = some (0, 255, (17, (1, (.ofNat 5)), (0, (.ofNat 16))))) (by decide) (zEk b5) (zE0 ρ 16)
  have h63 := zD_use hS (rfl : ze83_1.1[63]? = some (0, 1, (13, (1, (.ofNat 62)), (0, (.ofNat 1))))) (by decide) (zEk h62.1) (zE0 ρ 1)
  have h64 : ρ[64]? = some (zbits 17 n5) ∧ (0 : Int) ≤ zbits 17 n5 ∧ zbits 17 n5 ≤ (17 : Int) := zD_use hS (rfl : ze83_1.1[64]? = some (0, 17, (10, (1, (.ofNat 61)), (1, (.ofNat 63))))) (by decide) (zEk h61.1) (zEk h63.1)
  have h65 := zD_use hS (rfl : ze83_1.1[65]? = some (0, 127, (17, (1, (.ofNat 5)), (0, (.ofNat 17))))) (by decide) (zEk b5) (zE0 ρ 17)
  have h66 := zD_use hS (rfl : ze83_1.1[66]? = some (0, 1, (13, (1, (.ofNat 65)), (0, (.ofNat 1))))) (by decide) (zEk h65.1) (zE0 ρ 1)
  have h67 : ρ[67]? = some (zbits 18 n5) ∧ (0 : Int) ≤ zbits 18 n5 ∧ zbits 18 n5 ≤ (18 : Int) := zD_use hS (rfl : ze83_1.1[67]? = some (0, 18, (10, (1, (.ofNat 64)), (1, (.ofNat 66))))) (by decide) (zEk h64.1) (zEk h66.1)
  have h68 := zD_use hS (rfl : ze83_1.1[68]? = some (0, 63, (17, (1, (.ofNat 5)), (0, (.ofNat 18))))) (by decide) (zEk b5) (zE0 ρ 18)
  have h69 := zD_use hS (rfl : ze83_1.1[69]? = some (0, 1, (13, (1, (.ofNat 68)), (0, (.ofNat 1))))) (by decide) (zEk h68.1) (zE0 ρ 1)
  have h70 : ρ[70]? = some (zbits 19 n5) ∧ (0 : Int) ≤ zbits 19 n5 ∧ zbits 19 n5 ≤ (19 : Int) := zD_use hS (rfl : ze83_1.1[70]? = some (0, 19, (10, (1, (.ofNat 67)), (1, (.ofNat 69))))) (by decide) (zEk h67.1) (zEk h69.1)
  have h71 := zD_use hS (rfl : ze83_1.1[71]? = some (0, 31, (17, (1, (.ofNat 5)), (0, (.ofNat 19))))) (by decide) (zEk b5) (zE0 ρ 19)
  have h72 := zD_use hS (rfl : ze83_1.1[72]? = some (0, 1, (13, (1, (.ofNat 71)), (0, (.ofNat 1))))) (by decide) (zEk h71.1) (zE0 ρ 1)
  have h73 : ρ[73]? = some (zbits 20 n5) ∧ (0 : Int) ≤ zbits 20 n5 ∧ zbits 20 n5 ≤ (20 : Int) := zD_use hS (rfl : ze83_1.1[73]? = some (0, 20, (10, (1, (.ofNat 70)), (1, (.ofNat 72))))) (by decide) (zEk h70.1) (zEk h72.1)
  have h74 := zD_use hS (rfl : ze83_1.1[74]? = some (0, 15, (17, (1, (.ofNat 5)), (0, (.ofNat 20))))) (by decide) (zEk b5) (zE0 ρ 20)
  have h75 := zD_use hS (rfl : ze83_1.1[75]? = some (0, 1, (13, (1, (.ofNat 74)), (0, (.ofNat 1))))) (by decide) (zEk h74.1) (zE0 ρ 1)
  have h76 : ρ[76]? = some (zbits 21 n5) ∧ (0 : Int) ≤ zbits 21 n5 ∧ zbits 21 n5 ≤ (21 : Int) := zD_use hS (rfl : ze83_1.1[76]? = some (0, 21, (10, (1, (.ofNat 73)), (1, (.ofNat 75))))) (by decide) (zEk h73.1) (zEk h75.1)
  have h77 := zD_use hS (rfl : ze83_1.1[77]? = some (0, 7, (17, (1, (.ofNat 5)), (0, (.ofNat 21))))) (by decide) (zEk b5) (zE0 ρ 21)
  have h78 := zD_use hS (rfl : ze83_1.1[78]? = some (0, 1, (13, (1, (.ofNat 77)), (0, (.ofNat 1))))) (by decide) (zEk h77.1) (zE0 ρ 1)
  have h79 : ρ[79]? = some (zbits 22 n5) ∧ (0 : Int) ≤ zbits 22 n5 ∧ zbits 22 n5 ≤ (22 : Int) := zD_use hS (rfl : ze83_1.1[79]? = some (0, 22, (10, (1, (.ofNat 76)), (1, (.ofNat 78))))) (by decide) (zEk h76.1) (zEk h78.1)
  have h80 := zD_use hS (rfl : ze83_1.1[80]? = some (0, 3, (17, (1, (.ofNat 5)), (0, (.ofNat 22))))) (by decide) (zEk b5) (zE0 ρ 22)
  have h81 := zD_use hS (rfl : ze83_1.1[81]? = some (0, 1, (13, (1, (.ofNat 80)), (0, (.ofNat 1))))) (by decide) (zEk h80.1) (zE0 ρ 1)
  have h82 : ρ[82]? = some (zbits 23 n5) ∧ (0 : Int) ≤ zbits 23 n5 ∧ zbits 23 n5 ≤ (23 : Int) := zD_use hS (rfl : ze83_1.1[82]? = some (0, 23, (10, (1, (.ofNat 79)), (1, (.ofNat 81))))) (by decide) (zEk h79.1) (zEk h81.1)
  have h83 := zD_use hS (rfl : ze83_1.1[83]? = some (0, 1, (17, (1, (.ofNat 5)), (0, (.ofNat 23))))) (by decide) (zEk b5) (zE0 ρ 23)
  have h84 := zD_use hS (rfl : ze83_1.1[84]? = some (0, 1, (13, (1, (.ofNat 83)), (0, (.ofNat 1))))) (by decide) (zEk h83.1) (zE0 ρ 1)
  have h85 : ρ[85]? = some (zbits 24 n5) ∧ (0 : Int) ≤ zbits 24 n5 ∧ zbits 24 n5 ≤ (8 : Int) := zD_use hS (rfl : ze83_1.1[85]? = some (0, 8, (10, (1, (.ofNat 82)), (1, (.ofNat 84))))) (by decide) (zEk h82.1) (zEk h84.1)
  have h86 := zD_use hS (rfl : ze83_1.1[86]? = some (1, 8388608, (16, (0, (.ofNat 1)), (1, (.ofNat 11))))) (by decide) (zE0 ρ 1) (zEk h11.1)
  have h87 := zD_use hS (rfl : ze83_1.1[87]? = some (0, 16777215, (14, (1, (.ofNat 5)), (1, (.ofNat 86))))) (by decide) (zEk b5) (zEk h86.1)
  have h88 := zD_use hS (rfl : ze83_1.1[88]? = some (1, 30, (10, (1, (.ofNat 6)), (0, (.ofNat 1))))) (by decide) (zEk b6) (zE0 ρ 1)
  have e := zmap_eq7 (ρ := ρ) (zval_E (a := (1, (.ofNat 0))) rfl (zEk b0)) (zval_E (a := (1, (.ofNat 1))) rfl (zEk b1)) (zval_E (a := (1, (.ofNat 9))) rfl (zEk h9.1)) (zval_E (a := (1, (.ofNat 3))) rfl (zEk b3)) (zval_E (a := (1, (.ofNat 4))) rfl (zEk b4)) (zval_E (a := (1, (.ofNat 87))) rfl (zEk h87.1)) (zval_E (a := (1, (.ofNat 88))) rfl (zEk h88.1))
  have hs : zb_c 10 n6 1 = n6 + 1 := zb10 (by omega) (by omega)
  have hb : zdb n5 (zdl (zdz n2)) = _ := zdb_r2 r5.1 r5.2 h11.2.1 h11.2.2 (by omega) h85.2.2
  rw [e, hs]
  refine ⟨n0, n1, zdz n2, n3, n4, _, n6 + 1, rfl, q1, q2, q3, q4, by omega, q6, by omega, ?_⟩
  rw [zdI_s, hb] at q8
  exact q8
theorem zep_2 {k j : Nat} {ρ : List Int} (hp : zPf (zeII T k (j + 1)) ρ) (hS : zg_S ρ ze83_2.1) : zeII T k j ([(1, (.ofNat 0)), (1, (.ofNat 1)), (1, (.ofNat 9)), (1, (.ofNat 3)), (1, (.ofNat 4)), (1, (.ofNat 16)), (1, (.ofNat 17))].map (zval ρ)) := by
  obtain ⟨ns, hle, n0, n1, n2, n3, n4, n5, n6, rfl, q1, q2, q3, q4, q5, q6, q7, q8⟩ := hp
  have b0 : ρ[0]? = some n0 := hle 0 _ rfl
  have b1 : ρ[1]? = some n1 := hle 1 _ rfl
  have b2 : ρ[2]? = some n2 := hle 2 _ rfl
  have b3 : ρ[3]? = some n3 := hle 3 _ rfl
  have b4 : ρ[4]? = some n4 := hle 4 _ rfl
  have b5 : ρ[5]? = some n5 := hle 5 _ rfl
  have b6 : ρ[6]? = some n6 := hle 6 _ rfl
  have r5 : (0 : Int) ≤ n5 ∧ n5 ≤ 16777215 := zS_rng hS (rfl : ze83_2.1[5]? = some (0, 16777215, zD0)) b5
  have r6 : (0 : Int) ≤ n6 ∧ n6 ≤ 29 := zS_rng hS (rfl : ze83_2.1[6]? = some (0, 29, zD0)) b6
  have h7 := zD_use hS (rfl : ze83_2.1[7]? = some (0, 99, (20, (1, (.ofNat 0)), (0, (.ofNat 100))))) (by decide) (zEk b0) (zE0 ρ 100)
  have h8 := zD_use hS (rfl : ze83_2.1[8]? = some ((-2147483648), 2147483647, (12, (1, (.ofNat 2)), (0, (.ofNat 1103515245))))) (by decide) (zEk b2) (zE0 ρ 1103515245)
  have h9 : ρ[9]? = some (zdz n2) ∧ (-2147483648 : Int) ≤ zdz n2 ∧ zdz n2 ≤ (2147483647 : Int) := zD_use hS (rfl : ze83_2.1[9]? = some ((-2147483648), 2147483647, (10, (1, (.ofNat 8)), (0, (.ofNat 12345))))) (by decide) (zEk h8.1) (zE0 ρ 12345)
  have h10 := zD_use hS (rfl : ze83_2.1[10]? = some (0, 16777215, (18, (1, (.ofNat 9)), (0, (.ofNat 8))))) (by decide) (zEk h9.1) (zE0 ρ 8)
  have h11 : ρ[11]? = some (zdl (zdz n2)) ∧ (0 : Int) ≤ zdl (zdz n2) ∧ zdl (zdz n2) ≤ (23 : Int) := zD_use hS (rfl : ze83_2.1[11]? = some (0, 23, (20, (1, (.ofNat 10)), (0, (.ofNat 24))))) (by decide) (zEk h10.1) (zE0 ρ 24)
  have h12 : ρ[12]? = some (zb_c 17 n5 (zdl (zdz n2))) ∧ (0 : Int) ≤ zb_c 17 n5 (zdl (zdz n2)) ∧ zb_c 17 n5 (zdl (zdz n2)) ≤ (16777215 : Int) := zD_use hS (rfl : ze83_2.1[12]? = some (0, 16777215, (17, (1, (.ofNat 5)), (1, (.ofNat 11))))) (by decide) (zEk b5) (zEk h11.1)
  have h13 : ρ[13]? = some (zb_c 13 (zb_c 17 n5 (zdl (zdz n2))) 1) ∧ (1 : Int) ≤ zb_c 13 (zb_c 17 n5 (zdl (zdz n2))) 1 ∧ zb_c 13 (zb_c 17 n5 (zdl (zdz n2))) 1 ≤ (1 : Int) := zD_use hS (rfl : ze83_2.1[13]? = some (1, 1, (13, (1, (.ofNat 12)), (0, (.ofNat 1))))) (by decide) (zEk h12.1) (zE0 ρ 1)
  have h14 := zD_use hS (rfl : ze83_2.1[14]? = some (1, 8388608, (16, (0, (.ofNat 1)), (1, (.ofNat 11))))) (by decide) (zE0 ρ 1) (zEk h11.1)
  have h15 := zD_use hS (rfl : ze83_2.1[15]? = some ((-2147483648), 2147483647, (15, (1, (.ofNat 14)), (0, (.negSucc 0))))) (by decide) (zEk h14.1) (show zE ρ (0, .negSucc 0) (-1) from zE0 ρ (-1))
  have h16 := zD_use hS (rfl : ze83_2.1[16]? = some (0, 16777215, (13, (1, (.ofNat 5)), (1, (.ofNat 15))))) (by decide) (zEk b5) (zEk h15.1)
  have h17 := zD_use hS (rfl : ze83_2.1[17]? = some (1, 30, (10, (1, (.ofNat 6)), (0, (.ofNat 1))))) (by decide) (zEk b6) (zE0 ρ 1)
  have e := zmap_eq7 (ρ := ρ) (zval_E (a := (1, (.ofNat 0))) rfl (zEk b0)) (zval_E (a := (1, (.ofNat 1))) rfl (zEk b1)) (zval_E (a := (1, (.ofNat 9))) rfl (zEk h9.1)) (zval_E (a := (1, (.ofNat 3))) rfl (zEk b3)) (zval_E (a := (1, (.ofNat 4))) rfl (zEk b4)) (zval_E (a := (1, (.ofNat 16))) rfl (zEk h16.1)) (zval_E (a := (1, (.ofNat 17))) rfl (zEk h17.1))
  have hs : zb_c 10 n6 1 = n6 + 1 := zb10 (by omega) (by omega)
  have hb : zdb n5 (zdl (zdz n2)) = _ := zdb_r1 r5.1 r5.2 h11.2.1 h11.2.2 (by omega)
  rw [e, hs]
  refine ⟨n0, n1, zdz n2, n3, n4, _, n6 + 1, rfl, q1, q2, q3, q4, by omega, q6, by omega, ?_⟩
  rw [zdI_s, hb] at q8
  exact q8
theorem zeq_0 {k : Nat} {ρ : List Int} (hp : zPf (zeII T k 0) ρ) (hS : zg_S ρ ze61_0.1) : zeIO T k ([(1, (.ofNat 0)), (0, (.negSucc 0)), (1, (.ofNat 2)), (1, (.ofNat 8)), (1, (.ofNat 9))].map (zval ρ)) := by
  obtain ⟨ns, hle, n0, n1, n2, n3, n4, n5, n6, rfl, q1, q2, q3, q4, q5, q6, q7, q8⟩ := hp
  have b0 : ρ[0]? = some n0 := hle 0 _ rfl
  have b1 : ρ[1]? = some n1 := hle 1 _ rfl
  have b2 : ρ[2]? = some n2 := hle 2 _ rfl
  have b3 : ρ[3]? = some n3 := hle 3 _ rfl
  have b4 : ρ[4]? = some n4 := hle 4 _ rfl
  have b5 : ρ[5]? = some n5 := hle 5 _ rfl
  have b6 : ρ[6]? = some n6 := hle 6 _ rfl
  have r1 : ((-1) : Int) ≤ n1 ∧ n1 ≤ (-1) := zS_rng hS (rfl : ze61_0.1[1]? = some ((-1), (-1), zD0)) b1
  have r4 : (0 : Int) ≤ n4 ∧ n4 ≤ 29 := zS_rng hS (rfl : ze61_0.1[4]? = some (0, 29, zD0)) b4
  have h7 := zD_use hS (rfl : ze61_0.1[7]? = some (0, 99, (20, (1, (.ofNat 0)), (0, (.ofNat 100))))) (by decide) (zEk b0) (zE0 ρ 100)
  have h8 := zD_use hS (rfl : ze61_0.1[8]? = some ((-2147483648), 2147483647, (10, (1, (.ofNat 3)), (0, (.ofNat 0))))) (by decide) (zEk b3) (zE0 ρ 0)
  have h9 := zD_use hS (rfl : ze61_0.1[9]? = some (1, 30, (10, (1, (.ofNat 4)), (0, (.ofNat 1))))) (by decide) (zEk b4) (zE0 ρ 1)
  have em : n1 = -1 := by omega
  have e := zmap_eq5 (ρ := ρ) (zval_E (a := (1, (.ofNat 0))) rfl (zEk b0)) (zval_E (a := (0, (.negSucc 0))) rfl (show zE ρ (0, .negSucc 0) n1 from by rw [em]; exact zE0 ρ (-1))) (zval_E (a := (1, (.ofNat 2))) rfl (zEk b2)) (zval_E (a := (1, (.ofNat 8))) rfl (zEk h8.1)) (zval_E (a := (1, (.ofNat 9))) rfl (zEk h9.1))
  have hs : zb_c 10 n4 1 = n4 + 1 := zb10 (by omega) (by omega)
  rw [e, hs]
  refine ⟨n0, n1, n2, _, n4 + 1, rfl, by omega, q2, q3, q4, by omega, ?_⟩
  exact ⟨q8.1, fun h => absurd (by omega) h⟩
theorem zeq_1 {k : Nat} {ρ : List Int} (hp : zPf (zeII T k 0) ρ) (hS : zg_S ρ ze61_1.1) : zeIO T k ([(1, (.ofNat 0)), (1, (.ofNat 1)), (1, (.ofNat 2)), (1, (.ofNat 10)), (1, (.ofNat 11))].map (zval ρ)) := by
  obtain ⟨ns, hle, n0, n1, n2, n3, n4, n5, n6, rfl, q1, q2, q3, q4, q5, q6, q7, q8⟩ := hp
  have b0 : ρ[0]? = some n0 := hle 0 _ rfl
  have b1 : ρ[1]? = some n1 := hle 1 _ rfl
  have b2 : ρ[2]? = some n2 := hle 2 _ rfl
  have b3 : ρ[3]? = some n3 := hle 3 _ rfl
  have b4 : ρ[4]? = some n4 := hle 4 _ rfl
  have b5 : ρ[5]? = some n5 := hle 5 _ rfl
  have b6 : ρ[6]? = some n6 := hle 6 _ rfl
  have r1 : (0 : Int) ≤ n1 ∧ n1 ≤ 23 := zS_rng hS (rfl : ze61_1.1[1]? = some (0, 23, zD0)) b1
  have r4 : (0 : Int) ≤ n4 ∧ n4 ≤ 29 := zS_rng hS (rfl : ze61_1.1[4]? = some (0, 29, zD0)) b4
  have h7 := zD_use hS (rfl : ze61_1.1[7]? = some (0, 99, (20, (1, (.ofNat 0)), (0, (.ofNat 100))))) (by decide) (zEk b0) (zE0 ρ 100)
  have h8 := zD_use hS (rfl : ze61_1.1[8]? = some (0, 16777215, (17, (1, (.ofNat 5)), (1, (.ofNat 1))))) (by decide) (zEk b5) (zEk b1)
  have h9 : ρ[9]? = some (zb_c 13 (zb_c 17 n5 n1) 1) ∧ (0 : Int) ≤ zb_c 13 (zb_c 17 n5 n1) 1 ∧ zb_c 13 (zb_c 17 n5 n1) 1 ≤ (0 : Int) := zD_use hS (rfl : ze61_1.1[9]? = some (0, 0, (13, (1, (.ofNat 8)), (0, (.ofNat 1))))) (by decide) (zEk h8.1) (zE0 ρ 1)
  have h10 := zD_use hS (rfl : ze61_1.1[10]? = some ((-2147483648), 2147483647, (10, (1, (.ofNat 3)), (0, (.ofNat 0))))) (by decide) (zEk b3) (zE0 ρ 0)
  have h11 := zD_use hS (rfl : ze61_1.1[11]? = some (1, 30, (10, (1, (.ofNat 4)), (0, (.ofNat 1))))) (by decide) (zEk b4) (zE0 ρ 1)
  have e := zmap_eq5 (ρ := ρ) (zval_E (a := (1, (.ofNat 0))) rfl (zEk b0)) (zval_E (a := (1, (.ofNat 1))) rfl (zEk b1)) (zval_E (a := (1, (.ofNat 2))) rfl (zEk b2)) (zval_E (a := (1, (.ofNat 10))) rfl (zEk h10.1)) (zval_E (a := (1, (.ofNat 11))) rfl (zEk h11.1))
  have hs : zb_c 10 n4 1 = n4 + 1 := zb10 (by omega) (by omega)
  rw [e, hs]
  refine ⟨n0, n1, n2, _, n4 + 1, rfl, by omega, q2, q3, q4, by omega, ?_⟩
  have hG : zdG n1 n5 = zb_c 13 (zb_c 17 n5 n1) 1 := if_neg (by omega)
  have hv : zb_c 13 (zb_c 17 n5 n1) 1 = 0 := by omega
  rw [hv] at hG
  refine ⟨q8.1, fun h => ?_⟩
  have q9 := q8.2 h
  rw [show (zdI 0 n2 n5).2 = n5 from rfl, hG] at q9
  exact q9
theorem zeq_2 {k : Nat} {ρ : List Int} (hp : zPf (zeII T k 0) ρ) (hS : zg_S ρ ze61_2.1) : zeIO T k ([(1, (.ofNat 0)), (1, (.ofNat 1)), (1, (.ofNat 2)), (1, (.ofNat 10)), (1, (.ofNat 11))].map (zval ρ)) := by
  obtain ⟨ns, hle, n0, n1, n2, n3, n4, n5, n6, rfl, q1, q2, q3, q4, q5, q6, q7, q8⟩ := hp
  have b0 : ρ[0]? = some n0 := hle 0 _ rfl
  have b1 : ρ[1]? = some n1 := hle 1 _ rfl
  have b2 : ρ[2]? = some n2 := hle 2 _ rfl
  have b3 : ρ[3]? = some n3 := hle 3 _ rfl
  have b4 : ρ[4]? = some n4 := hle 4 _ rfl
  have b5 : ρ[5]? = some n5 := hle 5 _ rfl
  have b6 : ρ[6]? = some n6 := hle 6 _ rfl
  have r1 : (0 : Int) ≤ n1 ∧ n1 ≤ 23 := zS_rng hS (rfl : ze61_2.1[1]? = some (0, 23, zD0)) b1
  have r4 : (0 : Int) ≤ n4 ∧ n4 ≤ 29 := zS_rng hS (rfl : ze61_2.1[4]? = some (0, 29, zD0)) b4
  have h7 := zD_use hS (rfl : ze61_2.1[7]? = some (0, 99, (20, (1, (.ofNat 0)), (0, (.ofNat 100))))) (by decide) (zEk b0) (zE0 ρ 100)
  have h8 := zD_use hS (rfl : ze61_2.1[8]? = some (0, 16777215, (17, (1, (.ofNat 5)), (1, (.ofNat 1))))) (by decide) (zEk b5) (zEk b1)
  have h9 : ρ[9]? = some (zb_c 13 (zb_c 17 n5 n1) 1) ∧ (1 : Int) ≤ zb_c 13 (zb_c 17 n5 n1) 1 ∧ zb_c 13 (zb_c 17 n5 n1) 1 ≤ (1 : Int) := zD_use hS (rfl : ze61_2.1[9]? = some (1, 1, (13, (1, (.ofNat 8)), (0, (.ofNat 1))))) (by decide) (zEk h8.1) (zE0 ρ 1)
  have h10 := zD_use hS (rfl : ze61_2.1[10]? = some ((-2147483648), 2147483647, (10, (1, (.ofNat 3)), (0, (.ofNat 1))))) (by decide) (zEk b3) (zE0 ρ 1)
  have h11 := zD_use hS (rfl : ze61_2.1[11]? = some (1, 30, (10, (1, (.ofNat 4)), (0, (.ofNat 1))))) (by decide) (zEk b4) (zE0 ρ 1)
  have e := zmap_eq5 (ρ := ρ) (zval_E (a := (1, (.ofNat 0))) rfl (zEk b0)) (zval_E (a := (1, (.ofNat 1))) rfl (zEk b1)) (zval_E (a := (1, (.ofNat 2))) rfl (zEk b2)) (zval_E (a := (1, (.ofNat 10))) rfl (zEk h10.1)) (zval_E (a := (1, (.ofNat 11))) rfl (zEk h11.1))
  have hs : zb_c 10 n4 1 = n4 + 1 := zb10 (by omega) (by omega)
  rw [e, hs]
  refine ⟨n0, n1, n2, _, n4 + 1, rfl, by omega, q2, q3, q4, by omega, ?_⟩
  have hG : zdG n1 n5 = zb_c 13 (zb_c 17 n5 n1) 1 := if_neg (by omega)
  have hv : zb_c 13 (zb_c 17 n5 n1) 1 = 1 := by omega
  rw [hv] at hG
  refine ⟨q8.1, fun h => ?_⟩
  have q9 := q8.2 h
  rw [show (zdI 0 n2 n5).2 = n5 from rfl, hG] at q9
  exact q9
theorem ze_92 {k j : Nat} (h : zGd l X 2000000 φ (zPf (zeII T k j)) Q 239 150 83 zeI_ []) : zGd l X 2000000 φ (zPf (zeII T k (j + 1))) Q 239 150 92 ze92 [] := by
  refine zGd_run (zPf_up _) (znf_ok _) (zOk_no l X _ φ _) (zcuts_g (fun t ht => ?_)) (by decide) zer_92
  rcases List.mem_cons.mp ht with rfl | ht
  · exact zGd_m (XL := 2000000) (XL' := 2000000) (by decide) zem_83_0 (fun ρ hp hS _ => zPf_self (zep_0 hp hS)) h
  · rcases List.mem_cons.mp ht with rfl | ht
    · exact zGd_m (XL := 2000000) (XL' := 2000000) (by decide) zem_83_1 (fun ρ hp hS _ => zPf_self (zep_1 hp hS)) h
    · rw [List.mem_singleton] at ht
      subst ht
      exact zGd_m (XL := 2000000) (XL' := 2000000) (by decide) zem_83_2 (fun ρ hp hS _ => zPf_self (zep_2 hp hS)) h
theorem ze_170 {k : Nat} (h : zGd l X 2000000 φ (zPf (zeIO T k)) Q 239 150 61 zeO_ []) : zGd l X 2000000 φ (zPf (zeII T k 0)) Q 239 150 170 ze170 [] := by
  refine zGd_run (zPf_up _) (znf_ok _) (zOk_no l X _ φ _) (zcuts_g (fun t ht => ?_)) (by decide) zer_170
  rcases List.mem_cons.mp ht with rfl | ht
  · exact zGd_m (XL := 2000000) (XL' := 2000000) (by decide) zem_61_0 (fun ρ hp hS _ => zPf_self (zeq_0 hp hS)) h
  · rcases List.mem_cons.mp ht with rfl | ht
    · exact zGd_m (XL := 2000000) (XL' := 2000000) (by decide) zem_61_1 (fun ρ hp hS _ => zPf_self (zeq_1 hp hS)) h
    · rw [List.mem_singleton] at ht
      subst ht
      exact zGd_m (XL := 2000000) (XL' := 2000000) (by decide) zem_61_2 (fun ρ hp hS _ => zPf_self (zeq_2 hp hS)) h
theorem ze_89 {k j : Nat} (hO : zGd l X 2000000 φ (zPf (zeIO T k)) Q 239 150 61 zeO_ []) (hI : ∀ j', j' < j → zGd l X 2000000 φ (zPf (zeII T k j')) Q 239 150 83 zeI_ []) : zGd l X 2000000 φ (zPf (zeII T k j)) Q 239 150 89 ze89 [] := by
  intro ρ ph lv st cst hp g gs
  obtain ⟨g1, g2, g3, g4, g5⟩ := g
  have hp0 := hp
  obtain ⟨ns, hle, n0, n1, n2, n3, n4, n5, n6, rfl, q1, q2, q3, q4, q5, q6, q7, q8⟩ := hp
  have b0 : ρ[0]? = some n0 := hle 0 _ rfl
  have b6 : ρ[6]? = some n6 := hle 6 _ rfl
  have r6 : (0 : Int) ≤ n6 ∧ n6 ≤ 30 := zS_rng g1 (rfl : ze89.1[6]? = some (0, 30, zD0)) b6
  have h7 := (zD_use g1 (rfl : ze89.1[7]? = some (0, 99, (20, (1, .ofNat 0), (0, .ofNat 100)))) (by decide) (zEk b0) (zE0 ρ 100)).1
  obtain ⟨x, z, rfl, ex, ez⟩ := zint2 (i := 7) (j := 6) h7 b6 g4
  refine zs_icmp_ge (tgt := 170) ze_d89 (by decide) (fun hc => ?_) (fun hc => ?_)
  · rw [Int32.le_iff_toInt_le] at hc
    have ej : j = 0 := by omega
    subst ej
    exact ze_170 hO ρ ph lv _ cst hp0 ⟨g1, g2, g3, trivial, g5⟩ gs
  · rw [Int32.le_iff_toInt_le] at hc
    obtain ⟨j', rfl⟩ : ∃ j', j = j' + 1 := ⟨j - 1, by omega⟩
    exact ze_92 (hI j' (by omega)) ρ ph lv _ cst hp0 ⟨zrf_g (a := (1, 6)) (q := (0, 29)) g1 (zEk (j := 6) b6) (by show 0 ≤ n6; omega) (by show n6 ≤ 29; omega), g2, g3, trivial, g5⟩ gs
theorem ze_I {k : Nat} (hO : zGd l X 2000000 φ (zPf (zeIO T k)) Q 239 150 61 zeO_ []) (j : Nat) : zGd l X 2000000 φ (zPf (zeII T k j)) Q 239 150 83 zeI_ [] := by
  induction j using Nat.strongRecOn with
  | ind j ih => exact zGd_run (zPf_up _) (znf_ok _) (zOk_no l X _ φ _) (zcut1 (ze_89 hO ih)) (by decide) zer_I
theorem ze_70 {k : Nat} (hI : ∀ j, zGd l X 2000000 φ (zPf (zeII T k j)) Q 239 150 83 zeI_ []) : zGd l X 2000000 φ (zPf (fun ns => zeIO T (k + 1) ns)) Q 239 150 70 ze70 [] := by
  refine zGd_run (zPf_up _) (znf_ok _) (zOk_no l X _ φ _) (zcut1 ?_) (by decide) zer_70
  refine zGd_m (XL := 2000000) (XL' := 2000000) (by decide) zem_83 (P0 := fun ρ => ∃ j, zPf (zeII T k j) ρ) (fun ρ hp hS _ => ?_) (zGd_ex hI)
  obtain ⟨ns, hle, n0, n1, n2, n3, n4, rfl, q1, q2, q3, q4, q5, q6⟩ := hp
  have b0 : ρ[0]? = some n0 := hle 0 _ rfl
  have b1 : ρ[1]? = some n1 := hle 1 _ rfl
  have b2 : ρ[2]? = some n2 := hle 2 _ rfl
  have b3 : ρ[3]? = some n3 := hle 3 _ rfl
  have b4 : ρ[4]? = some n4 := hle 4 _ rfl
  have e := zmap_eq7 (ρ := ρ) (zval_E (a := (1, (.ofNat 0))) rfl (zEk b0)) (zval_E (a := (1, (.ofNat 1))) rfl (zEk b1)) (zval_E (a := (1, (.ofNat 2))) rfl (zEk b2)) (zval_E (a := (1, (.ofNat 3))) rfl (zEk b3)) (zval_E (a := (1, (.ofNat 4))) rfl (zEk b4)) (zval_E (a := (0, (.ofNat 0))) rfl (zE0 ρ 0)) (zval_E (a := (0, (.ofNat 0))) rfl (zE0 ρ 0))
  rw [e]
  refine ⟨(zb_c 20 n0 100).toNat, zPf_self ⟨n0, n1, n2, n3, n4, 0, 0, rfl, by omega, q2, q3, q4, by omega, by omega, by omega, q6.1, fun h => ?_⟩⟩
  have q7 := q6.2 h
  rw [zdO_s] at q7
  exact q7
theorem ze_67 (hQ : zdQ Q T) {k : Nat} (hI : ∀ k' j, k = k' + 1 → zGd l X 2000000 φ (zPf (zeII T k' j)) Q 239 150 83 zeI_ []) : zGd l X 2000000 φ (zPf (zeIO T k)) Q 239 150 67 ze67 [] := by
  intro ρ ph lv st cst hp g gs
  obtain ⟨g1, g2, g3, g4, g5⟩ := g
  have hp0 := hp
  obtain ⟨ns, hle, n0, n1, n2, n3, n4, rfl, q1, q2, q3, q4, q5, q6⟩ := hp
  have b0 : ρ[0]? = some n0 := hle 0 _ rfl
  have b4 : ρ[4]? = some n4 := hle 4 _ rfl
  have r4 : (0 : Int) ≤ n4 ∧ n4 ≤ 30 := zS_rng g1 (rfl : ze67.1[4]? = some (0, 30, zD0)) b4
  have h5 := (zD_use g1 (rfl : ze67.1[5]? = some (1, 30, (19, (1, .ofNat 0), (0, .ofNat 100)))) (by decide) (zEk b0) (zE0 ρ 100)).1
  obtain ⟨x, z, rfl, ex, ez⟩ := zint2 (i := 5) (j := 4) h5 b4 g4
  refine zs_icmp_ge (tgt := 210) ze_d67 (by decide) (fun hc => ?_) (fun hc => ?_)
  · rw [Int32.le_iff_toInt_le] at hc
    have ek : k = 0 := by omega
    subst ek
    exact ze_210 hQ ρ ph lv _ cst ⟨_, hle, n1, n3, rfl, rfl, q6⟩ ⟨g1, g2, g3, trivial, g5⟩ gs
  · rw [Int32.le_iff_toInt_le] at hc
    obtain ⟨k', rfl⟩ : ∃ k', k = k' + 1 := ⟨k - 1, by omega⟩
    exact ze_70 (fun j => hI k' j rfl) ρ ph lv _ cst hp0 ⟨zrf_g (a := (1, 4)) (q := (0, 29)) g1 (zEk (j := 4) b4) (by show 0 ≤ n4; omega) (by show n4 ≤ 29; omega), g2, g3, trivial, g5⟩ gs
theorem ze_O (hQ : zdQ Q T) (k : Nat) : zGd l X 2000000 φ (zPf (zeIO T k)) Q 239 150 61 zeO_ [] := by
  induction k with
  | zero => exact zGd_run (zPf_up _) (znf_ok _) (zOk_no l X _ φ _) (zcut1 (ze_67 hQ (fun k' j h => absurd h (by omega)))) (by decide) zer_O
  | succ k ih => exact zGd_run (zPf_up _) (znf_ok _) (zOk_no l X _ φ _) (zcut1 (ze_67 hQ (fun k' j h => by
      have : k' = k := by omega
      subst this
      exact ze_I ih j))) (by decide) zer_O
theorem zdO_m : ∀ (n s : Nat) (z : Int), zdO n s z (-1) 0 = 0
  | 0, _, _ => rfl
  | n + 1, s, z => by
    rw [zdO_s]
    exact zdO_m n s _
/-- drawn of the reference -/
theorem zdR (seed nm line : Int) (h1 : 1 ≤ zb_c 19 nm 100) (h2 : zb_c 19 nm 100 ≤ 30) (h3 : 1 ≤ zb_c 20 nm 100) (h4 : zb_c 20 nm 100 ≤ 30) (hT : T = zdO (zb_c 19 nm 100).toNat (zb_c 20 nm 100).toNat seed line 0) (hQ : zdQ Q T) : zGd l X 2000000 φ (zPf (fun ns => ns = [seed, nm, line])) Q 239 150 0 zeE [] := by
  refine zGd_run (zPf_up _) (znf_ok _) (zOk_no l X _ φ _) (zcutM_g (XL' := 2000000) (by decide) (P0 := fun ρ => ∃ k, zPf (zeIO T k) ρ) (fun ρ hp => ?_) (zGd_ex (ze_O hQ))) (by decide) zer_E
  obtain ⟨ns, hle, rfl⟩ := hp
  have b0 : ρ[0]? = some seed := hle 0 _ rfl
  have b1 : ρ[1]? = some nm := hle 1 _ rfl
  have b2 : ρ[2]? = some line := hle 2 _ rfl
  have e := zmap_eq5 (ρ := ρ) (zval_E (a := (1, (.ofNat 1))) rfl (zEk b1)) (zval_E (a := (1, (.ofNat 2))) rfl (zEk b2)) (zval_E (a := (1, (.ofNat 0))) rfl (zEk b0)) (zval_E (a := (0, (.ofNat 0))) rfl (zE0 ρ 0)) (zval_E (a := (0, (.ofNat 0))) rfl (zE0 ρ 0))
  rw [e]
  refine ⟨(zb_c 19 nm 100).toNat, zPf_self ⟨nm, line, seed, 0, 0, rfl, by omega, h2, h3, h4, by omega, fun hl => ?_, fun _ => hT.symm⟩⟩
  rw [hT, hl]
  exact zdO_m _ _ _
end ZE
