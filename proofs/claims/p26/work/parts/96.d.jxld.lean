/-! the reference's load, from where the tape is empty; written by wip/jc/e6.py -/
section Jjxmld
variable {X : J_H → Prop}
def jxm_ld : jc_Cn := (200, 7, [.inr (some (some 359)), .inl (2, .ofNat 0)], (3, [(1, .ofNat 0, .ofNat 700), (2, .negSucc 2147483647, .ofNat 2147483647)], [(2940937, .inl (1, .ofNat 0))], [], [], [9, 12, 13, 14, 15, 16, 17, 18, 21, 22, 23, 24, 25]), [(359, 15, 16), (359, 16, 17), (359, 17, 18), (359, 18, 19), (359, 19, 20), (359, 20, 21), (359, 21, 22), (367, 0, 12), (361, 56, 196), (361, 203, 204), (359, 15, 16), (359, 16, 17), (359, 17, 18), (359, 18, 19), (359, 19, 20), (359, 20, 21), (359, 21, 22), (367, 0, 12), (361, 0, 56), (361, 202, 203), (360, 0, 602), (361, 0, 602), (366, 0, 12), (359, 0, 1), (359, 10, 11), (359, 11, 12), (359, 12, 13), (359, 13, 14), (359, 14, 15), (359, 9, 10)], [((2, [(1, .negSucc 0, .ofNat 5)], [(2940937, .inl (0, .ofNat 0))], [], [], [9, 12, 13, 14, 15, 16, 17, 18, 21, 22, 23, 24, 25]), some (.inl (1, .ofNat 0)))])
def jxm_ld_n28_0 : List jc_Nd := [(27, none, (2, [(1, .ofNat 0, .ofNat 700)], [(2940937, .inl (0, .ofNat 0))], [], [], [9, 12, 13, 14, 15, 16, 17, 18, 21, 22, 23, 24, 25]), [(0, .inr (some (some 359))), (1, .inl (1, .ofNat 0))])]
def jxm_ld_n93_0 : List jc_Nd := [(26, none, (2, [(1, .ofNat 0, .ofNat 700)], [(2940937, .inl (0, .ofNat 0)), (2957514, .inl (0, .ofNat 0)), (2957515, .inl (0, .ofNat 0))], [], [], [12, 13, 14, 15, 16, 17, 18, 21, 22, 23, 24, 25]), [(0, .inr (some (some 359))), (1, .inl (1, .ofNat 0)), (2, .inl (0, .ofNat 1))]),
    (25, none, (2, [(1, .ofNat 0, .ofNat 700)], [(2940937, .inl (0, .ofNat 0)), (2957514, .inl (0, .ofNat 1)), (2957515, .inl (0, .ofNat 0))], [], [], [12, 13, 14, 15, 16, 17, 18, 21, 22, 23, 24, 25]), [(0, .inr (some (some 359))), (1, .inl (1, .ofNat 0)), (2, .inl (0, .ofNat 1))]),
    (25, none, (2, [(1, .ofNat 0, .ofNat 700)], [(2940937, .inl (0, .ofNat 0)), (2957514, .inl (0, .ofNat 0)), (2957515, .inl (0, .ofNat 1))], [], [], [12, 13, 14, 15, 16, 17, 18, 21, 22, 23, 24, 25]), [(0, .inr (some (some 359))), (1, .inl (1, .ofNat 0)), (2, .inl (0, .ofNat 1))]),
    (24, none, (2, [(1, .ofNat 0, .ofNat 700)], [(2940937, .inl (0, .ofNat 0)), (2957514, .inl (0, .ofNat 2)), (2957515, .inl (0, .ofNat 0))], [], [], [12, 13, 14, 15, 16, 17, 18, 21, 22, 23, 24, 25]), [(0, .inr (some (some 359))), (1, .inl (1, .ofNat 0)), (2, .inl (0, .ofNat 1))])]
def jxm_ld_n93_1 : List jc_Nd := [(24, none, (2, [(1, .ofNat 0, .ofNat 700)], [(2940937, .inl (0, .ofNat 0)), (2957514, .inl (0, .ofNat 1)), (2957515, .inl (0, .ofNat 1))], [], [], [12, 13, 14, 15, 16, 17, 18, 21, 22, 23, 24, 25]), [(0, .inr (some (some 359))), (1, .inl (1, .ofNat 0)), (2, .inl (0, .ofNat 1))]),
    (24, none, (2, [(1, .ofNat 0, .ofNat 700)], [(2940937, .inl (0, .ofNat 0)), (2957514, .inl (0, .ofNat 0)), (2957515, .inl (0, .ofNat 2))], [], [], [12, 13, 14, 15, 16, 17, 18, 21, 22, 23, 24, 25]), [(0, .inr (some (some 359))), (1, .inl (1, .ofNat 0)), (2, .inl (0, .ofNat 1))]),
    (23, none, (2, [(1, .ofNat 0, .ofNat 700)], [(2940937, .inl (0, .ofNat 0)), (2957514, .inl (0, .ofNat 3)), (2957515, .inl (0, .ofNat 0))], [], [], [12, 13, 14, 15, 16, 17, 18, 21, 22, 23, 24, 25]), [(0, .inr (some (some 359))), (1, .inl (1, .ofNat 0)), (2, .inl (0, .ofNat 1))]),
    (23, none, (2, [(1, .ofNat 0, .ofNat 700)], [(2940937, .inl (0, .ofNat 0)), (2957514, .inl (0, .ofNat 2)), (2957515, .inl (0, .ofNat 1))], [], [], [12, 13, 14, 15, 16, 17, 18, 21, 22, 23, 24, 25]), [(0, .inr (some (some 359))), (1, .inl (1, .ofNat 0)), (2, .inl (0, .ofNat 1))])]
def jxm_ld_n93_2 : List jc_Nd := [(23, none, (2, [(1, .ofNat 0, .ofNat 700)], [(2940937, .inl (0, .ofNat 0)), (2957514, .inl (0, .ofNat 1)), (2957515, .inl (0, .ofNat 2))], [], [], [12, 13, 14, 15, 16, 17, 18, 21, 22, 23, 24, 25]), [(0, .inr (some (some 359))), (1, .inl (1, .ofNat 0)), (2, .inl (0, .ofNat 1))]),
    (23, none, (2, [(1, .ofNat 0, .ofNat 700)], [(2940937, .inl (0, .ofNat 0)), (2957514, .inl (0, .ofNat 0)), (2957515, .inl (0, .ofNat 3))], [], [], [12, 13, 14, 15, 16, 17, 18, 21, 22, 23, 24, 25]), [(0, .inr (some (some 359))), (1, .inl (1, .ofNat 0)), (2, .inl (0, .ofNat 1))]),
    (22, none, (2, [(1, .ofNat 0, .ofNat 700)], [(2940937, .inl (0, .ofNat 0)), (2957514, .inl (0, .ofNat 4)), (2957515, .inl (0, .ofNat 0))], [], [], [12, 13, 14, 15, 16, 17, 18, 21, 22, 23, 24, 25]), [(0, .inr (some (some 359))), (1, .inl (1, .ofNat 0)), (2, .inl (0, .ofNat 1))]),
    (22, none, (2, [(1, .ofNat 0, .ofNat 700)], [(2940937, .inl (0, .ofNat 0)), (2957514, .inl (0, .ofNat 3)), (2957515, .inl (0, .ofNat 1))], [], [], [12, 13, 14, 15, 16, 17, 18, 21, 22, 23, 24, 25]), [(0, .inr (some (some 359))), (1, .inl (1, .ofNat 0)), (2, .inl (0, .ofNat 1))])]
def jxm_ld_n93_3 : List jc_Nd := [(22, none, (2, [(1, .ofNat 0, .ofNat 700)], [(2940937, .inl (0, .ofNat 0)), (2957514, .inl (0, .ofNat 2)), (2957515, .inl (0, .ofNat 2))], [], [], [12, 13, 14, 15, 16, 17, 18, 21, 22, 23, 24, 25]), [(0, .inr (some (some 359))), (1, .inl (1, .ofNat 0)), (2, .inl (0, .ofNat 1))]),
    (22, none, (2, [(1, .ofNat 0, .ofNat 700)], [(2940937, .inl (0, .ofNat 0)), (2957514, .inl (0, .ofNat 1)), (2957515, .inl (0, .ofNat 3))], [], [], [12, 13, 14, 15, 16, 17, 18, 21, 22, 23, 24, 25]), [(0, .inr (some (some 359))), (1, .inl (1, .ofNat 0)), (2, .inl (0, .ofNat 1))]),
    (22, none, (2, [(1, .ofNat 0, .ofNat 700)], [(2940937, .inl (0, .ofNat 0)), (2957514, .inl (0, .ofNat 0)), (2957515, .inl (0, .ofNat 4))], [], [], [12, 13, 14, 15, 16, 17, 18, 21, 22, 23, 24, 25]), [(0, .inr (some (some 359))), (1, .inl (1, .ofNat 0)), (2, .inl (0, .ofNat 1))]),
    (21, none, (2, [(1, .ofNat 0, .ofNat 700)], [(2940937, .inl (0, .ofNat 0)), (2957514, .inl (0, .ofNat 5)), (2957515, .inl (0, .ofNat 0))], [], [], [12, 13, 14, 15, 16, 17, 18, 21, 22, 23, 24, 25]), [(0, .inr (some (some 359))), (1, .inl (1, .ofNat 0)), (2, .inl (0, .ofNat 1))])]
def jxm_ld_n93_4 : List jc_Nd := [(21, none, (2, [(1, .ofNat 0, .ofNat 700)], [(2940937, .inl (0, .ofNat 0)), (2957514, .inl (0, .ofNat 4)), (2957515, .inl (0, .ofNat 1))], [], [], [12, 13, 14, 15, 16, 17, 18, 21, 22, 23, 24, 25]), [(0, .inr (some (some 359))), (1, .inl (1, .ofNat 0)), (2, .inl (0, .ofNat 1))]),
    (21, none, (2, [(1, .ofNat 0, .ofNat 700)], [(2940937, .inl (0, .ofNat 0)), (2957514, .inl (0, .ofNat 3)), (2957515, .inl (0, .ofNat 2))], [], [], [12, 13, 14, 15, 16, 17, 18, 21, 22, 23, 24, 25]), [(0, .inr (some (some 359))), (1, .inl (1, .ofNat 0)), (2, .inl (0, .ofNat 1))]),
    (21, none, (2, [(1, .ofNat 0, .ofNat 700)], [(2940937, .inl (0, .ofNat 0)), (2957514, .inl (0, .ofNat 2)), (2957515, .inl (0, .ofNat 3))], [], [], [12, 13, 14, 15, 16, 17, 18, 21, 22, 23, 24, 25]), [(0, .inr (some (some 359))), (1, .inl (1, .ofNat 0)), (2, .inl (0, .ofNat 1))]),
    (21, none, (2, [(1, .ofNat 0, .ofNat 700)], [(2940937, .inl (0, .ofNat 0)), (2957514, .inl (0, .ofNat 1)), (2957515, .inl (0, .ofNat 4))], [], [], [12, 13, 14, 15, 16, 17, 18, 21, 22, 23, 24, 25]), [(0, .inr (some (some 359))), (1, .inl (1, .ofNat 0)), (2, .inl (0, .ofNat 1))])]
def jxm_ld_n93_5 : List jc_Nd := [(21, none, (2, [(1, .ofNat 0, .ofNat 700)], [(2940937, .inl (0, .ofNat 0)), (2957514, .inl (0, .ofNat 0)), (2957515, .inl (0, .ofNat 5))], [], [], [12, 13, 14, 15, 16, 17, 18, 21, 22, 23, 24, 25]), [(0, .inr (some (some 359))), (1, .inl (1, .ofNat 0)), (2, .inl (0, .ofNat 1))]),
    (20, none, (2, [(1, .ofNat 0, .ofNat 700)], [(2940937, .inl (0, .ofNat 0)), (2957514, .inl (0, .ofNat 6)), (2957515, .inl (0, .ofNat 0))], [], [], [12, 13, 14, 15, 16, 17, 18, 21, 22, 23, 24, 25]), [(0, .inr (some (some 359))), (1, .inl (1, .ofNat 0)), (2, .inl (0, .ofNat 1))]),
    (20, none, (2, [(1, .ofNat 0, .ofNat 700)], [(2940937, .inl (0, .ofNat 0)), (2957514, .inl (0, .ofNat 5)), (2957515, .inl (0, .ofNat 1))], [], [], [12, 13, 14, 15, 16, 17, 18, 21, 22, 23, 24, 25]), [(0, .inr (some (some 359))), (1, .inl (1, .ofNat 0)), (2, .inl (0, .ofNat 1))]),
    (20, none, (2, [(1, .ofNat 0, .ofNat 700)], [(2940937, .inl (0, .ofNat 0)), (2957514, .inl (0, .ofNat 4)), (2957515, .inl (0, .ofNat 2))], [], [], [12, 13, 14, 15, 16, 17, 18, 21, 22, 23, 24, 25]), [(0, .inr (some (some 359))), (1, .inl (1, .ofNat 0)), (2, .inl (0, .ofNat 1))])]
def jxm_ld_n93_6 : List jc_Nd := [(20, none, (2, [(1, .ofNat 0, .ofNat 700)], [(2940937, .inl (0, .ofNat 0)), (2957514, .inl (0, .ofNat 3)), (2957515, .inl (0, .ofNat 3))], [], [], [12, 13, 14, 15, 16, 17, 18, 21, 22, 23, 24, 25]), [(0, .inr (some (some 359))), (1, .inl (1, .ofNat 0)), (2, .inl (0, .ofNat 1))]),
    (20, none, (2, [(1, .ofNat 0, .ofNat 700)], [(2940937, .inl (0, .ofNat 0)), (2957514, .inl (0, .ofNat 2)), (2957515, .inl (0, .ofNat 4))], [], [], [12, 13, 14, 15, 16, 17, 18, 21, 22, 23, 24, 25]), [(0, .inr (some (some 359))), (1, .inl (1, .ofNat 0)), (2, .inl (0, .ofNat 1))]),
    (20, none, (2, [(1, .ofNat 0, .ofNat 700)], [(2940937, .inl (0, .ofNat 0)), (2957514, .inl (0, .ofNat 1)), (2957515, .inl (0, .ofNat 5))], [], [], [12, 13, 14, 15, 16, 17, 18, 21, 22, 23, 24, 25]), [(0, .inr (some (some 359))), (1, .inl (1, .ofNat 0)), (2, .inl (0, .ofNat 1))]),
    (19, none, (2, [(1, .ofNat 0, .ofNat 700)], [(2940937, .inl (0, .ofNat 0)), (2957514, .inl (0, .ofNat 7)), (2957515, .inl (0, .ofNat 0))], [], [], [12, 13, 14, 15, 16, 17, 18, 21, 22, 23, 24, 25]), [(0, .inr (some (some 359))), (1, .inl (1, .ofNat 0)), (2, .inl (0, .ofNat 1))])]
def jxm_ld_n93_7 : List jc_Nd := [(19, none, (2, [(1, .ofNat 0, .ofNat 700)], [(2940937, .inl (0, .ofNat 0)), (2957514, .inl (0, .ofNat 6)), (2957515, .inl (0, .ofNat 1))], [], [], [12, 13, 14, 15, 16, 17, 18, 21, 22, 23, 24, 25]), [(0, .inr (some (some 359))), (1, .inl (1, .ofNat 0)), (2, .inl (0, .ofNat 1))]),
    (19, none, (2, [(1, .ofNat 0, .ofNat 700)], [(2940937, .inl (0, .ofNat 0)), (2957514, .inl (0, .ofNat 5)), (2957515, .inl (0, .ofNat 2))], [], [], [12, 13, 14, 15, 16, 17, 18, 21, 22, 23, 24, 25]), [(0, .inr (some (some 359))), (1, .inl (1, .ofNat 0)), (2, .inl (0, .ofNat 1))]),
    (19, none, (2, [(1, .ofNat 0, .ofNat 700)], [(2940937, .inl (0, .ofNat 0)), (2957514, .inl (0, .ofNat 4)), (2957515, .inl (0, .ofNat 3))], [], [], [12, 13, 14, 15, 16, 17, 18, 21, 22, 23, 24, 25]), [(0, .inr (some (some 359))), (1, .inl (1, .ofNat 0)), (2, .inl (0, .ofNat 1))]),
    (19, none, (2, [(1, .ofNat 0, .ofNat 700)], [(2940937, .inl (0, .ofNat 0)), (2957514, .inl (0, .ofNat 3)), (2957515, .inl (0, .ofNat 4))], [], [], [12, 13, 14, 15, 16, 17, 18, 21, 22, 23, 24, 25]), [(0, .inr (some (some 359))), (1, .inl (1, .ofNat 0)), (2, .inl (0, .ofNat 1))])]
def jxm_ld_n93_8 : List jc_Nd := [(19, none, (2, [(1, .ofNat 0, .ofNat 700)], [(2940937, .inl (0, .ofNat 0)), (2957514, .inl (0, .ofNat 2)), (2957515, .inl (0, .ofNat 5))], [], [], [12, 13, 14, 15, 16, 17, 18, 21, 22, 23, 24, 25]), [(0, .inr (some (some 359))), (1, .inl (1, .ofNat 0)), (2, .inl (0, .ofNat 1))]),
    (18, none, (2, [(1, .ofNat 0, .ofNat 700)], [(2940937, .inl (0, .ofNat 0)), (2957514, .inl (0, .ofNat 7)), (2957515, .inl (0, .ofNat 1))], [], [], [12, 13, 14, 15, 16, 17, 18, 21, 22, 23, 24, 25]), [(0, .inr (some (some 359))), (1, .inl (1, .ofNat 0)), (2, .inl (0, .ofNat 1))]),
    (18, none, (2, [(1, .ofNat 0, .ofNat 700)], [(2940937, .inl (0, .ofNat 0)), (2957514, .inl (0, .ofNat 6)), (2957515, .inl (0, .ofNat 2))], [], [], [12, 13, 14, 15, 16, 17, 18, 21, 22, 23, 24, 25]), [(0, .inr (some (some 359))), (1, .inl (1, .ofNat 0)), (2, .inl (0, .ofNat 1))]),
    (18, none, (2, [(1, .ofNat 0, .ofNat 700)], [(2940937, .inl (0, .ofNat 0)), (2957514, .inl (0, .ofNat 5)), (2957515, .inl (0, .ofNat 3))], [], [], [12, 13, 14, 15, 16, 17, 18, 21, 22, 23, 24, 25]), [(0, .inr (some (some 359))), (1, .inl (1, .ofNat 0)), (2, .inl (0, .ofNat 1))])]
def jxm_ld_n93_9 : List jc_Nd := [(18, none, (2, [(1, .ofNat 0, .ofNat 700)], [(2940937, .inl (0, .ofNat 0)), (2957514, .inl (0, .ofNat 4)), (2957515, .inl (0, .ofNat 4))], [], [], [12, 13, 14, 15, 16, 17, 18, 21, 22, 23, 24, 25]), [(0, .inr (some (some 359))), (1, .inl (1, .ofNat 0)), (2, .inl (0, .ofNat 1))]),
    (18, none, (2, [(1, .ofNat 0, .ofNat 700)], [(2940937, .inl (0, .ofNat 0)), (2957514, .inl (0, .ofNat 3)), (2957515, .inl (0, .ofNat 5))], [], [], [12, 13, 14, 15, 16, 17, 18, 21, 22, 23, 24, 25]), [(0, .inr (some (some 359))), (1, .inl (1, .ofNat 0)), (2, .inl (0, .ofNat 1))]),
    (17, none, (2, [(1, .ofNat 0, .ofNat 700)], [(2940937, .inl (0, .ofNat 0)), (2957514, .inl (0, .ofNat 7)), (2957515, .inl (0, .ofNat 2))], [], [], [12, 13, 14, 15, 16, 17, 18, 21, 22, 23, 24, 25]), [(0, .inr (some (some 359))), (1, .inl (1, .ofNat 0)), (2, .inl (0, .ofNat 1))]),
    (17, none, (2, [(1, .ofNat 0, .ofNat 700)], [(2940937, .inl (0, .ofNat 0)), (2957514, .inl (0, .ofNat 6)), (2957515, .inl (0, .ofNat 3))], [], [], [12, 13, 14, 15, 16, 17, 18, 21, 22, 23, 24, 25]), [(0, .inr (some (some 359))), (1, .inl (1, .ofNat 0)), (2, .inl (0, .ofNat 1))])]
def jxm_ld_n93_10 : List jc_Nd := [(17, none, (2, [(1, .ofNat 0, .ofNat 700)], [(2940937, .inl (0, .ofNat 0)), (2957514, .inl (0, .ofNat 5)), (2957515, .inl (0, .ofNat 4))], [], [], [12, 13, 14, 15, 16, 17, 18, 21, 22, 23, 24, 25]), [(0, .inr (some (some 359))), (1, .inl (1, .ofNat 0)), (2, .inl (0, .ofNat 1))]),
    (17, none, (2, [(1, .ofNat 0, .ofNat 700)], [(2940937, .inl (0, .ofNat 0)), (2957514, .inl (0, .ofNat 4)), (2957515, .inl (0, .ofNat 5))], [], [], [12, 13, 14, 15, 16, 17, 18, 21, 22, 23, 24, 25]), [(0, .inr (some (some 359))), (1, .inl (1, .ofNat 0)), (2, .inl (0, .ofNat 1))]),
    (16, none, (2, [(1, .ofNat 0, .ofNat 700)], [(2940937, .inl (0, .ofNat 0)), (2957514, .inl (0, .ofNat 7)), (2957515, .inl (0, .ofNat 3))], [], [], [12, 13, 14, 15, 16, 17, 18, 21, 22, 23, 24, 25]), [(0, .inr (some (some 359))), (1, .inl (1, .ofNat 0)), (2, .inl (0, .ofNat 1))]),
    (16, none, (2, [(1, .ofNat 0, .ofNat 700)], [(2940937, .inl (0, .ofNat 0)), (2957514, .inl (0, .ofNat 6)), (2957515, .inl (0, .ofNat 4))], [], [], [12, 13, 14, 15, 16, 17, 18, 21, 22, 23, 24, 25]), [(0, .inr (some (some 359))), (1, .inl (1, .ofNat 0)), (2, .inl (0, .ofNat 1))])]
def jxm_ld_n93_11 : List jc_Nd := [(16, none, (2, [(1, .ofNat 0, .ofNat 700)], [(2940937, .inl (0, .ofNat 0)), (2957514, .inl (0, .ofNat 5)), (2957515, .inl (0, .ofNat 5))], [], [], [12, 13, 14, 15, 16, 17, 18, 21, 22, 23, 24, 25]), [(0, .inr (some (some 359))), (1, .inl (1, .ofNat 0)), (2, .inl (0, .ofNat 1))]),
    (15, none, (2, [(1, .ofNat 0, .ofNat 700)], [(2940937, .inl (0, .ofNat 0)), (2957514, .inl (0, .ofNat 7)), (2957515, .inl (0, .ofNat 4))], [], [], [12, 13, 14, 15, 16, 17, 18, 21, 22, 23, 24, 25]), [(0, .inr (some (some 359))), (1, .inl (1, .ofNat 0)), (2, .inl (0, .ofNat 1))]),
    (15, none, (2, [(1, .ofNat 0, .ofNat 700)], [(2940937, .inl (0, .ofNat 0)), (2957514, .inl (0, .ofNat 6)), (2957515, .inl (0, .ofNat 5))], [], [], [12, 13, 14, 15, 16, 17, 18, 21, 22, 23, 24, 25]), [(0, .inr (some (some 359))), (1, .inl (1, .ofNat 0)), (2, .inl (0, .ofNat 1))]),
    (14, none, (2, [(1, .ofNat 0, .ofNat 700)], [(2940937, .inl (0, .ofNat 0)), (2957514, .inl (0, .ofNat 7)), (2957515, .inl (0, .ofNat 5))], [], [], [12, 13, 14, 15, 16, 17, 18, 21, 22, 23, 24, 25]), [(0, .inr (some (some 359))), (1, .inl (1, .ofNat 0)), (2, .inl (0, .ofNat 1))])]
def jxm_ld_n152_0 : List jc_Nd := [(13, none, (2, [(1, .ofNat 0, .ofNat 700)], [(2940937, .inl (0, .ofNat 0))], [], [], [12, 14, 15, 16, 17, 18, 21, 22, 23, 24, 25]), [(0, .inr (some (some 359))), (1, .inl (1, .ofNat 0)), (2, .inl (0, .ofNat 1)), (3, .inl (0, .ofNat 0))]),
    (12, none, (2, [(1, .ofNat 0, .ofNat 700)], [(2940937, .inl (0, .ofNat 0))], [], [], [12, 14, 15, 16, 17, 18, 21, 22, 23, 24, 25]), [(0, .inr (some (some 359))), (1, .inl (1, .ofNat 0)), (2, .inl (0, .ofNat 1)), (3, .inl (0, .ofNat 1))]),
    (11, none, (2, [(1, .ofNat 0, .ofNat 700)], [(2940937, .inl (0, .ofNat 0))], [], [], [12, 14, 15, 16, 17, 18, 21, 22, 23, 24, 25]), [(0, .inr (some (some 359))), (1, .inl (1, .ofNat 0)), (2, .inl (0, .ofNat 1)), (3, .inl (0, .ofNat 2))]),
    (10, none, (2, [(1, .ofNat 0, .ofNat 700)], [(2940937, .inl (0, .ofNat 0))], [], [], [12, 14, 15, 16, 17, 18, 21, 22, 23, 24, 25]), [(0, .inr (some (some 359))), (1, .inl (1, .ofNat 0)), (2, .inl (0, .ofNat 1)), (3, .inl (0, .ofNat 3))]),
    (9, none, (2, [(1, .ofNat 0, .ofNat 700)], [(2940937, .inl (0, .ofNat 0))], [], [], [12, 14, 15, 16, 17, 18, 21, 22, 23, 24, 25]), [(0, .inr (some (some 359))), (1, .inl (1, .ofNat 0)), (2, .inl (0, .ofNat 1)), (3, .inl (0, .ofNat 4))]),
    (8, none, (2, [(1, .ofNat 0, .ofNat 700)], [(2940937, .inl (0, .ofNat 0))], [], [], [12, 14, 15, 16, 17, 18, 21, 22, 23, 24, 25]), [(0, .inr (some (some 359))), (1, .inl (1, .ofNat 0)), (2, .inl (0, .ofNat 1)), (3, .inl (0, .ofNat 5))]),
    (7, none, (2, [(1, .ofNat 0, .ofNat 700)], [(2940937, .inl (0, .ofNat 0))], [], [], [12, 14, 15, 16, 17, 18, 21, 22, 23, 24, 25]), [(0, .inr (some (some 359))), (1, .inl (1, .ofNat 0)), (2, .inl (0, .ofNat 1)), (3, .inl (0, .ofNat 6))]),
    (6, none, (2, [(1, .ofNat 0, .ofNat 700)], [(2940937, .inl (0, .ofNat 0))], [], [], [12, 14, 15, 16, 17, 18, 21, 22, 23, 24, 25]), [(0, .inr (some (some 359))), (1, .inl (1, .ofNat 0)), (2, .inl (0, .ofNat 1)), (3, .inl (0, .ofNat 7))]),
    (5, none, (2, [(1, .ofNat 0, .ofNat 700)], [(2940937, .inl (0, .ofNat 0))], [], [], [12, 14, 15, 16, 17, 18, 21, 22, 23, 24, 25]), [(0, .inr (some (some 359))), (1, .inl (1, .ofNat 0)), (2, .inl (0, .ofNat 1)), (3, .inl (0, .ofNat 8))]),
    (4, none, (2, [(1, .ofNat 0, .ofNat 700)], [(2940937, .inl (0, .ofNat 0))], [], [], [12, 14, 15, 16, 17, 18, 21, 22, 23, 24, 25]), [(0, .inr (some (some 359))), (1, .inl (1, .ofNat 0)), (2, .inl (0, .ofNat 1)), (3, .inl (0, .ofNat 9))]),
    (3, none, (2, [(1, .ofNat 0, .ofNat 700)], [(2940937, .inl (0, .ofNat 0))], [], [], [12, 14, 15, 16, 17, 18, 21, 22, 23, 24, 25]), [(0, .inr (some (some 359))), (1, .inl (1, .ofNat 0)), (2, .inl (0, .ofNat 1)), (3, .inl (0, .ofNat 10))]),
    (2, none, (2, [(1, .ofNat 0, .ofNat 700)], [(2940937, .inl (0, .ofNat 0))], [], [], [12, 14, 15, 16, 17, 18, 21, 22, 23, 24, 25]), [(0, .inr (some (some 359))), (1, .inl (1, .ofNat 0)), (2, .inl (0, .ofNat 1)), (3, .inl (0, .ofNat 11))]),
    (1, none, (2, [(1, .ofNat 0, .ofNat 700)], [(2940937, .inl (0, .ofNat 0))], [], [], [12, 14, 15, 16, 17, 18, 21, 22, 23, 24, 25]), [(0, .inr (some (some 359))), (1, .inl (1, .ofNat 0)), (2, .inl (0, .ofNat 1)), (3, .inl (0, .ofNat 12))])]
def jxm_ld_N : jc_Nt := [none,
  some [none, none, none, none, none, none, none, none, none, none, none, none, some (jxm_ld_n28_0), none, none, none],
  none,
  none,
  none,
  some [none, none, none, none, none, none, none, none, none, none, none, none, none, some ((jxm_ld_n93_0 ++ (jxm_ld_n93_1 ++ (jxm_ld_n93_2 ++ (jxm_ld_n93_3 ++ (jxm_ld_n93_4 ++ (jxm_ld_n93_5 ++ (jxm_ld_n93_6 ++ (jxm_ld_n93_7 ++ (jxm_ld_n93_8 ++ (jxm_ld_n93_9 ++ (jxm_ld_n93_10 ++ jxm_ld_n93_11)))))))))))), none, none],
  none,
  none,
  none,
  some [none, none, none, none, none, none, none, none, some (jxm_ld_n152_0), none, none, none, none, none, none, none]]
noncomputable def jxm_ld_Z : jc_Ce := (jxm, [], jT, [jxm_c48, jxm_c52, jxm_c53, jxm_c54, jxm_c55, jxm_c56, jxm_c57, jxm_c58, jxm_c59, jxm_c80, jxm_c81, jxm_c82, jxm_c83, jxm_c84, jxm_c85, jxm_g43, jxm_g42], jxm_S0, jxm_ld_N, 100000)
set_option maxRecDepth 1000000 in
theorem jxm_ld_k28_0 : jc_ndc jxm_ld_Z 100000 jxm_ld 28 jxm_ld_n28_0 = true := by decide +kernel
set_option maxRecDepth 1000000 in
theorem jxm_ld_k93_0 : jc_ndc jxm_ld_Z 100000 jxm_ld 93 jxm_ld_n93_0 = true := by decide +kernel
set_option maxRecDepth 1000000 in
theorem jxm_ld_k93_1 : jc_ndc jxm_ld_Z 100000 jxm_ld 93 jxm_ld_n93_1 = true := by decide +kernel
set_option maxRecDepth 1000000 in
theorem jxm_ld_k93_2 : jc_ndc jxm_ld_Z 100000 jxm_ld 93 jxm_ld_n93_2 = true := by decide +kernel
set_option maxRecDepth 1000000 in
theorem jxm_ld_k93_3 : jc_ndc jxm_ld_Z 100000 jxm_ld 93 jxm_ld_n93_3 = true := by decide +kernel
set_option maxRecDepth 1000000 in
theorem jxm_ld_k93_4 : jc_ndc jxm_ld_Z 100000 jxm_ld 93 jxm_ld_n93_4 = true := by decide +kernel
set_option maxRecDepth 1000000 in
theorem jxm_ld_k93_5 : jc_ndc jxm_ld_Z 100000 jxm_ld 93 jxm_ld_n93_5 = true := by decide +kernel
set_option maxRecDepth 1000000 in
theorem jxm_ld_k93_6 : jc_ndc jxm_ld_Z 100000 jxm_ld 93 jxm_ld_n93_6 = true := by decide +kernel
set_option maxRecDepth 1000000 in
theorem jxm_ld_k93_7 : jc_ndc jxm_ld_Z 100000 jxm_ld 93 jxm_ld_n93_7 = true := by decide +kernel
set_option maxRecDepth 1000000 in
theorem jxm_ld_k93_8 : jc_ndc jxm_ld_Z 100000 jxm_ld 93 jxm_ld_n93_8 = true := by decide +kernel
set_option maxRecDepth 1000000 in
theorem jxm_ld_k93_9 : jc_ndc jxm_ld_Z 100000 jxm_ld 93 jxm_ld_n93_9 = true := by decide +kernel
set_option maxRecDepth 1000000 in
theorem jxm_ld_k93_10 : jc_ndc jxm_ld_Z 100000 jxm_ld 93 jxm_ld_n93_10 = true := by decide +kernel
set_option maxRecDepth 1000000 in
theorem jxm_ld_k93_11 : jc_ndc jxm_ld_Z 100000 jxm_ld 93 jxm_ld_n93_11 = true := by decide +kernel
set_option maxRecDepth 1000000 in
theorem jxm_ld_k152_0 : jc_ndc jxm_ld_Z 100000 jxm_ld 152 jxm_ld_n152_0 = true := by decide +kernel
theorem jxm_ld_h : ∀ pc ns, ja_n2 jxm_ld_N pc = some ns → jc_ndc jxm_ld_Z 100000 jxm_ld pc ns = true := by
  intro pc ns h
  have hp := jc_inl_ok (ja_ch2_ok (p := fun i (_ : List jc_Nd) => jc_inl i [28, 93, 152]) (L := jxm_ld_N) (by decide +kernel) h)
  simp only [List.mem_cons, List.not_mem_nil, or_false] at hp
  rcases hp with rfl | rfl | rfl
  · exact (Option.some.inj (h.symm.trans (show ja_n2 jxm_ld_N 28 = some jxm_ld_n28_0 from rfl))) ▸ jxm_ld_k28_0
  · exact (Option.some.inj (h.symm.trans (show ja_n2 jxm_ld_N 93 = some (jxm_ld_n93_0 ++ (jxm_ld_n93_1 ++ (jxm_ld_n93_2 ++ (jxm_ld_n93_3 ++ (jxm_ld_n93_4 ++ (jxm_ld_n93_5 ++ (jxm_ld_n93_6 ++ (jxm_ld_n93_7 ++ (jxm_ld_n93_8 ++ (jxm_ld_n93_9 ++ (jxm_ld_n93_10 ++ jxm_ld_n93_11))))))))))) from rfl))) ▸ (jc_ndc_app jxm_ld_k93_0 (jc_ndc_app jxm_ld_k93_1 (jc_ndc_app jxm_ld_k93_2 (jc_ndc_app jxm_ld_k93_3 (jc_ndc_app jxm_ld_k93_4 (jc_ndc_app jxm_ld_k93_5 (jc_ndc_app jxm_ld_k93_6 (jc_ndc_app jxm_ld_k93_7 (jc_ndc_app jxm_ld_k93_8 (jc_ndc_app jxm_ld_k93_9 (jc_ndc_app jxm_ld_k93_10 jxm_ld_k93_11)))))))))))
  · exact (Option.some.inj (h.symm.trans (show ja_n2 jxm_ld_N 152 = some jxm_ld_n152_0 from rfl))) ▸ jxm_ld_k152_0
theorem jxm_ld_ok (hX : jc_Xo jxm X) (hg42 : jc_Con jP jxm X jxm_g42) (hg43 : jc_Con jP jxm X jxm_g43) (h0 : J_H) : ∀ pc ns n, ja_n2 jxm_ld_N pc = some ns → n ∈ ns → jc_Nd9 jP jxm X jxm_ld h0 pc n := jc_ndsc_ok (Z := jxm_ld_Z) (f := 100000) jxm_ok hX jT_ok (jc_c1 (jxm_c48_ok hX) (jc_c1 (jxm_c52_ok hX) (jc_c1 (jxm_c53_ok hX) (jc_c1 (jxm_c54_ok hX) (jc_c1 (jxm_c55_ok hX) (jc_c1 (jxm_c56_ok hX) (jc_c1 (jxm_c57_ok hX) (jc_c1 (jxm_c58_ok hX) (jc_c1 (jxm_c59_ok hX) (jc_c1 (jxm_c80_ok hX) (jc_c1 (jxm_c81_ok hX) (jc_c1 (jxm_c82_ok hX) (jc_c1 (jxm_c83_ok hX) (jc_c1 (jxm_c84_ok hX) (jc_c1 (jxm_c85_ok hX) (jc_c1 hg43 (jc_c1 hg42 jc_c0))))))))))))))))) (by
  have hb : (match ja_n2 jT jxm_ld.1 with
    | some _ => true
    | none => false) = true := by decide +kernel
  split at hb
  · rename_i q hq
    exact ⟨q, hq⟩
  · cases hb) jxm_ld_h h0
end Jjxmld
def jxm_ld28 : jc_Nd := (27, none, (2, [(1, .ofNat 0, .ofNat 700)], [(2940937, .inl (0, .ofNat 0))], [], [], [9, 12, 13, 14, 15, 16, 17, 18, 21, 22, 23, 24, 25]), [(0, .inr (some (some 359))), (1, .inl (1, .ofNat 0))])
def jxm_ldP : jc_Nt := [none,
  some [none, none, none, none, none, none, none, none, none, none, none, none, some ([jxm_ld28]), none, none, none]]
/-- load of a tape of t bytes, asked for a .. b of them; lo: whether it is refused -/
def jxm_ldc (t a b : Int) (lo : Bool) : jc_Cn := (200, jxm_ld.2.1, [.inr (some (some 359)), .inl (1, 0)], (2, [(1, a, b)], [(2940937, .inl (0, t))], [], [], [9, 12, 13, 14, 15, 16, 17, 18, 21, 22, 23, 24, 25]), jxm_ld.2.2.2.2.1, bif lo then [((1, [], [(2940937, .inl (0, t))], [], [], [9, 12, 13, 14, 15, 16, 17, 18, 21, 22, 23, 24, 25]), some (.inl (0, -1)))] else jxm_ld.2.2.2.2.2)
theorem jxm_ldc1 : (List.range 36).all (fun k => jc_mtg (jxm, [], jT, [], jxm_S0, jxm_ldP, 100000) 1000 (jxm_ldc (20 * k) 0 (20 * k) false)) = true := by decide +kernel
theorem jxm_ldc2 : (List.range 36).all (fun k => jc_mtg (jxm, [], jT, [], jxm_S0, [], 100000) 1000 (jxm_ldc (20 * k) (-2147483648) (-1) true)) = true := by decide +kernel
theorem jxm_ldc3 : (List.range 36).all (fun k => jc_mtg (jxm, [], jT, [], jxm_S0, [], 100000) 1000 (jxm_ldc (20 * k) (20 * k + 1) 2147483647 true)) = true := by decide +kernel
theorem jxm_ld_acc {X : J_H → Prop} (hX : jc_Xo jxm X) (hg42 : jc_Con jP jxm X jxm_g42) (hg43 : jc_Con jP jxm X jxm_g43) {k : Nat} (hk : k < 36) : jc_Con jP jxm X (jxm_ldc (20 * k) 0 (20 * k) false) := by
  refine jc_mtg_ok (Z := (jxm, [], jT, [], jxm_S0, jxm_ldP, 100000)) (f := 1000) jxm_ok hX jT_ok jc_c0 (List.all_eq_true.mp jxm_ldc1 k (List.mem_range.mpr hk)) (fun h0 pc ns n h1 h2 => ?_)
  have hp : (pc = 28 ∧ ns = [jxm_ld28]) := by
    have := ja_ch2_ok (p := fun i (ns : List jc_Nd) => Nat.beq i 28) (L := jxm_ldP) (by decide +kernel) h1
    have := Nat.eq_of_beq_eq_true this
    subst this
    exact ⟨rfl, (Option.some.inj h1).symm⟩
  obtain ⟨rfl, rfl⟩ := hp
  obtain rfl := List.mem_singleton.mp h2
  have hn : ja_n2 jxm_ld_N 28 = some jxm_ld_n28_0 := rfl
  exact (jxm_ld_ok hX hg42 hg43 h0 28 jxm_ld_n28_0 jxm_ld28 hn List.mem_cons_self).outs rfl (Nat.le_refl _) rfl (fun o ho => ho)
theorem jxm_ld_neg {X : J_H → Prop} (hX : jc_Xo jxm X) {k : Nat} (hk : k < 36) : jc_Con jP jxm X (jxm_ldc (20 * k) (-2147483648) (-1) true) := jc_mtg_ok (Z := (jxm, [], jT, [], jxm_S0, [], 100000)) (f := 1000) jxm_ok hX jT_ok jc_c0 (List.all_eq_true.mp jxm_ldc2 k (List.mem_range.mpr hk)) (fun h0 pc ns n h1 h2 => nomatch h1)
theorem jxm_ld_big {X : J_H → Prop} (hX : jc_Xo jxm X) {k : Nat} (hk : k < 36) : jc_Con jP jxm X (jxm_ldc (20 * k) (20 * k + 1) 2147483647 true) := jc_mtg_ok (Z := (jxm, [], jT, [], jxm_S0, [], 100000)) (f := 1000) jxm_ok hX jT_ok jc_c0 (List.all_eq_true.mp jxm_ldc3 k (List.mem_range.mpr hk)) (fun h0 pc ns n h1 h2 => nomatch h1)
