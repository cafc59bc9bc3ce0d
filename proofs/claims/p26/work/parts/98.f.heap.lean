/-! the heap behind both constructors: written by wip/p1/gen_heap.py -/
def jh_0 : J_H := [.inl (9, [.ref 1, .ref 3, .ref 4, .ref 29, .ref 281, .ref 325, .ref 327, .ref 343, .int 0]),
  .inl (8, [.ref 2, .int 0, .int 0, .int 0, .int 0, .int 0, .long 0, .int 0]),
  .inr (.inl (1, List.replicate 700 0)),
  .inl (4, [.ref 1, .null, .int (-1), .int (-1)]),
  .inl (7, [.ref 327, .int 0, .int 0, .int 0, .ref 5, .ref 6, .ref 7, .ref 8, .ref 9, .ref 10, .ref 11, .ref 12, .ref 13, .ref 14, .ref 15, .int 0, .ref 16, .ref 17, .ref 20]),
  .inr (.inl (0, List.replicate 5 0)),
  .inr (.inl (0, List.replicate 5 0)),
  .inr (.inl (0, List.replicate 5 0)),
  .inr (.inl (0, List.replicate 5 (-1))),
  .inr (.inl (0, List.replicate 5 (-1))),
  .inr (.inl (0, List.replicate 5 (-1))),
  .inr (.inl (0, List.replicate 5 0)),
  .inr (.inl (0, List.replicate 6 (-1))),
  .inr (.inl (0, List.replicate 6 0)),
  .inr (.inl (0, List.replicate 35 (-1))),
  .inr (.inl (0, List.replicate 35 (-1))),
  .inr (.inl (0, List.replicate 12 0)),
  .inl (5, [.ref 18, .int 0, .ref 19]),
  .inr (.inl (0, List.replicate 5 0)),
  .inr (.inl (0, List.replicate 5 0)),
  .inl (3, [.ref 21, .ref 22, .ref 23, .ref 24, .ref 25, .ref 26, .ref 27, .ref 28, .int 0, .int 1]),
  .inr (.inl (0, List.replicate 25 (-1))),
  .inr (.inl (0, List.replicate 25 (-1))),
  .inr (.inl (0, List.replicate 25 0)),
  .inr (.inl (0, List.replicate 7 0)),
  .inr (.inl (0, List.replicate 5 0)),
  .inr (.inl (0, List.replicate 6 0)),
  .inr (.inl (0, List.replicate 30 0)),
  .inr (.inl (0, List.replicate 260 0)),
  .inl (0, [.ref 30, .int 0, .int 0]),
  .inr (.inr (.inr [some 31, some 56, some 81, some 106, some 131, some 156, some 181, some 206, some 231, some 256]))]
def jh_1 : J_H := [.inl (7, [.null, .int 0, .int 0, .int 0, .ref 32, .ref 33, .ref 34, .ref 35, .ref 36, .ref 37, .ref 38, .ref 39, .ref 40, .ref 41, .ref 42, .int 0, .ref 43, .ref 44, .ref 47]),
  .inr (.inl (0, List.replicate 5 0)),
  .inr (.inl (0, List.replicate 5 0)),
  .inr (.inl (0, List.replicate 5 0)),
  .inr (.inl (0, List.replicate 5 0)),
  .inr (.inl (0, List.replicate 5 0)),
  .inr (.inl (0, List.replicate 5 0)),
  .inr (.inl (0, List.replicate 5 0)),
  .inr (.inl (0, List.replicate 6 0)),
  .inr (.inl (0, List.replicate 6 0)),
  .inr (.inl (0, List.replicate 35 0)),
  .inr (.inl (0, List.replicate 35 0)),
  .inr (.inl (0, List.replicate 12 0)),
  .inl (5, [.ref 45, .int 0, .ref 46]),
  .inr (.inl (0, List.replicate 5 0)),
  .inr (.inl (0, List.replicate 5 0)),
  .inl (3, [.ref 48, .ref 49, .ref 50, .ref 51, .ref 52, .ref 53, .ref 54, .ref 55, .int 0, .int 1]),
  .inr (.inl (0, List.replicate 25 0)),
  .inr (.inl (0, List.replicate 25 0)),
  .inr (.inl (0, List.replicate 25 0)),
  .inr (.inl (0, List.replicate 7 0)),
  .inr (.inl (0, List.replicate 5 0)),
  .inr (.inl (0, List.replicate 6 0)),
  .inr (.inl (0, List.replicate 30 0)),
  .inr (.inl (0, List.replicate 260 0)),
  .inl (7, [.null, .int 0, .int 0, .int 0, .ref 57, .ref 58, .ref 59, .ref 60, .ref 61, .ref 62, .ref 63, .ref 64, .ref 65, .ref 66, .ref 67, .int 0, .ref 68, .ref 69, .ref 72]),
  .inr (.inl (0, List.replicate 5 0)),
  .inr (.inl (0, List.replicate 5 0)),
  .inr (.inl (0, List.replicate 5 0)),
  .inr (.inl (0, List.replicate 5 0)),
  .inr (.inl (0, List.replicate 5 0))]
def jh_2 : J_H := [.inr (.inl (0, List.replicate 5 0)),
  .inr (.inl (0, List.replicate 5 0)),
  .inr (.inl (0, List.replicate 6 0)),
  .inr (.inl (0, List.replicate 6 0)),
  .inr (.inl (0, List.replicate 35 0)),
  .inr (.inl (0, List.replicate 35 0)),
  .inr (.inl (0, List.replicate 12 0)),
  .inl (5, [.ref 70, .int 0, .ref 71]),
  .inr (.inl (0, List.replicate 5 0)),
  .inr (.inl (0, List.replicate 5 0)),
  .inl (3, [.ref 73, .ref 74, .ref 75, .ref 76, .ref 77, .ref 78, .ref 79, .ref 80, .int 0, .int 1]),
  .inr (.inl (0, List.replicate 25 0)),
  .inr (.inl (0, List.replicate 25 0)),
  .inr (.inl (0, List.replicate 25 0)),
  .inr (.inl (0, List.replicate 7 0)),
  .inr (.inl (0, List.replicate 5 0)),
  .inr (.inl (0, List.replicate 6 0)),
  .inr (.inl (0, List.replicate 30 0)),
  .inr (.inl (0, List.replicate 260 0)),
  .inl (7, [.null, .int 0, .int 0, .int 0, .ref 82, .ref 83, .ref 84, .ref 85, .ref 86, .ref 87, .ref 88, .ref 89, .ref 90, .ref 91, .ref 92, .int 0, .ref 93, .ref 94, .ref 97]),
  .inr (.inl (0, List.replicate 5 0)),
  .inr (.inl (0, List.replicate 5 0)),
  .inr (.inl (0, List.replicate 5 0)),
  .inr (.inl (0, List.replicate 5 0)),
  .inr (.inl (0, List.replicate 5 0)),
  .inr (.inl (0, List.replicate 5 0)),
  .inr (.inl (0, List.replicate 5 0)),
  .inr (.inl (0, List.replicate 6 0)),
  .inr (.inl (0, List.replicate 6 0)),
  .inr (.inl (0, List.replicate 35 0)),
  .inr (.inl (0, List.replicate 35 0))]
def jh_3 : J_H := [.inr (.inl (0, List.replicate 12 0)),
  .inl (5, [.ref 95, .int 0, .ref 96]),
  .inr (.inl (0, List.replicate 5 0)),
  .inr (.inl (0, List.replicate 5 0)),
  .inl (3, [.ref 98, .ref 99, .ref 100, .ref 101, .ref 102, .ref 103, .ref 104, .ref 105, .int 0, .int 1]),
  .inr (.inl (0, List.replicate 25 0)),
  .inr (.inl (0, List.replicate 25 0)),
  .inr (.inl (0, List.replicate 25 0)),
  .inr (.inl (0, List.replicate 7 0)),
  .inr (.inl (0, List.replicate 5 0)),
  .inr (.inl (0, List.replicate 6 0)),
  .inr (.inl (0, List.replicate 30 0)),
  .inr (.inl (0, List.replicate 260 0)),
  .inl (7, [.null, .int 0, .int 0, .int 0, .ref 107, .ref 108, .ref 109, .ref 110, .ref 111, .ref 112, .ref 113, .ref 114, .ref 115, .ref 116, .ref 117, .int 0, .ref 118, .ref 119, .ref 122]),
  .inr (.inl (0, List.replicate 5 0)),
  .inr (.inl (0, List.replicate 5 0)),
  .inr (.inl (0, List.replicate 5 0)),
  .inr (.inl (0, List.replicate 5 0)),
  .inr (.inl (0, List.replicate 5 0)),
  .inr (.inl (0, List.replicate 5 0)),
  .inr (.inl (0, List.replicate 5 0)),
  .inr (.inl (0, List.replicate 6 0)),
  .inr (.inl (0, List.replicate 6 0)),
  .inr (.inl (0, List.replicate 35 0)),
  .inr (.inl (0, List.replicate 35 0)),
  .inr (.inl (0, List.replicate 12 0)),
  .inl (5, [.ref 120, .int 0, .ref 121]),
  .inr (.inl (0, List.replicate 5 0)),
  .inr (.inl (0, List.replicate 5 0)),
  .inl (3, [.ref 123, .ref 124, .ref 125, .ref 126, .ref 127, .ref 128, .ref 129, .ref 130, .int 0, .int 1]),
  .inr (.inl (0, List.replicate 25 0))]
def jh_4 : J_H := [.inr (.inl (0, List.replicate 25 0)),
  .inr (.inl (0, List.replicate 25 0)),
  .inr (.inl (0, List.replicate 7 0)),
  .inr (.inl (0, List.replicate 5 0)),
  .inr (.inl (0, List.replicate 6 0)),
  .inr (.inl (0, List.replicate 30 0)),
  .inr (.inl (0, List.replicate 260 0)),
  .inl (7, [.null, .int 0, .int 0, .int 0, .ref 132, .ref 133, .ref 134, .ref 135, .ref 136, .ref 137, .ref 138, .ref 139, .ref 140, .ref 141, .ref 142, .int 0, .ref 143, .ref 144, .ref 147]),
  .inr (.inl (0, List.replicate 5 0)),
  .inr (.inl (0, List.replicate 5 0)),
  .inr (.inl (0, List.replicate 5 0)),
  .inr (.inl (0, List.replicate 5 0)),
  .inr (.inl (0, List.replicate 5 0)),
  .inr (.inl (0, List.replicate 5 0)),
  .inr (.inl (0, List.replicate 5 0)),
  .inr (.inl (0, List.replicate 6 0)),
  .inr (.inl (0, List.replicate 6 0)),
  .inr (.inl (0, List.replicate 35 0)),
  .inr (.inl (0, List.replicate 35 0)),
  .inr (.inl (0, List.replicate 12 0)),
  .inl (5, [.ref 145, .int 0, .ref 146]),
  .inr (.inl (0, List.replicate 5 0)),
  .inr (.inl (0, List.replicate 5 0)),
  .inl (3, [.ref 148, .ref 149, .ref 150, .ref 151, .ref 152, .ref 153, .ref 154, .ref 155, .int 0, .int 1]),
  .inr (.inl (0, List.replicate 25 0)),
  .inr (.inl (0, List.replicate 25 0)),
  .inr (.inl (0, List.replicate 25 0)),
  .inr (.inl (0, List.replicate 7 0)),
  .inr (.inl (0, List.replicate 5 0)),
  .inr (.inl (0, List.replicate 6 0)),
  .inr (.inl (0, List.replicate 30 0))]
def jh_5 : J_H := [.inr (.inl (0, List.replicate 260 0)),
  .inl (7, [.null, .int 0, .int 0, .int 0, .ref 157, .ref 158, .ref 159, .ref 160, .ref 161, .ref 162, .ref 163, .ref 164, .ref 165, .ref 166, .ref 167, .int 0, .ref 168, .ref 169, .ref 172]),
  .inr (.inl (0, List.replicate 5 0)),
  .inr (.inl (0, List.replicate 5 0)),
  .inr (.inl (0, List.replicate 5 0)),
  .inr (.inl (0, List.replicate 5 0)),
  .inr (.inl (0, List.replicate 5 0)),
  .inr (.inl (0, List.replicate 5 0)),
  .inr (.inl (0, List.replicate 5 0)),
  .inr (.inl (0, List.replicate 6 0)),
  .inr (.inl (0, List.replicate 6 0)),
  .inr (.inl (0, List.replicate 35 0)),
  .inr (.inl (0, List.replicate 35 0)),
  .inr (.inl (0, List.replicate 12 0)),
  .inl (5, [.ref 170, .int 0, .ref 171]),
  .inr (.inl (0, List.replicate 5 0)),
  .inr (.inl (0, List.replicate 5 0)),
  .inl (3, [.ref 173, .ref 174, .ref 175, .ref 176, .ref 177, .ref 178, .ref 179, .ref 180, .int 0, .int 1]),
  .inr (.inl (0, List.replicate 25 0)),
  .inr (.inl (0, List.replicate 25 0)),
  .inr (.inl (0, List.replicate 25 0)),
  .inr (.inl (0, List.replicate 7 0)),
  .inr (.inl (0, List.replicate 5 0)),
  .inr (.inl (0, List.replicate 6 0)),
  .inr (.inl (0, List.replicate 30 0)),
  .inr (.inl (0, List.replicate 260 0)),
  .inl (7, [.null, .int 0, .int 0, .int 0, .ref 182, .ref 183, .ref 184, .ref 185, .ref 186, .ref 187, .ref 188, .ref 189, .ref 190, .ref 191, .ref 192, .int 0, .ref 193, .ref 194, .ref 197]),
  .inr (.inl (0, List.replicate 5 0)),
  .inr (.inl (0, List.replicate 5 0)),
  .inr (.inl (0, List.replicate 5 0)),
  .inr (.inl (0, List.replicate 5 0))]
def jh_6 : J_H := [.inr (.inl (0, List.replicate 5 0)),
  .inr (.inl (0, List.replicate 5 0)),
  .inr (.inl (0, List.replicate 5 0)),
  .inr (.inl (0, List.replicate 6 0)),
  .inr (.inl (0, List.replicate 6 0)),
  .inr (.inl (0, List.replicate 35 0)),
  .inr (.inl (0, List.replicate 35 0)),
  .inr (.inl (0, List.replicate 12 0)),
  .inl (5, [.ref 195, .int 0, .ref 196]),
  .inr (.inl (0, List.replicate 5 0)),
  .inr (.inl (0, List.replicate 5 0)),
  .inl (3, [.ref 198, .ref 199, .ref 200, .ref 201, .ref 202, .ref 203, .ref 204, .ref 205, .int 0, .int 1]),
  .inr (.inl (0, List.replicate 25 0)),
  .inr (.inl (0, List.replicate 25 0)),
  .inr (.inl (0, List.replicate 25 0)),
  .inr (.inl (0, List.replicate 7 0)),
  .inr (.inl (0, List.replicate 5 0)),
  .inr (.inl (0, List.replicate 6 0)),
  .inr (.inl (0, List.replicate 30 0)),
  .inr (.inl (0, List.replicate 260 0)),
  .inl (7, [.null, .int 0, .int 0, .int 0, .ref 207, .ref 208, .ref 209, .ref 210, .ref 211, .ref 212, .ref 213, .ref 214, .ref 215, .ref 216, .ref 217, .int 0, .ref 218, .ref 219, .ref 222]),
  .inr (.inl (0, List.replicate 5 0)),
  .inr (.inl (0, List.replicate 5 0)),
  .inr (.inl (0, List.replicate 5 0)),
  .inr (.inl (0, List.replicate 5 0)),
  .inr (.inl (0, List.replicate 5 0)),
  .inr (.inl (0, List.replicate 5 0)),
  .inr (.inl (0, List.replicate 5 0)),
  .inr (.inl (0, List.replicate 6 0)),
  .inr (.inl (0, List.replicate 6 0)),
  .inr (.inl (0, List.replicate 35 0))]
def jh_7 : J_H := [.inr (.inl (0, List.replicate 35 0)),
  .inr (.inl (0, List.replicate 12 0)),
  .inl (5, [.ref 220, .int 0, .ref 221]),
  .inr (.inl (0, List.replicate 5 0)),
  .inr (.inl (0, List.replicate 5 0)),
  .inl (3, [.ref 223, .ref 224, .ref 225, .ref 226, .ref 227, .ref 228, .ref 229, .ref 230, .int 0, .int 1]),
  .inr (.inl (0, List.replicate 25 0)),
  .inr (.inl (0, List.replicate 25 0)),
  .inr (.inl (0, List.replicate 25 0)),
  .inr (.inl (0, List.replicate 7 0)),
  .inr (.inl (0, List.replicate 5 0)),
  .inr (.inl (0, List.replicate 6 0)),
  .inr (.inl (0, List.replicate 30 0)),
  .inr (.inl (0, List.replicate 260 0)),
  .inl (7, [.null, .int 0, .int 0, .int 0, .ref 232, .ref 233, .ref 234, .ref 235, .ref 236, .ref 237, .ref 238, .ref 239, .ref 240, .ref 241, .ref 242, .int 0, .ref 243, .ref 244, .ref 247]),
  .inr (.inl (0, List.replicate 5 0)),
  .inr (.inl (0, List.replicate 5 0)),
  .inr (.inl (0, List.replicate 5 0)),
  .inr (.inl (0, List.replicate 5 0)),
  .inr (.inl (0, List.replicate 5 0)),
  .inr (.inl (0, List.replicate 5 0)),
  .inr (.inl (0, List.replicate 5 0)),
  .inr (.inl (0, List.replicate 6 0)),
  .inr (.inl (0, List.replicate 6 0)),
  .inr (.inl (0, List.replicate 35 0)),
  .inr (.inl (0, List.replicate 35 0)),
  .inr (.inl (0, List.replicate 12 0)),
  .inl (5, [.ref 245, .int 0, .ref 246]),
  .inr (.inl (0, List.replicate 5 0)),
  .inr (.inl (0, List.replicate 5 0)),
  .inl (3, [.ref 248, .ref 249, .ref 250, .ref 251, .ref 252, .ref 253, .ref 254, .ref 255, .int 0, .int 1])]
def jh_8 : J_H := [.inr (.inl (0, List.replicate 25 0)),
  .inr (.inl (0, List.replicate 25 0)),
  .inr (.inl (0, List.replicate 25 0)),
  .inr (.inl (0, List.replicate 7 0)),
  .inr (.inl (0, List.replicate 5 0)),
  .inr (.inl (0, List.replicate 6 0)),
  .inr (.inl (0, List.replicate 30 0)),
  .inr (.inl (0, List.replicate 260 0)),
  .inl (7, [.null, .int 0, .int 0, .int 0, .ref 257, .ref 258, .ref 259, .ref 260, .ref 261, .ref 262, .ref 263, .ref 264, .ref 265, .ref 266, .ref 267, .int 0, .ref 268, .ref 269, .ref 272]),
  .inr (.inl (0, List.replicate 5 0)),
  .inr (.inl (0, List.replicate 5 0)),
  .inr (.inl (0, List.replicate 5 0)),
  .inr (.inl (0, List.replicate 5 0)),
  .inr (.inl (0, List.replicate 5 0)),
  .inr (.inl (0, List.replicate 5 0)),
  .inr (.inl (0, List.replicate 5 0)),
  .inr (.inl (0, List.replicate 6 0)),
  .inr (.inl (0, List.replicate 6 0)),
  .inr (.inl (0, List.replicate 35 0)),
  .inr (.inl (0, List.replicate 35 0)),
  .inr (.inl (0, List.replicate 12 0)),
  .inl (5, [.ref 270, .int 0, .ref 271]),
  .inr (.inl (0, List.replicate 5 0)),
  .inr (.inl (0, List.replicate 5 0)),
  .inl (3, [.ref 273, .ref 274, .ref 275, .ref 276, .ref 277, .ref 278, .ref 279, .ref 280, .int 0, .int 1]),
  .inr (.inl (0, List.replicate 25 0)),
  .inr (.inl (0, List.replicate 25 0)),
  .inr (.inl (0, List.replicate 25 0)),
  .inr (.inl (0, List.replicate 7 0)),
  .inr (.inl (0, List.replicate 5 0)),
  .inr (.inl (0, List.replicate 6 0))]
def jh_9 : J_H := [.inr (.inl (0, List.replicate 30 0)),
  .inr (.inl (0, List.replicate 260 0)),
  .inl (1, [.ref 282, .ref 307, .ref 323, .ref 324]),
  .inl (7, [.null, .int 0, .int 0, .int 0, .ref 283, .ref 284, .ref 285, .ref 286, .ref 287, .ref 288, .ref 289, .ref 290, .ref 291, .ref 292, .ref 293, .int 0, .ref 294, .ref 295, .ref 298]),
  .inr (.inl (0, List.replicate 5 0)),
  .inr (.inl (0, List.replicate 5 0)),
  .inr (.inl (0, List.replicate 5 0)),
  .inr (.inl (0, List.replicate 5 0)),
  .inr (.inl (0, List.replicate 5 0)),
  .inr (.inl (0, List.replicate 5 0)),
  .inr (.inl (0, List.replicate 5 0)),
  .inr (.inl (0, List.replicate 6 0)),
  .inr (.inl (0, List.replicate 6 0)),
  .inr (.inl (0, List.replicate 35 0)),
  .inr (.inl (0, List.replicate 35 0)),
  .inr (.inl (0, List.replicate 12 0)),
  .inl (5, [.ref 296, .int 0, .ref 297]),
  .inr (.inl (0, List.replicate 5 0)),
  .inr (.inl (0, List.replicate 5 0)),
  .inl (3, [.ref 299, .ref 300, .ref 301, .ref 302, .ref 303, .ref 304, .ref 305, .ref 306, .int 0, .int 0]),
  .inr (.inl (0, List.replicate 25 0)),
  .inr (.inl (0, List.replicate 25 0)),
  .inr (.inl (0, List.replicate 25 0)),
  .inr (.inl (0, List.replicate 7 0)),
  .inr (.inl (0, List.replicate 5 0)),
  .inr (.inl (0, List.replicate 6 0)),
  .inr (.inl (0, List.replicate 30 0)),
  .inr (.inl (0, List.replicate 260 0)),
  .inl (2, [.int 0, .ref 308, .ref 309, .ref 310, .ref 311, .int 0, .ref 312, .ref 313, .ref 314, .ref 315, .ref 316, .ref 317, .ref 318, .int 0, .ref 319, .ref 320, .ref 321, .ref 322]),
  .inr (.inr (.inl (List.replicate 7 0))),
  .inr (.inl (0, List.replicate 7 0))]
def jh_10 : J_H := [.inr (.inl (0, List.replicate 7 0)),
  .inr (.inl (0, List.replicate 21 0)),
  .inr (.inr (.inl (List.replicate 5 0))),
  .inr (.inl (0, List.replicate 5 0)),
  .inr (.inl (0, List.replicate 5 0)),
  .inr (.inl (0, List.replicate 5 0)),
  .inr (.inl (0, List.replicate 5 0)),
  .inr (.inl (0, List.replicate 5 0)),
  .inr (.inl (0, List.replicate 5 0)),
  .inr (.inl (0, List.replicate 5 0)),
  .inr (.inl (0, List.replicate 35 0)),
  .inr (.inl (0, List.replicate 30 0)),
  .inr (.inl (0, List.replicate 5 0)),
  .inr (.inl (0, List.replicate 5 0)),
  .inr (.inl (0, List.replicate 5 0)),
  .inl (6, [.ref 326, .int 0]),
  .inr (.inl (1, List.replicate 700 0)),
  .inl (2, [.int 0, .ref 328, .ref 329, .ref 330, .ref 331, .int 0, .ref 332, .ref 333, .ref 334, .ref 335, .ref 336, .ref 337, .ref 338, .int 0, .ref 339, .ref 340, .ref 341, .ref 342]),
  .inr (.inr (.inl (List.replicate 7 0))),
  .inr (.inl (0, List.replicate 7 0)),
  .inr (.inl (0, List.replicate 7 0)),
  .inr (.inl (0, List.replicate 21 0)),
  .inr (.inr (.inl (List.replicate 5 0))),
  .inr (.inl (0, List.replicate 5 0)),
  .inr (.inl (0, List.replicate 5 0)),
  .inr (.inl (0, List.replicate 5 0)),
  .inr (.inl (0, List.replicate 5 0)),
  .inr (.inl (0, List.replicate 5 0)),
  .inr (.inl (0, List.replicate 5 0)),
  .inr (.inl (0, List.replicate 5 0)),
  .inr (.inl (0, List.replicate 35 0))]
def jh_11 : J_H := [.inr (.inl (0, List.replicate 30 0)),
  .inr (.inl (0, List.replicate 5 0)),
  .inl (2, [.int 0, .ref 344, .ref 345, .ref 346, .ref 347, .int 0, .ref 348, .ref 349, .ref 350, .ref 351, .ref 352, .ref 353, .ref 354, .int 0, .ref 355, .ref 356, .ref 357, .ref 358]),
  .inr (.inr (.inl (List.replicate 7 0))),
  .inr (.inl (0, List.replicate 7 0)),
  .inr (.inl (0, List.replicate 7 0)),
  .inr (.inl (0, List.replicate 21 0)),
  .inr (.inr (.inl (List.replicate 5 0))),
  .inr (.inl (0, List.replicate 5 0)),
  .inr (.inl (0, List.replicate 5 0)),
  .inr (.inl (0, List.replicate 5 0)),
  .inr (.inl (0, List.replicate 5 0)),
  .inr (.inl (0, List.replicate 5 0)),
  .inr (.inl (0, List.replicate 5 0)),
  .inr (.inl (0, List.replicate 5 0)),
  .inr (.inl (0, List.replicate 35 0)),
  .inr (.inl (0, List.replicate 30 0)),
  .inr (.inl (0, List.replicate 5 0))]
def jHx : J_H := jh_0 ++ jh_1 ++ jh_2 ++ jh_3 ++ jh_4 ++ jh_5 ++ jh_6 ++ jh_7 ++ jh_8 ++ jh_9 ++ jh_10 ++ jh_11
def jHm : J_H := [.inl (10, [.int 0, .ref 360, .ref 361, .ref 362, .ref 363, .ref 364, .ref 365, .ref 366, .ref 367, .int 0, .int 0, .int (-1), .int (-1), .int 0, .int 0, .int 0, .int 0, .int 0, .int 0, .int 0, .int 0, .long 0, .ref 368, .int 0, .ref 369, .ref 370, .ref 371, .int 0]),
  .inr (.inl (0, List.replicate 602 0)),
  .inr (.inl (0, List.replicate 602 0)),
  .inr (.inl (0, List.replicate 602 0)),
  .inr (.inl (0, List.replicate 602 0)),
  .inr (.inl (0, List.replicate 6020 0)),
  .inr (.inl (0, List.replicate 700 0)),
  .inr (.inr (.inl (List.replicate 12 0))),
  .inr (.inr (.inl (List.replicate 12 0))),
  .inr (.inl (0, List.replicate 5 0)),
  .inr (.inl (0, List.replicate 5 0)),
  .inr (.inl (0, List.replicate 5 0)),
  .inr (.inl (1, List.replicate 1400 0))]
def jH : J_H := jHx ++ jHm
def jX0 : J_C := .inl (9, [.null, .null, .null, .null, .null, .null, .null, .null, .int 0])
def jM0 : J_C := .inl (10, [.int 0, .null, .null, .null, .null, .null, .null, .null, .null, .int 0, .int 0, .int 0, .int 0, .int 0, .int 0, .int 0, .int 0, .int 0, .int 0, .int 0, .int 0, .long 0, .null, .int 0, .null, .null, .null, .int 0])
def jh_is (x : Option (Option Value × J_H)) (h : J_H) : Bool := match x with
  | some (none, h') => decide (h' = h)
  | _ => false
theorem jh_is_ok {x : Option (Option Value × J_H)} {h : J_H} (hx : jh_is x h = true) : x = some (none, h) := by
  unfold jh_is at hx
  split at hx
  · rw [of_decide_eq_true hx]
  · cases hx
set_option maxRecDepth 1000000 in
theorem jHx_ok : j_run jP 4000 5 111 0 (lv_args 0 [.ref 0]) [] [jX0] = some (none, jHx) := jh_is_ok (by decide +kernel)
set_option maxRecDepth 1000000 in
theorem jH_ok : j_run jP 4000 5 167 0 (lv_args 0 [.ref 359]) [] (jHx ++ [jM0]) = some (none, jH) := jh_is_ok (by decide +kernel)
set_option maxRecDepth 1000000 in
theorem jH_size : jHx.length = 359 ∧ jH.length = 372 ∧ j_sl jH = 19203 := by decide +kernel
/-- a list's items, with their places -/
noncomputable def i_al {α : Type} (p : Nat → α → Bool) (l : List α) : Nat → Bool := List.rec (motive := fun _ => Nat → Bool) (fun _ => true) (fun x _ ih n => p n x && ih (n + 1)) l
theorem i_al_ok {α : Type} {p : Nat → α → Bool} : ∀ {l : List α} {n i : Nat} {x : α}, i_al p l n = true → l[i]? = some x → p (n + i) x = true
  | [], _, _, _, _, h => by cases h
  | y :: l, n, i, x, hj, h => by
    obtain ⟨h1, h2⟩ := Bool.and_eq_true_iff.mp (show (p n y && i_al p l (n + 1)) = true from hj)
    cases i with
    | zero =>
      cases h
      exact h1
    | succ i =>
      have := i_al_ok h2 (i := i) (x := x) h
      rw [show n + 1 + i = n + (i + 1) by omega] at this
      exact this
def i_vb : jc_v → Value → Bool
  | .inl (0, z), .int x => decide (x.toInt = z)
  | .inr (some (some b)), .ref c => Nat.beq b c
  | _, _ => false
def i_tb : Option jc_ty → Value → Bool
  | none, _ => true
  | some (.inl q), .int x => decide (q.1 ≤ x.toInt) && decide (x.toInt ≤ q.2)
  | some (.inr none), .long _ => true
  | some (.inr (some a)), .ref b => Nat.beq a b
  | _, _ => false
theorem i_tb_ok {T : Option jc_ty} {v : Value} (h : i_tb T v = true) : jc_tv T v := by
  unfold i_tb at h
  split at h
  · trivial
  · obtain ⟨h1, h2⟩ := Bool.and_eq_true_iff.mp h
    exact ⟨of_decide_eq_true h1, of_decide_eq_true h2⟩
  · trivial
  · exact (Nat.eq_of_beq_eq_true h).symm
  · cases h
theorem i_vb_ok {s : jc_v} {v : Value} (h : i_vb s v = true) : jc_val i_r0 1 s v := by
  unfold i_vb at h
  split at h
  · exact ⟨show 0 < 1 by decide, by rw [of_decide_eq_true h]; exact (Int.zero_add _).symm⟩
  · exact (Nat.eq_of_beq_eq_true h).symm
  · cases h
noncomputable def i_pv (O : List (Nat × jc_v)) (a : Nat) (d : jc_Dd) (i : Nat) (v : Value) : Bool := match jc_lk O (jc_key a i) with
  | some s => i_vb s v
  | none => match jc_sg d.2 i with
    | some T => i_tb T.1 v
    | none => true
noncomputable def i_cb (O : List (Nat × jc_v)) (a : Nat) (d : jc_Dd) : J_C → Bool
  | .inl f => i_al (fun i v => i_pv O a d i v) f.2 0
  | .inr (.inl f) => i_al (fun i x => i_pv O a d i (.int x)) f.2 0
  | .inr (.inr (.inl l)) => i_al (fun i x => i_pv O a d i (.long x)) l 0
  | .inr (.inr (.inr l)) => i_al (fun i q => i_pv O a d i (match q with
    | some a => .ref a
    | none => .null)) l 0
theorem i_cb_ok {O : List (Nat × jc_v)} {a i : Nat} {d : jc_Dd} {c : J_C} {v : Value} (h : i_cb O a d c = true) (hv : jc_get c i = some v) : i_pv O a d i v = true := by
  rcases c with f | f | l | l
  · have := i_al_ok h (i := i) (x := v) hv
    rw [Nat.zero_add] at this
    exact this
  · obtain ⟨x, hx, rfl⟩ := Option.map_eq_some_iff.mp hv
    have := i_al_ok h hx
    rw [Nat.zero_add] at this
    exact this
  · obtain ⟨x, hx, rfl⟩ := Option.map_eq_some_iff.mp hv
    have := i_al_ok h hx
    rw [Nat.zero_add] at this
    exact this
  · obtain ⟨x, hx, rfl⟩ := Option.map_eq_some_iff.mp hv
    have := i_al_ok h hx
    rw [Nat.zero_add] at this
    exact this
def i_inb (h : J_H) : List (Nat × Nat) → List (Int × Int) → Bool
  | [], _ => true
  | c :: cs, q :: qs => (match jc_at h c.1 c.2 with
    | some (.int x) => decide (q.1 ≤ x.toInt) && decide (x.toInt ≤ q.2)
    | _ => false) && i_inb h cs qs
  | _ :: _, [] => false
theorem i_inb_ok {h : J_H} : ∀ {cs : List (Nat × Nat)} {qs : List (Int × Int)}, i_inb h cs qs = true → jc_in h cs qs
  | [], _, _ => trivial
  | c :: cs, [], hj => by cases hj
  | c :: cs, q :: qs, hj => by
    obtain ⟨h1, h2⟩ := Bool.and_eq_true_iff.mp (show ((match jc_at h c.1 c.2 with
      | some (.int x) => decide (q.1 ≤ x.toInt) && decide (x.toInt ≤ q.2)
      | _ => false) && i_inb h cs qs) = true from hj)
    refine ⟨?_, i_inb_ok h2⟩
    split at h1
    · rename_i x hx
      obtain ⟨k1, k2⟩ := Bool.and_eq_true_iff.mp h1
      exact ⟨x, hx, of_decide_eq_true k1, of_decide_eq_true k2⟩
    · cases h1
noncomputable def i_t (E : jc_E) (h : J_H) : jc_T := fun f => match ja_n2 E.2.1 f with
  | some m => (m.2.2.1.find? (i_inb h m.2.1)).getD []
  | none => []
noncomputable def i_hk (E : jc_E) (O : List (Nat × jc_v)) (Of : List Nat) (h : J_H) : Bool := ja_ch2 (fun a (d : jc_Dd) => match h[a]? with
  | some c => decide (jc_sh c = d.1) && i_cb O a d c
  | none => false) E.1 && (ja_ch2 (fun _ (m : jc_Fa) => jc_off Of m.1 || m.2.2.1.any (i_inb h m.2.1)) E.2.1 && ja_ch2 (fun _ (m : jc_Po) => jc_off Of m.1 || (match jc_at h m.2.1.1 m.2.1.2 with
  | some (.int y) => decide (y.toInt + jc_sw (i_t E h) m.2.2.2.1 m.2.2.2.2 ≤ m.2.2.1)
  | _ => false)) E.2.2.1)
theorem i_hk_ok {E : jc_E} {X : J_H → Prop} {O : List (Nat × jc_v)} {Of : List Nat} {h : J_H} (hj : i_hk E O Of h = true) (hX : X h) : i_I E X (i_st O Of) h := by
  obtain ⟨j1, hj⟩ := Bool.and_eq_true_iff.mp hj
  obtain ⟨j2, j3⟩ := Bool.and_eq_true_iff.mp hj
  refine ⟨i_r0, i_t E h, i_B0, fun a d hd => ?_, fun f m hm ho => ?_, fun p m hm ho => ?_, hX⟩
  · have h1 := ja_ch2_ok (p := fun a (d : jc_Dd) => match h[a]? with
      | some c => decide (jc_sh c = d.1) && i_cb O a d c
      | none => false) j1 hd
    split at h1
    · rename_i c hc
      obtain ⟨k1, k2⟩ := Bool.and_eq_true_iff.mp h1
      refine ⟨c, hc, of_decide_eq_true k1, fun i v hv => ?_⟩
      have h2 := i_cb_ok k2 hv
      unfold i_pv at h2
      unfold jc_cl
      show (match jc_lk O (jc_key a i) with
        | some s => jc_val i_r0 1 s v
        | none => ∀ T, jc_sg d.2 i = some T → jc_tv T.1 v)
      split
      · rename_i s hs
        rw [hs] at h2
        exact i_vb_ok h2
      · rename_i hs
        rw [hs] at h2
        intro T hT
        have h2 : (match jc_sg d.2 i with
          | some T => i_tb T.1 v
          | none => true) = true := h2
        rw [hT] at h2
        exact i_tb_ok h2
    · cases h1
  · have h1 := ja_ch2_ok (p := fun _ (m : jc_Fa) => jc_off Of m.1 || m.2.2.1.any (i_inb h m.2.1)) j2 hm
    have ho : jc_off Of m.1 = false := ho
    rw [ho, Bool.false_or] at h1
    have e : i_t E h f = (m.2.2.1.find? (i_inb h m.2.1)).getD [] := by unfold i_t; rw [hm]
    unfold jc_fm
    show i_t E h f ∈ m.2.2.1 ∧ jc_in h m.2.1 (i_t E h f)
    rw [e]
    obtain ⟨x, x1, x2⟩ := List.any_eq_true.mp h1
    cases hf : m.2.2.1.find? (i_inb h m.2.1) with
    | none => exact absurd x2 (by have := List.find?_eq_none.mp hf x x1; simpa using this)
    | some y => exact ⟨List.mem_of_find?_eq_some hf, i_inb_ok (List.find?_some hf)⟩
  · have h1 := ja_ch2_ok (p := fun _ (m : jc_Po) => jc_off Of m.1 || (match jc_at h m.2.1.1 m.2.1.2 with
      | some (.int y) => decide (y.toInt + jc_sw (i_t E h) m.2.2.2.1 m.2.2.2.2 ≤ m.2.2.1)
      | _ => false)) j3 hm
    have ho : jc_off Of m.1 = false := ho
    rw [ho, Bool.false_or] at h1
    split at h1
    · rename_i y hy
      exact ⟨y.toInt, ⟨y, hy, rfl⟩, of_decide_eq_true h1⟩
    · cases h1
/-- the heap at the loop's start: behind both constructors, with the law's own array -/
abbrev la_h9 : J_H := jH ++ [.inr (.inr (.inl [0]))]
set_option maxRecDepth 1000000 in
theorem i_hA : i_hk jxa iOA iFA la_h9 = true := by decide +kernel
set_option maxRecDepth 1000000 in
theorem i_hM : i_hk jxm [] iFM la_h9 = true := by decide +kernel
set_option maxRecDepth 1000000 in
theorem i_h29 : jc_at la_h9 29 1 = some (.int 0) ∧ jc_at la_h9 29 2 = some (.int 0) ∧ jc_at la_h9 1 1 = some (.int 0) ∧ jc_at la_h9 359 9 = some (.int 0) := by decide +kernel
set_option maxRecDepth 1000000 in
theorem i_h364 : la_h9[364]? = some (.inr (.inl (0, List.replicate 6020 0))) := by decide +kernel
/-- a row of zeros may be the state -/
noncomputable def i_z1 (i : Nat) : Bool := match jm_ty i with
  | some T => i_tb T.1 (.int 0)
  | none => true
theorem i_z2 : (List.range 602).all i_z1 = true := by decide +kernel
def i_z3 (j : Nat) : List (Int × Int) := ((jm_rows j).find? fun τ => Nat.ble (jm_cells j).length τ.length && (τ.take (jm_cells j).length).all fun q => decide (q.1 ≤ 0) && decide (0 ≤ q.2)).getD []
set_option maxRecDepth 1000000 in
theorem i_z4 : (List.range 16).all (fun j => (jm_rows j).any (fun τ => Nat.ble (jm_cells j).length τ.length && (τ.take (jm_cells j).length).all fun q => decide (q.1 ≤ 0) && decide (0 ≤ q.2))) = true := by decide +kernel
set_option maxRecDepth 1000000 in
theorem i_z5 : (List.range 7).all (fun q => decide (jm_sw i_z3 (5 + q) ≤ jm_C q)) = true := by decide +kernel
theorem i_z6 {src : Nat → Option Value} : ∀ {cs : List Nat} {τ : List (Int × Int)}, (∀ c ∈ cs, src c = some (.int 0)) → cs.length ≤ τ.length → (τ.take cs.length).all (fun q => decide (q.1 ≤ 0) && decide (0 ≤ q.2)) = true → jm_in src cs τ
  | [], _, _, _, _ => trivial
  | c :: cs, [], _, hl, _ => absurd hl (Nat.not_succ_le_zero _)
  | c :: cs, q :: τ, hs, hl, ha => by
    obtain ⟨a1, a2⟩ := Bool.and_eq_true_iff.mp (show ((decide (q.1 ≤ 0) && decide (0 ≤ q.2)) && (τ.take cs.length).all (fun q => decide (q.1 ≤ 0) && decide (0 ≤ q.2))) = true from ha)
    obtain ⟨b1, b2⟩ := Bool.and_eq_true_iff.mp a1
    exact ⟨⟨0, hs c List.mem_cons_self, by have := of_decide_eq_true b1; exact this, by have := of_decide_eq_true b2; exact this⟩, i_z6 (fun c hc => hs c (List.mem_cons_of_mem _ hc)) (Nat.le_of_succ_le_succ hl) a2⟩
theorem i_zS {src : Nat → Option Value} (hs : ∀ i, i < 602 → src i = some (.int 0)) : jm_S src i_z3 := by
  refine ⟨fun i hi => ⟨_, hs i hi, fun T hT => ?_⟩, fun j hj => ?_, fun q hq => ⟨0, hs _ (jm_pc_lt hq), ?_⟩⟩
  · have := List.all_eq_true.mp i_z2 i (List.mem_range.mpr hi)
    unfold i_z1 at this
    rw [hT] at this
    exact i_tb_ok this
  · obtain ⟨x, x1, x2⟩ := List.any_eq_true.mp (List.all_eq_true.mp i_z4 j (List.mem_range.mpr hj))
    unfold i_z3
    cases hf : (jm_rows j).find? (fun τ => Nat.ble (jm_cells j).length τ.length && (τ.take (jm_cells j).length).all fun q => decide (q.1 ≤ 0) && decide (0 ≤ q.2)) with
    | none => exact absurd x2 (by have := List.find?_eq_none.mp hf x x1; simpa using this)
    | some y =>
      have h9 := List.find?_some hf
      obtain ⟨k1, k2⟩ := Bool.and_eq_true_iff.mp h9
      exact ⟨List.mem_of_find?_eq_some hf, i_z6 (fun c hc => hs c (jm_cells_lt hj hc)) (Nat.le_of_ble_eq_true k1) k2⟩
  · have := of_decide_eq_true (List.all_eq_true.mp i_z5 q (List.mem_range.mpr hq))
    show (0 : Int32).toInt + jm_sw i_z3 (5 + q) ≤ jm_C q
    rw [show (0 : Int32).toInt = 0 from rfl, Int.zero_add]
    exact this
theorem IC_0 : IC la_h9 := Or.inl (i_hk_ok i_hA (jxs_X0 ⟨0, i_h29.1, by decide, by decide⟩ ⟨0, i_h29.2.1, rfl⟩))
theorem IM_0 : IM la_h9 := i_hk_ok i_hM (fun k hk => ⟨i_z3, i_zS (fun i hi => by
  show jc_at la_h9 364 (602 * k + i) = _
  rw [jc_at_of i_h364]
  show ((List.replicate 6020 (0 : Int32))[602 * k + i]?).map Value.int = _
  rw [List.getElem?_replicate, if_pos (by omega)]
  rfl)⟩)
