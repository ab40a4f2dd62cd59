/-! THE CELLS behind both constructors -/
def hX : im_H := [.inr (11, [.ref 17, .ref 39, .ref 53, .ref 67, .int 0, .ref 81, .ref 83, .int 0, .int (-1), .ref 84, .ref 88, .ref 93, .ref 107, .ref 113]),
  .inr (0, [.ref 18, .int (-1), .int 0, .ref 19, .ref 20, .ref 21, .ref 22, .ref 23, .ref 24, .int 0, .ref 25, .ref 26, .null, .ref 27]),
  .inl (0, .inl (List.replicate 100 (-1))),
  .inl (0, .inl (List.replicate 24 0)),
  .inl (0, .inl (List.replicate 24 0)),
  .inl (0, .inl (List.replicate 24 0)),
  .inl (0, .inl (List.replicate 24 (-1))),
  .inl (3, .inr (.inr [some 28, some 30, some 32, some 34])),
  .inl (4, .inr (.inr [some 36, some 37, some 38])),
  .inl (0, .inl (List.replicate 16 0)),
  .inl (0, .inl (List.replicate 16 0)),
  .inl (0, .inl ([0, 0, 0, 0, 0, 0, 0, 0])),
  .inr (7, [.ref 29, .int 0, .int 0, .int 0]),
  .inl (0, .inl ([0, 0, 0, 0, 0, 0, 0, 0])),
  .inr (7, [.ref 31, .int 0, .int 0, .int 0]),
  .inl (0, .inl ([0, 0, 0, 0, 0, 0, 0, 0])),
  .inr (7, [.ref 33, .int 0, .int 0, .int 0]),
  .inl (0, .inl ([0, 0, 0, 0, 0, 0, 0, 0])),
  .inr (7, [.ref 35, .int 0, .int 0, .int 0]),
  .inl (0, .inl ([0, 0, 0, 0, 0, 0, 0, 0])),
  .inr (5, [.int 0, .int 0, .int 0, .int 0]),
  .inr (5, [.int 0, .int 0, .int 0, .int 0]),
  .inr (5, [.int 0, .int 0, .int 0, .int 0]),
  .inr (9, [.int 0, .int 0, .int 0, .int 0, .int 0, .ref 40, .ref 41, .ref 42, .ref 43, .ref 44, .ref 45, .ref 46, .ref 47, .ref 48, .ref 49, .ref 50, .ref 51, .ref 52]),
  .inl (0, .inl ([0, 0, 0])),
  .inl (0, .inl (List.replicate 100 0)),
  .inl (0, .inl (List.replicate 24 (-1))),
  .inl (0, .inl (List.replicate 24 0)),
  .inl (0, .inl (List.replicate 24 0)),
  .inl (0, .inl (List.replicate 24 0)),
  .inl (1, .inl (List.replicate 24 0)),
  .inl (0, .inl (List.replicate 16 0)),
  .inl (1, .inl (List.replicate 16 0)),
  .inl (1, .inl (List.replicate 12 0)),
  .inl (0, .inl ([0, 0, 0, 0])),
  .inl (0, .inl ([0, 0, 0, 0])),
  .inl (0, .inl ([0, 0, 0])),
  .inr (9, [.int 0, .int 0, .int 0, .int 0, .int 0, .ref 54, .ref 55, .ref 56, .ref 57, .ref 58, .ref 59, .ref 60, .ref 61, .ref 62, .ref 63, .ref 64, .ref 65, .ref 66]),
  .inl (0, .inl ([0, 0, 0])),
  .inl (0, .inl (List.replicate 100 0)),
  .inl (0, .inl (List.replicate 24 (-1))),
  .inl (0, .inl (List.replicate 24 0)),
  .inl (0, .inl (List.replicate 24 0)),
  .inl (0, .inl (List.replicate 24 0)),
  .inl (1, .inl (List.replicate 24 0)),
  .inl (0, .inl (List.replicate 16 0)),
  .inl (1, .inl (List.replicate 16 0)),
  .inl (1, .inl (List.replicate 12 0)),
  .inl (0, .inl ([0, 0, 0, 0])),
  .inl (0, .inl ([0, 0, 0, 0])),
  .inl (0, .inl ([0, 0, 0])),
  .inr (9, [.int 0, .int 0, .int 0, .int 0, .int 0, .ref 68, .ref 69, .ref 70, .ref 71, .ref 72, .ref 73, .ref 74, .ref 75, .ref 76, .ref 77, .ref 78, .ref 79, .ref 80]),
  .inl (0, .inl ([0, 0, 0])),
  .inl (0, .inl (List.replicate 100 0)),
  .inl (0, .inl (List.replicate 24 (-1))),
  .inl (0, .inl (List.replicate 24 0)),
  .inl (0, .inl (List.replicate 24 0)),
  .inl (0, .inl (List.replicate 24 0)),
  .inl (1, .inl (List.replicate 24 0)),
  .inl (0, .inl (List.replicate 16 0)),
  .inl (1, .inl (List.replicate 16 0)),
  .inl (1, .inl (List.replicate 12 0)),
  .inl (0, .inl ([0, 0, 0, 0])),
  .inl (0, .inl ([0, 0, 0, 0])),
  .inl (0, .inl ([0, 0, 0])),
  .inr (10, [.ref 82, .int 0, .int 0]),
  .inl (0, .inl (List.replicate 160 0)),
  .inl (5, .inr (.inr [some 114, some 121, some 128, some 135, some 142, some 149])),
  .inr (3, [.int 0, .ref 85, .ref 86, .ref 87]),
  .inl (0, .inl ([0, 0, 0, 0, 0, 0])),
  .inl (0, .inl ([0, 0, 0, 0, 0, 0])),
  .inl (0, .inl ([0, 0, 0, 0, 0, 0])),
  .inr (6, [.int 0, .ref 89, .ref 90, .ref 91, .ref 92, .int 0, .int 0, .int 0, .int 0]),
  .inl (0, .inl (List.replicate 12 0)),
  .inl (0, .inl (List.replicate 12 0)),
  .inl (0, .inl (List.replicate 12 0)),
  .inl (0, .inl (List.replicate 12 0)),
  .inr (4, [.int 0, .ref 94, .ref 103, .ref 104, .ref 105, .ref 106]),
  .inl (7, .inr (.inr [some 95, some 96, some 97, some 98, some 99, some 100, some 101, some 102])),
  .inl (0, .inl (List.replicate 10 0)),
  .inl (0, .inl (List.replicate 10 0)),
  .inl (0, .inl (List.replicate 10 0)),
  .inl (0, .inl (List.replicate 10 0)),
  .inl (0, .inl (List.replicate 10 0)),
  .inl (0, .inl (List.replicate 10 0)),
  .inl (0, .inl (List.replicate 10 0)),
  .inl (0, .inl (List.replicate 10 0)),
  .inl (0, .inl ([0, 0, 0, 0, 0, 0, 0, 0])),
  .inl (0, .inl ([0, 0, 0, 0, 0, 0, 0, 0])),
  .inl (0, .inl ([0, 0, 0, 0, 0, 0, 0, 0])),
  .inl (1, .inl (List.replicate 100 0)),
  .inr (2, [.int 0, .ref 108, .ref 109, .ref 110, .ref 111, .ref 112]),
  .inl (0, .inl (List.replicate 24 0)),
  .inl (0, .inl (List.replicate 24 0)),
  .inl (0, .inl (List.replicate 24 0)),
  .inl (0, .inl (List.replicate 24 0)),
  .inl (0, .inl (List.replicate 24 (-1))),
  .inl (6, .inr (.inr [some 156, some 158, some 160, some 162])),
  .inr (1, [.int 0, .ref 115, .ref 116, .ref 117, .ref 118, .ref 119, .ref 120]),
  .inl (0, .inl ([0, 0, 0, 0, 0, 0, 0, 0])),
  .inl (0, .inl ([0, 0, 0, 0, 0, 0, 0, 0])),
  .inl (0, .inl ([0, 0, 0, 0, 0, 0, 0, 0])),
  .inl (0, .inl (List.replicate 24 0)),
  .inl (0, .inl (List.replicate 24 0)),
  .inl (0, .inl (List.replicate 24 0)),
  .inr (1, [.int 0, .ref 122, .ref 123, .ref 124, .ref 125, .ref 126, .ref 127]),
  .inl (0, .inl ([0, 0, 0, 0, 0, 0, 0, 0])),
  .inl (0, .inl ([0, 0, 0, 0, 0, 0, 0, 0])),
  .inl (0, .inl ([0, 0, 0, 0, 0, 0, 0, 0])),
  .inl (0, .inl (List.replicate 24 0)),
  .inl (0, .inl (List.replicate 24 0)),
  .inl (0, .inl (List.replicate 24 0)),
  .inr (1, [.int 0, .ref 129, .ref 130, .ref 131, .ref 132, .ref 133, .ref 134]),
  .inl (0, .inl ([0, 0, 0, 0, 0, 0, 0, 0])),
  .inl (0, .inl ([0, 0, 0, 0, 0, 0, 0, 0])),
  .inl (0, .inl ([0, 0, 0, 0, 0, 0, 0, 0])),
  .inl (0, .inl (List.replicate 24 0)),
  .inl (0, .inl (List.replicate 24 0)),
  .inl (0, .inl (List.replicate 24 0)),
  .inr (1, [.int 0, .ref 136, .ref 137, .ref 138, .ref 139, .ref 140, .ref 141]),
  .inl (0, .inl ([0, 0, 0, 0, 0, 0, 0, 0])),
  .inl (0, .inl ([0, 0, 0, 0, 0, 0, 0, 0])),
  .inl (0, .inl ([0, 0, 0, 0, 0, 0, 0, 0])),
  .inl (0, .inl (List.replicate 24 0)),
  .inl (0, .inl (List.replicate 24 0)),
  .inl (0, .inl (List.replicate 24 0)),
  .inr (1, [.int 0, .ref 143, .ref 144, .ref 145, .ref 146, .ref 147, .ref 148]),
  .inl (0, .inl ([0, 0, 0, 0, 0, 0, 0, 0])),
  .inl (0, .inl ([0, 0, 0, 0, 0, 0, 0, 0])),
  .inl (0, .inl ([0, 0, 0, 0, 0, 0, 0, 0])),
  .inl (0, .inl (List.replicate 24 0)),
  .inl (0, .inl (List.replicate 24 0)),
  .inl (0, .inl (List.replicate 24 0)),
  .inr (1, [.int 0, .ref 150, .ref 151, .ref 152, .ref 153, .ref 154, .ref 155]),
  .inl (0, .inl ([0, 0, 0, 0, 0, 0, 0, 0])),
  .inl (0, .inl ([0, 0, 0, 0, 0, 0, 0, 0])),
  .inl (0, .inl ([0, 0, 0, 0, 0, 0, 0, 0])),
  .inl (0, .inl (List.replicate 24 0)),
  .inl (0, .inl (List.replicate 24 0)),
  .inl (0, .inl (List.replicate 24 0)),
  .inr (8, [.int (-1), .int 0, .ref 157]),
  .inl (0, .inl (List.replicate 40 0)),
  .inr (8, [.int (-1), .int 0, .ref 159]),
  .inl (0, .inl (List.replicate 40 0)),
  .inr (8, [.int (-1), .int 0, .ref 161]),
  .inl (0, .inl (List.replicate 40 0)),
  .inr (8, [.int (-1), .int 0, .ref 163]),
  .inl (0, .inl (List.replicate 40 0))]
def hh : im_H := [.inr (11, [.ref 17, .ref 39, .ref 53, .ref 67, .int 0, .ref 81, .ref 83, .int 0, .int (-1), .ref 84, .ref 88, .ref 93, .ref 107, .ref 113]),
  .inr (0, [.ref 18, .int (-1), .int 0, .ref 19, .ref 20, .ref 21, .ref 22, .ref 23, .ref 24, .int 0, .ref 25, .ref 26, .null, .ref 27]),
  .inl (0, .inl (List.replicate 100 (-1))),
  .inl (0, .inl (List.replicate 24 0)),
  .inl (0, .inl (List.replicate 24 0)),
  .inl (0, .inl (List.replicate 24 0)),
  .inl (0, .inl (List.replicate 24 (-1))),
  .inl (3, .inr (.inr [some 28, some 30, some 32, some 34])),
  .inl (4, .inr (.inr [some 36, some 37, some 38])),
  .inl (0, .inl (List.replicate 16 0)),
  .inl (0, .inl (List.replicate 16 0)),
  .inl (0, .inl ([0, 0, 0, 0, 0, 0, 0, 0])),
  .inr (7, [.ref 29, .int 0, .int 0, .int 0]),
  .inl (0, .inl ([0, 0, 0, 0, 0, 0, 0, 0])),
  .inr (7, [.ref 31, .int 0, .int 0, .int 0]),
  .inl (0, .inl ([0, 0, 0, 0, 0, 0, 0, 0])),
  .inr (7, [.ref 33, .int 0, .int 0, .int 0]),
  .inl (0, .inl ([0, 0, 0, 0, 0, 0, 0, 0])),
  .inr (7, [.ref 35, .int 0, .int 0, .int 0]),
  .inl (0, .inl ([0, 0, 0, 0, 0, 0, 0, 0])),
  .inr (5, [.int 0, .int 0, .int 0, .int 0]),
  .inr (5, [.int 0, .int 0, .int 0, .int 0]),
  .inr (5, [.int 0, .int 0, .int 0, .int 0]),
  .inr (9, [.int 0, .int 0, .int 0, .int 0, .int 0, .ref 40, .ref 41, .ref 42, .ref 43, .ref 44, .ref 45, .ref 46, .ref 47, .ref 48, .ref 49, .ref 50, .ref 51, .ref 52]),
  .inl (0, .inl ([0, 0, 0])),
  .inl (0, .inl (List.replicate 100 0)),
  .inl (0, .inl (List.replicate 24 (-1))),
  .inl (0, .inl (List.replicate 24 0)),
  .inl (0, .inl (List.replicate 24 0)),
  .inl (0, .inl (List.replicate 24 0)),
  .inl (1, .inl (List.replicate 24 0)),
  .inl (0, .inl (List.replicate 16 0)),
  .inl (1, .inl (List.replicate 16 0)),
  .inl (1, .inl (List.replicate 12 0)),
  .inl (0, .inl ([0, 0, 0, 0])),
  .inl (0, .inl ([0, 0, 0, 0])),
  .inl (0, .inl ([0, 0, 0])),
  .inr (9, [.int 0, .int 0, .int 0, .int 0, .int 0, .ref 54, .ref 55, .ref 56, .ref 57, .ref 58, .ref 59, .ref 60, .ref 61, .ref 62, .ref 63, .ref 64, .ref 65, .ref 66]),
  .inl (0, .inl ([0, 0, 0])),
  .inl (0, .inl (List.replicate 100 0)),
  .inl (0, .inl (List.replicate 24 (-1))),
  .inl (0, .inl (List.replicate 24 0)),
  .inl (0, .inl (List.replicate 24 0)),
  .inl (0, .inl (List.replicate 24 0)),
  .inl (1, .inl (List.replicate 24 0)),
  .inl (0, .inl (List.replicate 16 0)),
  .inl (1, .inl (List.replicate 16 0)),
  .inl (1, .inl (List.replicate 12 0)),
  .inl (0, .inl ([0, 0, 0, 0])),
  .inl (0, .inl ([0, 0, 0, 0])),
  .inl (0, .inl ([0, 0, 0])),
  .inr (9, [.int 0, .int 0, .int 0, .int 0, .int 0, .ref 68, .ref 69, .ref 70, .ref 71, .ref 72, .ref 73, .ref 74, .ref 75, .ref 76, .ref 77, .ref 78, .ref 79, .ref 80]),
  .inl (0, .inl ([0, 0, 0])),
  .inl (0, .inl (List.replicate 100 0)),
  .inl (0, .inl (List.replicate 24 (-1))),
  .inl (0, .inl (List.replicate 24 0)),
  .inl (0, .inl (List.replicate 24 0)),
  .inl (0, .inl (List.replicate 24 0)),
  .inl (1, .inl (List.replicate 24 0)),
  .inl (0, .inl (List.replicate 16 0)),
  .inl (1, .inl (List.replicate 16 0)),
  .inl (1, .inl (List.replicate 12 0)),
  .inl (0, .inl ([0, 0, 0, 0])),
  .inl (0, .inl ([0, 0, 0, 0])),
  .inl (0, .inl ([0, 0, 0])),
  .inr (10, [.ref 82, .int 0, .int 0]),
  .inl (0, .inl (List.replicate 160 0)),
  .inl (5, .inr (.inr [some 114, some 121, some 128, some 135, some 142, some 149])),
  .inr (3, [.int 0, .ref 85, .ref 86, .ref 87]),
  .inl (0, .inl ([0, 0, 0, 0, 0, 0])),
  .inl (0, .inl ([0, 0, 0, 0, 0, 0])),
  .inl (0, .inl ([0, 0, 0, 0, 0, 0])),
  .inr (6, [.int 0, .ref 89, .ref 90, .ref 91, .ref 92, .int 0, .int 0, .int 0, .int 0]),
  .inl (0, .inl (List.replicate 12 0)),
  .inl (0, .inl (List.replicate 12 0)),
  .inl (0, .inl (List.replicate 12 0)),
  .inl (0, .inl (List.replicate 12 0)),
  .inr (4, [.int 0, .ref 94, .ref 103, .ref 104, .ref 105, .ref 106]),
  .inl (7, .inr (.inr [some 95, some 96, some 97, some 98, some 99, some 100, some 101, some 102])),
  .inl (0, .inl (List.replicate 10 0)),
  .inl (0, .inl (List.replicate 10 0)),
  .inl (0, .inl (List.replicate 10 0)),
  .inl (0, .inl (List.replicate 10 0)),
  .inl (0, .inl (List.replicate 10 0)),
  .inl (0, .inl (List.replicate 10 0)),
  .inl (0, .inl (List.replicate 10 0)),
  .inl (0, .inl (List.replicate 10 0)),
  .inl (0, .inl ([0, 0, 0, 0, 0, 0, 0, 0])),
  .inl (0, .inl ([0, 0, 0, 0, 0, 0, 0, 0])),
  .inl (0, .inl ([0, 0, 0, 0, 0, 0, 0, 0])),
  .inl (1, .inl (List.replicate 100 0)),
  .inr (2, [.int 0, .ref 108, .ref 109, .ref 110, .ref 111, .ref 112]),
  .inl (0, .inl (List.replicate 24 0)),
  .inl (0, .inl (List.replicate 24 0)),
  .inl (0, .inl (List.replicate 24 0)),
  .inl (0, .inl (List.replicate 24 0)),
  .inl (0, .inl (List.replicate 24 (-1))),
  .inl (6, .inr (.inr [some 156, some 158, some 160, some 162])),
  .inr (1, [.int 0, .ref 115, .ref 116, .ref 117, .ref 118, .ref 119, .ref 120]),
  .inl (0, .inl ([0, 0, 0, 0, 0, 0, 0, 0])),
  .inl (0, .inl ([0, 0, 0, 0, 0, 0, 0, 0])),
  .inl (0, .inl ([0, 0, 0, 0, 0, 0, 0, 0])),
  .inl (0, .inl (List.replicate 24 0)),
  .inl (0, .inl (List.replicate 24 0)),
  .inl (0, .inl (List.replicate 24 0)),
  .inr (1, [.int 0, .ref 122, .ref 123, .ref 124, .ref 125, .ref 126, .ref 127]),
  .inl (0, .inl ([0, 0, 0, 0, 0, 0, 0, 0])),
  .inl (0, .inl ([0, 0, 0, 0, 0, 0, 0, 0])),
  .inl (0, .inl ([0, 0, 0, 0, 0, 0, 0, 0])),
  .inl (0, .inl (List.replicate 24 0)),
  .inl (0, .inl (List.replicate 24 0)),
  .inl (0, .inl (List.replicate 24 0)),
  .inr (1, [.int 0, .ref 129, .ref 130, .ref 131, .ref 132, .ref 133, .ref 134]),
  .inl (0, .inl ([0, 0, 0, 0, 0, 0, 0, 0])),
  .inl (0, .inl ([0, 0, 0, 0, 0, 0, 0, 0])),
  .inl (0, .inl ([0, 0, 0, 0, 0, 0, 0, 0])),
  .inl (0, .inl (List.replicate 24 0)),
  .inl (0, .inl (List.replicate 24 0)),
  .inl (0, .inl (List.replicate 24 0)),
  .inr (1, [.int 0, .ref 136, .ref 137, .ref 138, .ref 139, .ref 140, .ref 141]),
  .inl (0, .inl ([0, 0, 0, 0, 0, 0, 0, 0])),
  .inl (0, .inl ([0, 0, 0, 0, 0, 0, 0, 0])),
  .inl (0, .inl ([0, 0, 0, 0, 0, 0, 0, 0])),
  .inl (0, .inl (List.replicate 24 0)),
  .inl (0, .inl (List.replicate 24 0)),
  .inl (0, .inl (List.replicate 24 0)),
  .inr (1, [.int 0, .ref 143, .ref 144, .ref 145, .ref 146, .ref 147, .ref 148]),
  .inl (0, .inl ([0, 0, 0, 0, 0, 0, 0, 0])),
  .inl (0, .inl ([0, 0, 0, 0, 0, 0, 0, 0])),
  .inl (0, .inl ([0, 0, 0, 0, 0, 0, 0, 0])),
  .inl (0, .inl (List.replicate 24 0)),
  .inl (0, .inl (List.replicate 24 0)),
  .inl (0, .inl (List.replicate 24 0)),
  .inr (1, [.int 0, .ref 150, .ref 151, .ref 152, .ref 153, .ref 154, .ref 155]),
  .inl (0, .inl ([0, 0, 0, 0, 0, 0, 0, 0])),
  .inl (0, .inl ([0, 0, 0, 0, 0, 0, 0, 0])),
  .inl (0, .inl ([0, 0, 0, 0, 0, 0, 0, 0])),
  .inl (0, .inl (List.replicate 24 0)),
  .inl (0, .inl (List.replicate 24 0)),
  .inl (0, .inl (List.replicate 24 0)),
  .inr (8, [.int (-1), .int 0, .ref 157]),
  .inl (0, .inl (List.replicate 40 0)),
  .inr (8, [.int (-1), .int 0, .ref 159]),
  .inl (0, .inl (List.replicate 40 0)),
  .inr (8, [.int (-1), .int 0, .ref 161]),
  .inl (0, .inl (List.replicate 40 0)),
  .inr (8, [.int (-1), .int 0, .ref 163]),
  .inl (0, .inl (List.replicate 40 0)),
  .inr (12, [.ref 165, .ref 166, .ref 167, .int 0, .ref 168, .ref 169, .ref 170, .ref 171, .ref 172, .int (-1), .int 0, .ref 173, .ref 174, .ref 175, .ref 176, .ref 177, .ref 178, .ref 179, .ref 180, .ref 181, .ref 182, .int 0, .ref 183, .ref 184, .int 0, .ref 185, .ref 186, .ref 187, .ref 188, .int 0, .ref 189, .ref 190, .ref 191, .ref 192, .ref 193, .int 0, .ref 194, .ref 195, .ref 196, .ref 197, .ref 198, .int 0, .ref 199, .int 0, .ref 200, .int 0, .int 0, .int (-1), .ref 201, .ref 202, .ref 203, .ref 204, .ref 205, .ref 206, .ref 207, .ref 208, .ref 209, .ref 210, .ref 211, .ref 212, .int 0, .int 0, .int 0, .ref 213, .ref 214, .ref 215]),
  .inl (0, .inl ((List.replicate 140 0 ++ (List.replicate 24 (-1) ++ (List.replicate 119 0))))),
  .inl (0, .inl (List.replicate 283 0)),
  .inl (0, .inl (List.replicate 283 0)),
  .inl (0, .inl (List.replicate 100 (-1))),
  .inl (0, .inl ([20, 35, 20, 70, 10, 5])),
  .inl (0, .inl ([1, 4, 1, 4, 7, 4])),
  .inl (0, .inl ([0, 0, 5, 0, 5, 0])),
  .inl (0, .inl ([3, 3, 2, 7, 2, 6])),
  .inl (0, .inl (List.replicate 24 0)),
  .inl (0, .inl (List.replicate 24 0)),
  .inl (0, .inl (List.replicate 24 0)),
  .inl (0, .inl (List.replicate 32 0)),
  .inl (0, .inl ([0, 0, 0, 0])),
  .inl (0, .inl ([0, 0, 0, 0])),
  .inl (0, .inl ([0, 0, 0, 0])),
  .inl (0, .inl (List.replicate 36 0)),
  .inl (0, .inl ([0, 0, 0])),
  .inl (0, .inl ([0, 0, 0])),
  .inl (0, .inl (List.replicate 16 0)),
  .inl (0, .inl (List.replicate 16 0)),
  .inl (0, .inl (List.replicate 12 0)),
  .inl (0, .inl (List.replicate 12 0)),
  .inl (0, .inl (List.replicate 12 0)),
  .inl (0, .inl (List.replicate 12 0)),
  .inl (0, .inl ([0, 0, 0, 0, 0, 0, 0, 0])),
  .inl (0, .inl ([0, 0, 0, 0, 0, 0, 0, 0])),
  .inl (0, .inl ([0, 0, 0, 0, 0, 0, 0, 0])),
  .inl (0, .inl ([0, 0, 0, 0, 0, 0, 0, 0])),
  .inl (1, .inl (List.replicate 100 0)),
  .inl (0, .inl (List.replicate 24 0)),
  .inl (0, .inl (List.replicate 24 0)),
  .inl (0, .inl (List.replicate 24 0)),
  .inl (0, .inl (List.replicate 24 0)),
  .inl (0, .inl (List.replicate 24 (-1))),
  .inl (0, .inl ([0, 0, 0, 0, 0, 0])),
  .inl (0, .inl (List.replicate 160 0)),
  .inl (0, .inl ([0, 0, 0, 0, 0, 0])),
  .inl (0, .inl (List.replicate 48 0)),
  .inl (0, .inl (List.replicate 48 0)),
  .inl (0, .inl (List.replicate 48 0)),
  .inl (0, .inl (List.replicate 144 0)),
  .inl (0, .inl (List.replicate 144 0)),
  .inl (0, .inl (List.replicate 144 0)),
  .inl (0, .inl ([(-1), (-1), (-1), (-1)])),
  .inl (0, .inl ([0, 0, 0, 0])),
  .inl (0, .inl (List.replicate 160 0)),
  .inl (2, .inr (.inl ([2003792491, 1667330660, 1937006969, 126943973305959, 6383461, 7039342, 1752527476, 7824756, 2003398244, 6578553, 131320544716132, 543778336]))),
  .inl (0, .inl ([4, 4, 4, 6, 3, 3, 4, 3, 4, 3, 6, 4])),
  .inl (0, .inl (List.replicate 16 0)),
  .inl (0, .inl (List.replicate 16 0)),
  .inl (0, .inl ([0, 0, 0, 0, 0, 0]))]
theorem hh_len : hh.length = 200 := by decide +kernel
theorem hh_0 : im_obj hh 16 11 = some [.ref 17, .ref 39, .ref 53, .ref 67, .int 0, .ref 81, .ref 83, .int 0, .int (-1), .ref 84, .ref 88, .ref 93, .ref 107, .ref 113] := rfl
theorem hh_1 : im_obj hh 17 0 = some [.ref 18, .int (-1), .int 0, .ref 19, .ref 20, .ref 21, .ref 22, .ref 23, .ref 24, .int 0, .ref 25, .ref 26, .null, .ref 27] := rfl
theorem hh_2 : im_ia hh 18 0 = some ((List.replicate 100 (-1) : List Int32)) := rfl
theorem hh_3 : im_ia hh 19 0 = some ((List.replicate 24 0 : List Int32)) := rfl
theorem hh_4 : im_ia hh 20 0 = some ((List.replicate 24 0 : List Int32)) := rfl
theorem hh_5 : im_ia hh 21 0 = some ((List.replicate 24 0 : List Int32)) := rfl
theorem hh_6 : im_ia hh 22 0 = some ((List.replicate 24 (-1) : List Int32)) := rfl
theorem hh_7 : im_qa hh 23 = some (3, [some 28, some 30, some 32, some 34]) := rfl
theorem hh_8 : im_qa hh 24 = some (4, [some 36, some 37, some 38]) := rfl
theorem hh_9 : im_ia hh 25 0 = some ((List.replicate 16 0 : List Int32)) := rfl
theorem hh_10 : im_ia hh 26 0 = some ((List.replicate 16 0 : List Int32)) := rfl
theorem hh_11 : im_ia hh 27 0 = some (([0, 0, 0, 0, 0, 0, 0, 0] : List Int32)) := rfl
theorem hh_12 : im_obj hh 28 7 = some [.ref 29, .int 0, .int 0, .int 0] := rfl
theorem hh_13 : im_ia hh 29 0 = some (([0, 0, 0, 0, 0, 0, 0, 0] : List Int32)) := rfl
theorem hh_14 : im_obj hh 30 7 = some [.ref 31, .int 0, .int 0, .int 0] := rfl
theorem hh_15 : im_ia hh 31 0 = some (([0, 0, 0, 0, 0, 0, 0, 0] : List Int32)) := rfl
theorem hh_16 : im_obj hh 32 7 = some [.ref 33, .int 0, .int 0, .int 0] := rfl
theorem hh_17 : im_ia hh 33 0 = some (([0, 0, 0, 0, 0, 0, 0, 0] : List Int32)) := rfl
theorem hh_18 : im_obj hh 34 7 = some [.ref 35, .int 0, .int 0, .int 0] := rfl
theorem hh_19 : im_ia hh 35 0 = some (([0, 0, 0, 0, 0, 0, 0, 0] : List Int32)) := rfl
theorem hh_20 : im_obj hh 36 5 = some [.int 0, .int 0, .int 0, .int 0] := rfl
theorem hh_21 : im_obj hh 37 5 = some [.int 0, .int 0, .int 0, .int 0] := rfl
theorem hh_22 : im_obj hh 38 5 = some [.int 0, .int 0, .int 0, .int 0] := rfl
theorem hh_23 : im_obj hh 39 9 = some [.int 0, .int 0, .int 0, .int 0, .int 0, .ref 40, .ref 41, .ref 42, .ref 43, .ref 44, .ref 45, .ref 46, .ref 47, .ref 48, .ref 49, .ref 50, .ref 51, .ref 52] := rfl
theorem hh_24 : im_ia hh 40 0 = some (([0, 0, 0] : List Int32)) := rfl
theorem hh_25 : im_ia hh 41 0 = some ((List.replicate 100 0 : List Int32)) := rfl
theorem hh_26 : im_ia hh 42 0 = some ((List.replicate 24 (-1) : List Int32)) := rfl
theorem hh_27 : im_ia hh 43 0 = some ((List.replicate 24 0 : List Int32)) := rfl
theorem hh_28 : im_ia hh 44 0 = some ((List.replicate 24 0 : List Int32)) := rfl
theorem hh_29 : im_ia hh 45 0 = some ((List.replicate 24 0 : List Int32)) := rfl
theorem hh_30 : im_ia hh 46 1 = some ((List.replicate 24 0 : List Int32)) := rfl
theorem hh_31 : im_ia hh 47 0 = some ((List.replicate 16 0 : List Int32)) := rfl
theorem hh_32 : im_ia hh 48 1 = some ((List.replicate 16 0 : List Int32)) := rfl
theorem hh_33 : im_ia hh 49 1 = some ((List.replicate 12 0 : List Int32)) := rfl
theorem hh_34 : im_ia hh 50 0 = some (([0, 0, 0, 0] : List Int32)) := rfl
theorem hh_35 : im_ia hh 51 0 = some (([0, 0, 0, 0] : List Int32)) := rfl
theorem hh_36 : im_ia hh 52 0 = some (([0, 0, 0] : List Int32)) := rfl
theorem hh_37 : im_obj hh 53 9 = some [.int 0, .int 0, .int 0, .int 0, .int 0, .ref 54, .ref 55, .ref 56, .ref 57, .ref 58, .ref 59, .ref 60, .ref 61, .ref 62, .ref 63, .ref 64, .ref 65, .ref 66] := rfl
theorem hh_38 : im_ia hh 54 0 = some (([0, 0, 0] : List Int32)) := rfl
theorem hh_39 : im_ia hh 55 0 = some ((List.replicate 100 0 : List Int32)) := rfl
theorem hh_40 : im_ia hh 56 0 = some ((List.replicate 24 (-1) : List Int32)) := rfl
theorem hh_41 : im_ia hh 57 0 = some ((List.replicate 24 0 : List Int32)) := rfl
theorem hh_42 : im_ia hh 58 0 = some ((List.replicate 24 0 : List Int32)) := rfl
theorem hh_43 : im_ia hh 59 0 = some ((List.replicate 24 0 : List Int32)) := rfl
theorem hh_44 : im_ia hh 60 1 = some ((List.replicate 24 0 : List Int32)) := rfl
theorem hh_45 : im_ia hh 61 0 = some ((List.replicate 16 0 : List Int32)) := rfl
theorem hh_46 : im_ia hh 62 1 = some ((List.replicate 16 0 : List Int32)) := rfl
theorem hh_47 : im_ia hh 63 1 = some ((List.replicate 12 0 : List Int32)) := rfl
theorem hh_48 : im_ia hh 64 0 = some (([0, 0, 0, 0] : List Int32)) := rfl
theorem hh_49 : im_ia hh 65 0 = some (([0, 0, 0, 0] : List Int32)) := rfl
theorem hh_50 : im_ia hh 66 0 = some (([0, 0, 0] : List Int32)) := rfl
theorem hh_51 : im_obj hh 67 9 = some [.int 0, .int 0, .int 0, .int 0, .int 0, .ref 68, .ref 69, .ref 70, .ref 71, .ref 72, .ref 73, .ref 74, .ref 75, .ref 76, .ref 77, .ref 78, .ref 79, .ref 80] := rfl
theorem hh_52 : im_ia hh 68 0 = some (([0, 0, 0] : List Int32)) := rfl
theorem hh_53 : im_ia hh 69 0 = some ((List.replicate 100 0 : List Int32)) := rfl
theorem hh_54 : im_ia hh 70 0 = some ((List.replicate 24 (-1) : List Int32)) := rfl
theorem hh_55 : im_ia hh 71 0 = some ((List.replicate 24 0 : List Int32)) := rfl
theorem hh_56 : im_ia hh 72 0 = some ((List.replicate 24 0 : List Int32)) := rfl
theorem hh_57 : im_ia hh 73 0 = some ((List.replicate 24 0 : List Int32)) := rfl
theorem hh_58 : im_ia hh 74 1 = some ((List.replicate 24 0 : List Int32)) := rfl
theorem hh_59 : im_ia hh 75 0 = some ((List.replicate 16 0 : List Int32)) := rfl
theorem hh_60 : im_ia hh 76 1 = some ((List.replicate 16 0 : List Int32)) := rfl
theorem hh_61 : im_ia hh 77 1 = some ((List.replicate 12 0 : List Int32)) := rfl
theorem hh_62 : im_ia hh 78 0 = some (([0, 0, 0, 0] : List Int32)) := rfl
theorem hh_63 : im_ia hh 79 0 = some (([0, 0, 0, 0] : List Int32)) := rfl
theorem hh_64 : im_ia hh 80 0 = some (([0, 0, 0] : List Int32)) := rfl
theorem hh_65 : im_obj hh 81 10 = some [.ref 82, .int 0, .int 0] := rfl
theorem hh_66 : im_ia hh 82 0 = some ((List.replicate 160 0 : List Int32)) := rfl
theorem hh_67 : im_qa hh 83 = some (5, [some 114, some 121, some 128, some 135, some 142, some 149]) := rfl
theorem hh_68 : im_obj hh 84 3 = some [.int 0, .ref 85, .ref 86, .ref 87] := rfl
theorem hh_69 : im_ia hh 85 0 = some (([0, 0, 0, 0, 0, 0] : List Int32)) := rfl
theorem hh_70 : im_ia hh 86 0 = some (([0, 0, 0, 0, 0, 0] : List Int32)) := rfl
theorem hh_71 : im_ia hh 87 0 = some (([0, 0, 0, 0, 0, 0] : List Int32)) := rfl
theorem hh_72 : im_obj hh 88 6 = some [.int 0, .ref 89, .ref 90, .ref 91, .ref 92, .int 0, .int 0, .int 0, .int 0] := rfl
theorem hh_73 : im_ia hh 89 0 = some ((List.replicate 12 0 : List Int32)) := rfl
theorem hh_74 : im_ia hh 90 0 = some ((List.replicate 12 0 : List Int32)) := rfl
theorem hh_75 : im_ia hh 91 0 = some ((List.replicate 12 0 : List Int32)) := rfl
theorem hh_76 : im_ia hh 92 0 = some ((List.replicate 12 0 : List Int32)) := rfl
theorem hh_77 : im_obj hh 93 4 = some [.int 0, .ref 94, .ref 103, .ref 104, .ref 105, .ref 106] := rfl
theorem hh_78 : im_qa hh 94 = some (7, [some 95, some 96, some 97, some 98, some 99, some 100, some 101, some 102]) := rfl
theorem hh_79 : im_ia hh 95 0 = some ((List.replicate 10 0 : List Int32)) := rfl
theorem hh_80 : im_ia hh 96 0 = some ((List.replicate 10 0 : List Int32)) := rfl
theorem hh_81 : im_ia hh 97 0 = some ((List.replicate 10 0 : List Int32)) := rfl
theorem hh_82 : im_ia hh 98 0 = some ((List.replicate 10 0 : List Int32)) := rfl
theorem hh_83 : im_ia hh 99 0 = some ((List.replicate 10 0 : List Int32)) := rfl
theorem hh_84 : im_ia hh 100 0 = some ((List.replicate 10 0 : List Int32)) := rfl
theorem hh_85 : im_ia hh 101 0 = some ((List.replicate 10 0 : List Int32)) := rfl
theorem hh_86 : im_ia hh 102 0 = some ((List.replicate 10 0 : List Int32)) := rfl
theorem hh_87 : im_ia hh 103 0 = some (([0, 0, 0, 0, 0, 0, 0, 0] : List Int32)) := rfl
theorem hh_88 : im_ia hh 104 0 = some (([0, 0, 0, 0, 0, 0, 0, 0] : List Int32)) := rfl
theorem hh_89 : im_ia hh 105 0 = some (([0, 0, 0, 0, 0, 0, 0, 0] : List Int32)) := rfl
theorem hh_90 : im_ia hh 106 1 = some ((List.replicate 100 0 : List Int32)) := rfl
theorem hh_91 : im_obj hh 107 2 = some [.int 0, .ref 108, .ref 109, .ref 110, .ref 111, .ref 112] := rfl
theorem hh_92 : im_ia hh 108 0 = some ((List.replicate 24 0 : List Int32)) := rfl
theorem hh_93 : im_ia hh 109 0 = some ((List.replicate 24 0 : List Int32)) := rfl
theorem hh_94 : im_ia hh 110 0 = some ((List.replicate 24 0 : List Int32)) := rfl
theorem hh_95 : im_ia hh 111 0 = some ((List.replicate 24 0 : List Int32)) := rfl
theorem hh_96 : im_ia hh 112 0 = some ((List.replicate 24 (-1) : List Int32)) := rfl
theorem hh_97 : im_qa hh 113 = some (6, [some 156, some 158, some 160, some 162]) := rfl
theorem hh_98 : im_obj hh 114 1 = some [.int 0, .ref 115, .ref 116, .ref 117, .ref 118, .ref 119, .ref 120] := rfl
theorem hh_99 : im_ia hh 115 0 = some (([0, 0, 0, 0, 0, 0, 0, 0] : List Int32)) := rfl
theorem hh_100 : im_ia hh 116 0 = some (([0, 0, 0, 0, 0, 0, 0, 0] : List Int32)) := rfl
theorem hh_101 : im_ia hh 117 0 = some (([0, 0, 0, 0, 0, 0, 0, 0] : List Int32)) := rfl
theorem hh_102 : im_ia hh 118 0 = some ((List.replicate 24 0 : List Int32)) := rfl
theorem hh_103 : im_ia hh 119 0 = some ((List.replicate 24 0 : List Int32)) := rfl
theorem hh_104 : im_ia hh 120 0 = some ((List.replicate 24 0 : List Int32)) := rfl
theorem hh_105 : im_obj hh 121 1 = some [.int 0, .ref 122, .ref 123, .ref 124, .ref 125, .ref 126, .ref 127] := rfl
theorem hh_106 : im_ia hh 122 0 = some (([0, 0, 0, 0, 0, 0, 0, 0] : List Int32)) := rfl
theorem hh_107 : im_ia hh 123 0 = some (([0, 0, 0, 0, 0, 0, 0, 0] : List Int32)) := rfl
theorem hh_108 : im_ia hh 124 0 = some (([0, 0, 0, 0, 0, 0, 0, 0] : List Int32)) := rfl
theorem hh_109 : im_ia hh 125 0 = some ((List.replicate 24 0 : List Int32)) := rfl
theorem hh_110 : im_ia hh 126 0 = some ((List.replicate 24 0 : List Int32)) := rfl
theorem hh_111 : im_ia hh 127 0 = some ((List.replicate 24 0 : List Int32)) := rfl
theorem hh_112 : im_obj hh 128 1 = some [.int 0, .ref 129, .ref 130, .ref 131, .ref 132, .ref 133, .ref 134] := rfl
theorem hh_113 : im_ia hh 129 0 = some (([0, 0, 0, 0, 0, 0, 0, 0] : List Int32)) := rfl
theorem hh_114 : im_ia hh 130 0 = some (([0, 0, 0, 0, 0, 0, 0, 0] : List Int32)) := rfl
theorem hh_115 : im_ia hh 131 0 = some (([0, 0, 0, 0, 0, 0, 0, 0] : List Int32)) := rfl
theorem hh_116 : im_ia hh 132 0 = some ((List.replicate 24 0 : List Int32)) := rfl
theorem hh_117 : im_ia hh 133 0 = some ((List.replicate 24 0 : List Int32)) := rfl
theorem hh_118 : im_ia hh 134 0 = some ((List.replicate 24 0 : List Int32)) := rfl
theorem hh_119 : im_obj hh 135 1 = some [.int 0, .ref 136, .ref 137, .ref 138, .ref 139, .ref 140, .ref 141] := rfl
theorem hh_120 : im_ia hh 136 0 = some (([0, 0, 0, 0, 0, 0, 0, 0] : List Int32)) := rfl
theorem hh_121 : im_ia hh 137 0 = some (([0, 0, 0, 0, 0, 0, 0, 0] : List Int32)) := rfl
theorem hh_122 : im_ia hh 138 0 = some (([0, 0, 0, 0, 0, 0, 0, 0] : List Int32)) := rfl
theorem hh_123 : im_ia hh 139 0 = some ((List.replicate 24 0 : List Int32)) := rfl
theorem hh_124 : im_ia hh 140 0 = some ((List.replicate 24 0 : List Int32)) := rfl
theorem hh_125 : im_ia hh 141 0 = some ((List.replicate 24 0 : List Int32)) := rfl
theorem hh_126 : im_obj hh 142 1 = some [.int 0, .ref 143, .ref 144, .ref 145, .ref 146, .ref 147, .ref 148] := rfl
theorem hh_127 : im_ia hh 143 0 = some (([0, 0, 0, 0, 0, 0, 0, 0] : List Int32)) := rfl
theorem hh_128 : im_ia hh 144 0 = some (([0, 0, 0, 0, 0, 0, 0, 0] : List Int32)) := rfl
theorem hh_129 : im_ia hh 145 0 = some (([0, 0, 0, 0, 0, 0, 0, 0] : List Int32)) := rfl
theorem hh_130 : im_ia hh 146 0 = some ((List.replicate 24 0 : List Int32)) := rfl
theorem hh_131 : im_ia hh 147 0 = some ((List.replicate 24 0 : List Int32)) := rfl
theorem hh_132 : im_ia hh 148 0 = some ((List.replicate 24 0 : List Int32)) := rfl
theorem hh_133 : im_obj hh 149 1 = some [.int 0, .ref 150, .ref 151, .ref 152, .ref 153, .ref 154, .ref 155] := rfl
theorem hh_134 : im_ia hh 150 0 = some (([0, 0, 0, 0, 0, 0, 0, 0] : List Int32)) := rfl
theorem hh_135 : im_ia hh 151 0 = some (([0, 0, 0, 0, 0, 0, 0, 0] : List Int32)) := rfl
theorem hh_136 : im_ia hh 152 0 = some (([0, 0, 0, 0, 0, 0, 0, 0] : List Int32)) := rfl
theorem hh_137 : im_ia hh 153 0 = some ((List.replicate 24 0 : List Int32)) := rfl
theorem hh_138 : im_ia hh 154 0 = some ((List.replicate 24 0 : List Int32)) := rfl
theorem hh_139 : im_ia hh 155 0 = some ((List.replicate 24 0 : List Int32)) := rfl
theorem hh_140 : im_obj hh 156 8 = some [.int (-1), .int 0, .ref 157] := rfl
theorem hh_141 : im_ia hh 157 0 = some ((List.replicate 40 0 : List Int32)) := rfl
theorem hh_142 : im_obj hh 158 8 = some [.int (-1), .int 0, .ref 159] := rfl
theorem hh_143 : im_ia hh 159 0 = some ((List.replicate 40 0 : List Int32)) := rfl
theorem hh_144 : im_obj hh 160 8 = some [.int (-1), .int 0, .ref 161] := rfl
theorem hh_145 : im_ia hh 161 0 = some ((List.replicate 40 0 : List Int32)) := rfl
theorem hh_146 : im_obj hh 162 8 = some [.int (-1), .int 0, .ref 163] := rfl
theorem hh_147 : im_ia hh 163 0 = some ((List.replicate 40 0 : List Int32)) := rfl
theorem hh_148 : im_obj hh 164 12 = some [.ref 165, .ref 166, .ref 167, .int 0, .ref 168, .ref 169, .ref 170, .ref 171, .ref 172, .int (-1), .int 0, .ref 173, .ref 174, .ref 175, .ref 176, .ref 177, .ref 178, .ref 179, .ref 180, .ref 181, .ref 182, .int 0, .ref 183, .ref 184, .int 0, .ref 185, .ref 186, .ref 187, .ref 188, .int 0, .ref 189, .ref 190, .ref 191, .ref 192, .ref 193, .int 0, .ref 194, .ref 195, .ref 196, .ref 197, .ref 198, .int 0, .ref 199, .int 0, .ref 200, .int 0, .int 0, .int (-1), .ref 201, .ref 202, .ref 203, .ref 204, .ref 205, .ref 206, .ref 207, .ref 208, .ref 209, .ref 210, .ref 211, .ref 212, .int 0, .int 0, .int 0, .ref 213, .ref 214, .ref 215] := rfl
theorem hh_149 : im_ia hh 165 0 = some (((List.replicate 140 0 ++ (List.replicate 24 (-1) ++ (List.replicate 119 0))) : List Int32)) := rfl
theorem hh_150 : im_ia hh 166 0 = some ((List.replicate 283 0 : List Int32)) := rfl
theorem hh_151 : im_ia hh 167 0 = some ((List.replicate 283 0 : List Int32)) := rfl
theorem hh_152 : im_ia hh 168 0 = some ((List.replicate 100 (-1) : List Int32)) := rfl
theorem hh_153 : im_ia hh 169 0 = some (([20, 35, 20, 70, 10, 5] : List Int32)) := rfl
theorem hh_154 : im_ia hh 170 0 = some (([1, 4, 1, 4, 7, 4] : List Int32)) := rfl
theorem hh_155 : im_ia hh 171 0 = some (([0, 0, 5, 0, 5, 0] : List Int32)) := rfl
theorem hh_156 : im_ia hh 172 0 = some (([3, 3, 2, 7, 2, 6] : List Int32)) := rfl
theorem hh_157 : im_ia hh 173 0 = some ((List.replicate 24 0 : List Int32)) := rfl
theorem hh_158 : im_ia hh 174 0 = some ((List.replicate 24 0 : List Int32)) := rfl
theorem hh_159 : im_ia hh 175 0 = some ((List.replicate 24 0 : List Int32)) := rfl
theorem hh_160 : im_ia hh 176 0 = some ((List.replicate 32 0 : List Int32)) := rfl
theorem hh_161 : im_ia hh 177 0 = some (([0, 0, 0, 0] : List Int32)) := rfl
theorem hh_162 : im_ia hh 178 0 = some (([0, 0, 0, 0] : List Int32)) := rfl
theorem hh_163 : im_ia hh 179 0 = some (([0, 0, 0, 0] : List Int32)) := rfl
theorem hh_164 : im_ia hh 180 0 = some ((List.replicate 36 0 : List Int32)) := rfl
theorem hh_165 : im_ia hh 181 0 = some (([0, 0, 0] : List Int32)) := rfl
theorem hh_166 : im_ia hh 182 0 = some (([0, 0, 0] : List Int32)) := rfl
theorem hh_167 : im_ia hh 183 0 = some ((List.replicate 16 0 : List Int32)) := rfl
theorem hh_168 : im_ia hh 184 0 = some ((List.replicate 16 0 : List Int32)) := rfl
theorem hh_169 : im_ia hh 185 0 = some ((List.replicate 12 0 : List Int32)) := rfl
theorem hh_170 : im_ia hh 186 0 = some ((List.replicate 12 0 : List Int32)) := rfl
theorem hh_171 : im_ia hh 187 0 = some ((List.replicate 12 0 : List Int32)) := rfl
theorem hh_172 : im_ia hh 188 0 = some ((List.replicate 12 0 : List Int32)) := rfl
theorem hh_173 : im_ia hh 189 0 = some (([0, 0, 0, 0, 0, 0, 0, 0] : List Int32)) := rfl
theorem hh_174 : im_ia hh 190 0 = some (([0, 0, 0, 0, 0, 0, 0, 0] : List Int32)) := rfl
theorem hh_175 : im_ia hh 191 0 = some (([0, 0, 0, 0, 0, 0, 0, 0] : List Int32)) := rfl
theorem hh_176 : im_ia hh 192 0 = some (([0, 0, 0, 0, 0, 0, 0, 0] : List Int32)) := rfl
theorem hh_177 : im_ia hh 193 1 = some ((List.replicate 100 0 : List Int32)) := rfl
theorem hh_178 : im_ia hh 194 0 = some ((List.replicate 24 0 : List Int32)) := rfl
theorem hh_179 : im_ia hh 195 0 = some ((List.replicate 24 0 : List Int32)) := rfl
theorem hh_180 : im_ia hh 196 0 = some ((List.replicate 24 0 : List Int32)) := rfl
theorem hh_181 : im_ia hh 197 0 = some ((List.replicate 24 0 : List Int32)) := rfl
theorem hh_182 : im_ia hh 198 0 = some ((List.replicate 24 (-1) : List Int32)) := rfl
theorem hh_183 : im_ia hh 199 0 = some (([0, 0, 0, 0, 0, 0] : List Int32)) := rfl
theorem hh_184 : im_ia hh 200 0 = some ((List.replicate 160 0 : List Int32)) := rfl
theorem hh_185 : im_ia hh 201 0 = some (([0, 0, 0, 0, 0, 0] : List Int32)) := rfl
theorem hh_186 : im_ia hh 202 0 = some ((List.replicate 48 0 : List Int32)) := rfl
theorem hh_187 : im_ia hh 203 0 = some ((List.replicate 48 0 : List Int32)) := rfl
theorem hh_188 : im_ia hh 204 0 = some ((List.replicate 48 0 : List Int32)) := rfl
theorem hh_189 : im_ia hh 205 0 = some ((List.replicate 144 0 : List Int32)) := rfl
theorem hh_190 : im_ia hh 206 0 = some ((List.replicate 144 0 : List Int32)) := rfl
theorem hh_191 : im_ia hh 207 0 = some ((List.replicate 144 0 : List Int32)) := rfl
theorem hh_192 : im_ia hh 208 0 = some (([(-1), (-1), (-1), (-1)] : List Int32)) := rfl
theorem hh_193 : im_ia hh 209 0 = some (([0, 0, 0, 0] : List Int32)) := rfl
theorem hh_194 : im_ia hh 210 0 = some ((List.replicate 160 0 : List Int32)) := rfl
theorem hh_196 : im_ia hh 212 0 = some (([4, 4, 4, 6, 3, 3, 4, 3, 4, 3, 6, 4] : List Int32)) := rfl
theorem hh_197 : im_ia hh 213 0 = some ((List.replicate 16 0 : List Int32)) := rfl
theorem hh_198 : im_ia hh 214 0 = some ((List.replicate 16 0 : List Int32)) := rfl
theorem hh_199 : im_ia hh 215 0 = some (([0, 0, 0, 0, 0, 0] : List Int32)) := rfl
