def lw_W (cI cB cJ cN cW : ClassId) (x y o : Nat) (Q qN qK : Nat → Nat → Nat) (qm : Nat → Nat) (t : Int) (ld : Int) (i1 : Nat → Int) (g1 : Nat → Nat → Int) (n2 : Int) (g2 : Nat → Nat → Int) (n3 : Int) (g3 : Nat → Nat → Int) (n4 : Int) (g4 : Nat → Nat → Int) (n5 : Int) (g5 : Nat → Nat → Int) (n6 : Int) (g6 : Nat → Nat → Int) (n7 : Int) (g7 : Nat → Nat → Int) (i8 : Nat → Int) (g8 : Nat → Nat → Int) (i9 : Nat → Int) (g9 : Nat → Nat → Int) (i10 : Nat → Int) (g10 : Nat → Nat → Int) (i11 : Nat → Int) (g11 : Nat → Nat → Int) (i12 : Nat → Int) (g12 : Nat → Nat → Int) (i13 : Nat → Int) (g13 : Nat → Nat → Int) (g14 : Nat → Nat → Int) (n15 : Int) (nN : Nat → Int) (gN : Nat → Nat → Nat → Int) (iK : Nat → Nat → Int) (gK : Nat → Nat → Nat → Int) (i : Nat → Int) (a0 : Nat → Int) (a1 : Nat → Int) (a2 : Nat → Int) (a3 : Nat → Int) (a4 : Nat → Int) (a5 : Nat → Int) (a6 : Nat → Int) (a7 : Nat → Int) (a8 : Nat → Int) (a9 : Nat → Int) (a10 : Nat → Int) (a11 : Nat → Int) (a12 : Nat → Int) (a13 : Nat → Int) (a14 : Nat → Int) (a15 : Nat → Int) (a16 : Nat → Int) (a17 : Nat → Int) (a18 : Nat → Int) (a19 : Nat → Int) (a20 : Nat → Int) (go : Nat → Int) : va_W := [(x, .inr (8, [.int (zI t), .int (zI ld), .ref ((Q 0) 0), .ref ((Q 0) 1), .ref ((Q 0) 2), .ref ((Q 0) 3), .ref ((Q 0) 4), .ref ((Q 0) 5), .ref ((Q 0) 6), .ref ((Q 0) 7), .ref ((Q 0) 8), .ref ((Q 0) 9), .ref ((Q 0) 10), .ref ((Q 0) 11)])),
  (((Q 0) 0), .inr (3, [.ref ((Q 1) 0), .int (zI (i1 0)), .ref ((Q 1) 3), .ref ((Q 1) 4), .int (zI (i1 1)), .int (zI (i1 2)), .ref ((Q 1) 1), .ref ((Q 1) 2), .int (zI (i1 3)), .int (zI (i1 4)), .int (zI (i1 5)), .int (zI (i1 6)), .long (zL (i1 7)), .int (zI (i1 8))])),
  (((Q 1) 0), .inl (cB, 900, .inl (fun k => zI ((g1 0) k)))),
  (((Q 1) 1), .inl (cJ, 19, .inr (.inl (fun k => zL ((g1 1) k))))),
  (((Q 1) 2), .inl (cJ, 10, .inr (.inl (fun k => zL ((g1 2) k))))),
  (((Q 1) 3), .inr (2, [.int (zI n2), .ref ((Q 2) 0), .ref ((Q 2) 1), .ref ((Q 2) 2), .ref ((Q 2) 3), .ref ((Q 2) 4), .ref ((Q 2) 5), .ref ((Q 2) 6), .ref ((Q 2) 7)])),
  (((Q 2) 0), .inl (cI, 10, .inl (fun k => zI ((g2 0) k)))),
  (((Q 2) 1), .inl (cI, 10, .inl (fun k => zI ((g2 1) k)))),
  (((Q 2) 2), .inl (cI, 10, .inl (fun k => zI ((g2 2) k)))),
  (((Q 2) 3), .inl (cI, 40, .inl (fun k => zI ((g2 3) k)))),
  (((Q 2) 4), .inl (cI, 40, .inl (fun k => zI ((g2 4) k)))),
  (((Q 2) 5), .inl (cI, 40, .inl (fun k => zI ((g2 5) k)))),
  (((Q 2) 6), .inl (cI, 20, .inl (fun k => zI ((g2 6) k)))),
  (((Q 2) 7), .inl (cI, 20, .inl (fun k => zI ((g2 7) k)))),
  (((Q 1) 4), .inr (7, [.int (zI n3), .ref ((Q 3) 0)])),
  (((Q 3) 0), .inl (cI, 30, .inl (fun k => zI ((g3 0) k)))),
  (((Q 0) 1), .inr (2, [.int (zI n4), .ref ((Q 4) 0), .ref ((Q 4) 1), .ref ((Q 4) 2), .ref ((Q 4) 3), .ref ((Q 4) 4), .ref ((Q 4) 5), .ref ((Q 4) 6), .ref ((Q 4) 7)])),
  (((Q 4) 0), .inl (cI, 10, .inl (fun k => zI ((g4 0) k)))),
  (((Q 4) 1), .inl (cI, 10, .inl (fun k => zI ((g4 1) k)))),
  (((Q 4) 2), .inl (cI, 10, .inl (fun k => zI ((g4 2) k)))),
  (((Q 4) 3), .inl (cI, 40, .inl (fun k => zI ((g4 3) k)))),
  (((Q 4) 4), .inl (cI, 40, .inl (fun k => zI ((g4 4) k)))),
  (((Q 4) 5), .inl (cI, 40, .inl (fun k => zI ((g4 5) k)))),
  (((Q 4) 6), .inl (cI, 20, .inl (fun k => zI ((g4 6) k)))),
  (((Q 4) 7), .inl (cI, 20, .inl (fun k => zI ((g4 7) k)))),
  (((Q 0) 2), .inr (2, [.int (zI n5), .ref ((Q 5) 0), .ref ((Q 5) 1), .ref ((Q 5) 2), .ref ((Q 5) 3), .ref ((Q 5) 4), .ref ((Q 5) 5), .ref ((Q 5) 6), .ref ((Q 5) 7)])),
  (((Q 5) 0), .inl (cI, 10, .inl (fun k => zI ((g5 0) k)))),
  (((Q 5) 1), .inl (cI, 10, .inl (fun k => zI ((g5 1) k)))),
  (((Q 5) 2), .inl (cI, 10, .inl (fun k => zI ((g5 2) k)))),
  (((Q 5) 3), .inl (cI, 40, .inl (fun k => zI ((g5 3) k)))),
  (((Q 5) 4), .inl (cI, 40, .inl (fun k => zI ((g5 4) k)))),
  (((Q 5) 5), .inl (cI, 40, .inl (fun k => zI ((g5 5) k)))),
  (((Q 5) 6), .inl (cI, 20, .inl (fun k => zI ((g5 6) k)))),
  (((Q 5) 7), .inl (cI, 20, .inl (fun k => zI ((g5 7) k)))),
  (((Q 0) 3), .inr (2, [.int (zI n6), .ref ((Q 6) 0), .ref ((Q 6) 1), .ref ((Q 6) 2), .ref ((Q 6) 3), .ref ((Q 6) 4), .ref ((Q 6) 5), .ref ((Q 6) 6), .ref ((Q 6) 7)])),
  (((Q 6) 0), .inl (cI, 10, .inl (fun k => zI ((g6 0) k)))),
  (((Q 6) 1), .inl (cI, 10, .inl (fun k => zI ((g6 1) k)))),
  (((Q 6) 2), .inl (cI, 10, .inl (fun k => zI ((g6 2) k)))),
  (((Q 6) 3), .inl (cI, 40, .inl (fun k => zI ((g6 3) k)))),
  (((Q 6) 4), .inl (cI, 40, .inl (fun k => zI ((g6 4) k)))),
  (((Q 6) 5), .inl (cI, 40, .inl (fun k => zI ((g6 5) k)))),
  (((Q 6) 6), .inl (cI, 20, .inl (fun k => zI ((g6 6) k)))),
  (((Q 6) 7), .inl (cI, 20, .inl (fun k => zI ((g6 7) k)))),
  (((Q 0) 4), .inr (7, [.int (zI n7), .ref ((Q 7) 0)])),
  (((Q 7) 0), .inl (cI, 30, .inl (fun k => zI ((g7 0) k)))),
  (((Q 0) 5), .inr (6, [.int (zI (i8 0)), .int (zI (i8 1)), .int (zI (i8 2)), .int (zI (i8 3)), .int (zI (i8 4)), .ref ((Q 8) 0), .ref ((Q 8) 1), .ref ((Q 8) 2), .long (zL (i8 5)), .ref ((Q 8) 3)])),
  (((Q 8) 0), .inl (cI, 4, .inl (fun k => zI ((g8 0) k)))),
  (((Q 8) 1), .inl (cI, 20, .inl (fun k => zI ((g8 1) k)))),
  (((Q 8) 2), .inl (cI, 20, .inl (fun k => zI ((g8 2) k)))),
  (((Q 8) 3), .inl (cI, 100, .inl (fun k => zI ((g8 3) k)))),
  (((Q 0) 6), .inr (6, [.int (zI (i9 0)), .int (zI (i9 1)), .int (zI (i9 2)), .int (zI (i9 3)), .int (zI (i9 4)), .ref ((Q 9) 0), .ref ((Q 9) 1), .ref ((Q 9) 2), .long (zL (i9 5)), .ref ((Q 9) 3)])),
  (((Q 9) 0), .inl (cI, 4, .inl (fun k => zI ((g9 0) k)))),
  (((Q 9) 1), .inl (cI, 20, .inl (fun k => zI ((g9 1) k)))),
  (((Q 9) 2), .inl (cI, 20, .inl (fun k => zI ((g9 2) k)))),
  (((Q 9) 3), .inl (cI, 100, .inl (fun k => zI ((g9 3) k)))),
  (((Q 0) 7), .inr (6, [.int (zI (i10 0)), .int (zI (i10 1)), .int (zI (i10 2)), .int (zI (i10 3)), .int (zI (i10 4)), .ref ((Q 10) 0), .ref ((Q 10) 1), .ref ((Q 10) 2), .long (zL (i10 5)), .ref ((Q 10) 3)])),
  (((Q 10) 0), .inl (cI, 4, .inl (fun k => zI ((g10 0) k)))),
  (((Q 10) 1), .inl (cI, 20, .inl (fun k => zI ((g10 1) k)))),
  (((Q 10) 2), .inl (cI, 20, .inl (fun k => zI ((g10 2) k)))),
  (((Q 10) 3), .inl (cI, 100, .inl (fun k => zI ((g10 3) k)))),
  (((Q 0) 8), .inr (4, [.int (zI (i11 0)), .int (zI (i11 1)), .int (zI (i11 2)), .int (zI (i11 3)), .int (zI (i11 4)), .int (zI (i11 5)), .int (zI (i11 6)), .int (zI (i11 7)), .ref ((Q 11) 0), .ref ((Q 11) 1), .ref ((Q 11) 2), .ref ((Q 11) 3), .ref ((Q 11) 4)])),
  (((Q 11) 0), .inl (cI, 4, .inl (fun k => zI ((g11 0) k)))),
  (((Q 11) 1), .inl (cI, 10, .inl (fun k => zI ((g11 1) k)))),
  (((Q 11) 2), .inl (cI, 20, .inl (fun k => zI ((g11 2) k)))),
  (((Q 11) 3), .inl (cI, 256, .inl (fun k => zI ((g11 3) k)))),
  (((Q 11) 4), .inr (6, [.int (zI (i12 0)), .int (zI (i12 1)), .int (zI (i12 2)), .int (zI (i12 3)), .int (zI (i12 4)), .ref ((Q 12) 0), .ref ((Q 12) 1), .ref ((Q 12) 2), .long (zL (i12 5)), .ref ((Q 12) 3)])),
  (((Q 12) 0), .inl (cI, 4, .inl (fun k => zI ((g12 0) k)))),
  (((Q 12) 1), .inl (cI, 20, .inl (fun k => zI ((g12 1) k)))),
  (((Q 12) 2), .inl (cI, 20, .inl (fun k => zI ((g12 2) k)))),
  (((Q 12) 3), .inl (cI, 100, .inl (fun k => zI ((g12 3) k)))),
  (((Q 0) 9), .inr (5, [.int (zI (i13 0)), .int (zI (i13 1)), .ref ((Q 13) 0), .ref ((Q 13) 1)])),
  (((Q 13) 0), .inl (cI, 180, .inl (fun k => zI ((g13 0) k)))),
  (((Q 13) 1), .inl (cI, 20, .inl (fun k => zI ((g13 1) k)))),
  (((Q 0) 10), .inr (0, [.ref ((Q 14) 0), .ref ((Q 14) 1), .ref ((Q 14) 2), .ref ((Q 14) 3), .ref ((Q 14) 4), .ref ((Q 14) 5), .ref ((Q 14) 6)])),
  (((Q 14) 0), .inl (cI, 10, .inl (fun k => zI ((g14 0) k)))),
  (((Q 14) 1), .inl (cI, 30, .inl (fun k => zI ((g14 1) k)))),
  (((Q 14) 2), .inl (cI, 3, .inl (fun k => zI ((g14 2) k)))),
  (((Q 14) 3), .inl (cI, 3, .inl (fun k => zI ((g14 3) k)))),
  (((Q 14) 4), .inl (cI, 3, .inl (fun k => zI ((g14 4) k)))),
  (((Q 14) 5), .inl (cI, 3, .inl (fun k => zI ((g14 5) k)))),
  (((Q 14) 6), .inl (cI, 6, .inl (fun k => zI ((g14 6) k)))),
  (((Q 0) 11), .inr (1, [.int (zI n15), .ref ((Q 15) 0), .ref ((Q 15) 1)])),
  (((Q 15) 0), .inl (cN, 4, .inr (.inr (.inr (.inr (fun k => some ((Q 15) (2 + k)))))))),
  (((Q 15) 1), .inl (cW, 4, .inr (.inr (.inr (.inr (fun k => some ((Q 15) (6 + k)))))))),
  (((Q 15) 2), .inr (2, [.int (zI (nN 0)), .ref ((qN 0) 0), .ref ((qN 0) 1), .ref ((qN 0) 2), .ref ((qN 0) 3), .ref ((qN 0) 4), .ref ((qN 0) 5), .ref ((qN 0) 6), .ref ((qN 0) 7)])),
  (((qN 0) 0), .inl (cI, 10, .inl (fun k => zI (((gN 0) 0) k)))),
  (((qN 0) 1), .inl (cI, 10, .inl (fun k => zI (((gN 0) 1) k)))),
  (((qN 0) 2), .inl (cI, 10, .inl (fun k => zI (((gN 0) 2) k)))),
  (((qN 0) 3), .inl (cI, 40, .inl (fun k => zI (((gN 0) 3) k)))),
  (((qN 0) 4), .inl (cI, 40, .inl (fun k => zI (((gN 0) 4) k)))),
  (((qN 0) 5), .inl (cI, 40, .inl (fun k => zI (((gN 0) 5) k)))),
  (((qN 0) 6), .inl (cI, 20, .inl (fun k => zI (((gN 0) 6) k)))),
  (((qN 0) 7), .inl (cI, 20, .inl (fun k => zI (((gN 0) 7) k)))),
  (((Q 15) 3), .inr (2, [.int (zI (nN 1)), .ref ((qN 1) 0), .ref ((qN 1) 1), .ref ((qN 1) 2), .ref ((qN 1) 3), .ref ((qN 1) 4), .ref ((qN 1) 5), .ref ((qN 1) 6), .ref ((qN 1) 7)])),
  (((qN 1) 0), .inl (cI, 10, .inl (fun k => zI (((gN 1) 0) k)))),
  (((qN 1) 1), .inl (cI, 10, .inl (fun k => zI (((gN 1) 1) k)))),
  (((qN 1) 2), .inl (cI, 10, .inl (fun k => zI (((gN 1) 2) k)))),
  (((qN 1) 3), .inl (cI, 40, .inl (fun k => zI (((gN 1) 3) k)))),
  (((qN 1) 4), .inl (cI, 40, .inl (fun k => zI (((gN 1) 4) k)))),
  (((qN 1) 5), .inl (cI, 40, .inl (fun k => zI (((gN 1) 5) k)))),
  (((qN 1) 6), .inl (cI, 20, .inl (fun k => zI (((gN 1) 6) k)))),
  (((qN 1) 7), .inl (cI, 20, .inl (fun k => zI (((gN 1) 7) k)))),
  (((Q 15) 4), .inr (2, [.int (zI (nN 2)), .ref ((qN 2) 0), .ref ((qN 2) 1), .ref ((qN 2) 2), .ref ((qN 2) 3), .ref ((qN 2) 4), .ref ((qN 2) 5), .ref ((qN 2) 6), .ref ((qN 2) 7)])),
  (((qN 2) 0), .inl (cI, 10, .inl (fun k => zI (((gN 2) 0) k)))),
  (((qN 2) 1), .inl (cI, 10, .inl (fun k => zI (((gN 2) 1) k)))),
  (((qN 2) 2), .inl (cI, 10, .inl (fun k => zI (((gN 2) 2) k)))),
  (((qN 2) 3), .inl (cI, 40, .inl (fun k => zI (((gN 2) 3) k)))),
  (((qN 2) 4), .inl (cI, 40, .inl (fun k => zI (((gN 2) 4) k)))),
  (((qN 2) 5), .inl (cI, 40, .inl (fun k => zI (((gN 2) 5) k)))),
  (((qN 2) 6), .inl (cI, 20, .inl (fun k => zI (((gN 2) 6) k)))),
  (((qN 2) 7), .inl (cI, 20, .inl (fun k => zI (((gN 2) 7) k)))),
  (((Q 15) 5), .inr (2, [.int (zI (nN 3)), .ref ((qN 3) 0), .ref ((qN 3) 1), .ref ((qN 3) 2), .ref ((qN 3) 3), .ref ((qN 3) 4), .ref ((qN 3) 5), .ref ((qN 3) 6), .ref ((qN 3) 7)])),
  (((qN 3) 0), .inl (cI, 10, .inl (fun k => zI (((gN 3) 0) k)))),
  (((qN 3) 1), .inl (cI, 10, .inl (fun k => zI (((gN 3) 1) k)))),
  (((qN 3) 2), .inl (cI, 10, .inl (fun k => zI (((gN 3) 2) k)))),
  (((qN 3) 3), .inl (cI, 40, .inl (fun k => zI (((gN 3) 3) k)))),
  (((qN 3) 4), .inl (cI, 40, .inl (fun k => zI (((gN 3) 4) k)))),
  (((qN 3) 5), .inl (cI, 40, .inl (fun k => zI (((gN 3) 5) k)))),
  (((qN 3) 6), .inl (cI, 20, .inl (fun k => zI (((gN 3) 6) k)))),
  (((qN 3) 7), .inl (cI, 20, .inl (fun k => zI (((gN 3) 7) k)))),
  (((Q 15) 6), .inr (6, [.int (zI ((iK 0) 0)), .int (zI ((iK 0) 1)), .int (zI ((iK 0) 2)), .int (zI ((iK 0) 3)), .int (zI ((iK 0) 4)), .ref ((qK 0) 0), .ref ((qK 0) 1), .ref ((qK 0) 2), .long (zL ((iK 0) 5)), .ref ((qK 0) 3)])),
  (((qK 0) 0), .inl (cI, 4, .inl (fun k => zI (((gK 0) 0) k)))),
  (((qK 0) 1), .inl (cI, 20, .inl (fun k => zI (((gK 0) 1) k)))),
  (((qK 0) 2), .inl (cI, 20, .inl (fun k => zI (((gK 0) 2) k)))),
  (((qK 0) 3), .inl (cI, 100, .inl (fun k => zI (((gK 0) 3) k)))),
  (((Q 15) 7), .inr (6, [.int (zI ((iK 1) 0)), .int (zI ((iK 1) 1)), .int (zI ((iK 1) 2)), .int (zI ((iK 1) 3)), .int (zI ((iK 1) 4)), .ref ((qK 1) 0), .ref ((qK 1) 1), .ref ((qK 1) 2), .long (zL ((iK 1) 5)), .ref ((qK 1) 3)])),
  (((qK 1) 0), .inl (cI, 4, .inl (fun k => zI (((gK 1) 0) k)))),
  (((qK 1) 1), .inl (cI, 20, .inl (fun k => zI (((gK 1) 1) k)))),
  (((qK 1) 2), .inl (cI, 20, .inl (fun k => zI (((gK 1) 2) k)))),
  (((qK 1) 3), .inl (cI, 100, .inl (fun k => zI (((gK 1) 3) k)))),
  (((Q 15) 8), .inr (6, [.int (zI ((iK 2) 0)), .int (zI ((iK 2) 1)), .int (zI ((iK 2) 2)), .int (zI ((iK 2) 3)), .int (zI ((iK 2) 4)), .ref ((qK 2) 0), .ref ((qK 2) 1), .ref ((qK 2) 2), .long (zL ((iK 2) 5)), .ref ((qK 2) 3)])),
  (((qK 2) 0), .inl (cI, 4, .inl (fun k => zI (((gK 2) 0) k)))),
  (((qK 2) 1), .inl (cI, 20, .inl (fun k => zI (((gK 2) 1) k)))),
  (((qK 2) 2), .inl (cI, 20, .inl (fun k => zI (((gK 2) 2) k)))),
  (((qK 2) 3), .inl (cI, 100, .inl (fun k => zI (((gK 2) 3) k)))),
  (((Q 15) 9), .inr (6, [.int (zI ((iK 3) 0)), .int (zI ((iK 3) 1)), .int (zI ((iK 3) 2)), .int (zI ((iK 3) 3)), .int (zI ((iK 3) 4)), .ref ((qK 3) 0), .ref ((qK 3) 1), .ref ((qK 3) 2), .long (zL ((iK 3) 5)), .ref ((qK 3) 3)])),
  (((qK 3) 0), .inl (cI, 4, .inl (fun k => zI (((gK 3) 0) k)))),
  (((qK 3) 1), .inl (cI, 20, .inl (fun k => zI (((gK 3) 1) k)))),
  (((qK 3) 2), .inl (cI, 20, .inl (fun k => zI (((gK 3) 2) k)))),
  (((qK 3) 3), .inl (cI, 100, .inl (fun k => zI (((gK 3) 3) k)))),
  (y, .inr (9, [.int (zI (i 0)), .ref (qm 0), .int (zI (i 1)), .int (zI (i 2)), .int (zI (i 3)), .int (zI (i 4)), .int (zI (i 5)), .int (zI (i 6)), .int (zI (i 7)), .int (zI (i 8)), .int (zI (i 9)), .int (zI (i 10)), .ref (qm 1), .int (zI (i 11)), .int (zI (i 12)), .ref (qm 2), .ref (qm 3), .ref (qm 4), .ref (qm 5), .ref (qm 6), .ref (qm 7), .ref (qm 8), .ref (qm 9), .ref (qm 10), .ref (qm 11), .ref (qm 12), .ref (qm 13), .ref (qm 14), .ref (qm 15), .ref (qm 16), .int (zI (i 13)), .int (zI (i 14)), .int (zI (i 15)), .int (zI (i 16)), .int (zI (i 17)), .int (zI (i 18)), .ref (qm 17), .ref (qm 18), .ref (qm 19), .ref (qm 20)])),
  ((qm 0), .inl (cI, 900, .inl (fun k => zI (a0 k)))),
  ((qm 1), .inl (cI, 8, .inl (fun k => zI (a1 k)))),
  ((qm 2), .inl (cI, 200, .inl (fun k => zI (a2 k)))),
  ((qm 3), .inl (cI, 200, .inl (fun k => zI (a3 k)))),
  ((qm 4), .inl (cI, 200, .inl (fun k => zI (a4 k)))),
  ((qm 5), .inl (cI, 200, .inl (fun k => zI (a5 k)))),
  ((qm 6), .inl (cI, 800, .inl (fun k => zI (a6 k)))),
  ((qm 7), .inl (cI, 80, .inl (fun k => zI (a7 k)))),
  ((qm 8), .inl (cI, 10, .inl (fun k => zI (a8 k)))),
  ((qm 9), .inl (cI, 80, .inl (fun k => zI (a9 k)))),
  ((qm 10), .inl (cI, 10, .inl (fun k => zI (a10 k)))),
  ((qm 11), .inl (cI, 30, .inl (fun k => zI (a11 k)))),
  ((qm 12), .inl (cI, 30, .inl (fun k => zI (a12 k)))),
  ((qm 13), .inl (cI, 159, .inl (fun k => zI (a13 k)))),
  ((qm 14), .inl (cI, 159, .inl (fun k => zI (a14 k)))),
  ((qm 15), .inl (cI, 159, .inl (fun k => zI (a15 k)))),
  ((qm 16), .inl (cI, 636, .inl (fun k => zI (a16 k)))),
  ((qm 17), .inl (cI, 20, .inl (fun k => zI (a17 k)))),
  ((qm 18), .inl (cI, 180, .inl (fun k => zI (a18 k)))),
  ((qm 19), .inl (cI, 200, .inl (fun k => zI (a19 k)))),
  ((qm 20), .inl (cI, 3, .inl (fun k => zI (a20 k)))), (o, .inl (cJ, 1, .inr (.inl (fun k => zL (go k)))))]
def lw_F (K : Int) (t : Int) (ld : Int) (i1 : Nat → Int) (g1 : Nat → Nat → Int) (n2 : Int) (g2 : Nat → Nat → Int) (n3 : Int) (g3 : Nat → Nat → Int) (n4 : Int) (g4 : Nat → Nat → Int) (n5 : Int) (g5 : Nat → Nat → Int) (n6 : Int) (g6 : Nat → Nat → Int) (n7 : Int) (g7 : Nat → Nat → Int) (i8 : Nat → Int) (g8 : Nat → Nat → Int) (i9 : Nat → Int) (g9 : Nat → Nat → Int) (i10 : Nat → Int) (g10 : Nat → Nat → Int) (i11 : Nat → Int) (g11 : Nat → Nat → Int) (i12 : Nat → Int) (g12 : Nat → Nat → Int) (i13 : Nat → Int) (g13 : Nat → Nat → Int) (g14 : Nat → Nat → Int) (n15 : Int) (nN : Nat → Int) (gN : Nat → Nat → Nat → Int) (iK : Nat → Nat → Int) (gK : Nat → Nat → Nat → Int) : Prop := (0 ≤ t ∧ t ≤ 6) ∧ (ld = 0 ∨ ld = 1) ∧ (ReaderOk i1) ∧ (NetW n2 g2) ∧ (WantsOk n3) ∧ (NetOk n4 g4) ∧ (NetOk n5 g5) ∧ (NetOk n6 g6) ∧ (WantsOk n7) ∧ (WalkOk i8 g8) ∧ (WalkOk i9 g9) ∧ (WalkOk i10 g10) ∧ (SurveyOk i11) ∧ (WalkOk i12 g12) ∧ (TrailOk i13) ∧ (LeastOk g14) ∧ (0 ≤ n15 ∧ n15 ≤ 4) ∧ (∀ j, j < 4 → NetOk (nN j) (gN j)) ∧ (∀ j, j < 4 → WalkOk (iK j) (gK j)) ∧ (i8 1 ≤ K) ∧ (∀ j, j < 4 → iK j 1 ≤ K)
def lw_M (i : Nat → Int) (a0 : Nat → Int) (a1 : Nat → Int) (a2 : Nat → Int) (a3 : Nat → Int) (a4 : Nat → Int) (a5 : Nat → Int) (a6 : Nat → Int) (a7 : Nat → Int) (a8 : Nat → Int) (a9 : Nat → Int) (a10 : Nat → Int) (a11 : Nat → Int) (a12 : Nat → Int) (a13 : Nat → Int) (a14 : Nat → Int) (a15 : Nat → Int) (a16 : Nat → Int) (a17 : Nat → Int) (a18 : Nat → Int) (a19 : Nat → Int) (a20 : Nat → Int) : Prop := (ModOk i) ∧ (∀ k, k < 900 → (-2147483648) ≤ a0 k ∧ a0 k ≤ 2147483647) ∧ (∀ k, k < 8 → (-2147483648) ≤ a1 k ∧ a1 k ≤ 2147483647) ∧ (∀ k, k < 30 → 0 ≤ a11 k ∧ a11 k ≤ 99) ∧ (∀ k, k < 30 → 0 ≤ a12 k ∧ a12 k ≤ 99) ∧ (∀ k, k < 20 → 0 ≤ a17 k ∧ a17 k ≤ 9) ∧ (∀ k, k < 180 → 0 ≤ a18 k ∧ a18 k ≤ 19) ∧ (ProgOk a3) ∧ (ProgOk a4) ∧ (StOk a3 a13) ∧ (KeptOk a6 a16)
def lw_X (t ld : Int) (i1 : Nat → Int) (g1 : Nat → Nat → Int) (n15 : Int) (i : Nat → Int) (a0 : Nat → Int) : Prop := (TxR a0 (g1 0) ∧ ∀ j, j < 19 → g1 1 j = rsv j) ∧ (i1 1 = i 8 ∧ ld = i 12 ∧ n15 = i 17) ∧ (t = 4 ↔ i 10 = 4) ∧ (t = 4 → i1 2 = i 9)
theorem lw_tx0 {g : Nat → Int} (h : ∀ k : Nat, g k = 0) : TxR (fun _ => 0) g := fun k _ => ⟨(show (0 : Int) ≤ 0 ∧ (0 : Int) ≤ 255 by omega), Or.inl ⟨(show (0 : Int) < 128 by omega), h k⟩⟩
theorem lw_txfeed {f f' : Nat → Int} {g g' : Nat → Nat → Int} {r r' m m' z z' x0 x1 x2 x3 x4 : Int} (h : TxR f (g 0)) (e : r = m) (h1 : (r ≤ 880 ∧ z = r + 20 ∧ r' = r + 20 ∧ g' 0 = put5 (g 0) r x0 x1 x2 x3 x4) ∨ (880 < r ∧ z = -1 ∧ r' = r ∧ g' 0 = g 0)) (h2 : (m ≤ 880 ∧ z' = m + 20 ∧ m' = m + 20 ∧ f' = fed f m x0 x1 x2 x3 x4 20) ∨ (880 < m ∧ z' = -1 ∧ m' = m ∧ f' = f)) : TxR f' (g' 0) := by
  subst e
  rcases h1 with ⟨a1, a2, a3, a4⟩ | ⟨a1, a2, a3, a4⟩ <;> rcases h2 with ⟨b1, b2, b3, b4⟩ | ⟨b1, b2, b3, b4⟩
  · rw [a4, b4]; exact TxR_fed h
  · omega
  · omega
  · rw [a4, b4]; exact h
theorem zer_in {P : Nat → Int} {k : Nat} (hk : k < 200) : zer P 200 k = 0 := by
  unfold zer
  rw [if_pos (by omega)]
theorem RT.both {p p' s s' : Nat → Int} (h : RT p s) (hs : StOk p s) (f1 : E2 p p') (f2 : E9 s s') : RT p' s' := fun q => by
  have h4 := hs.1.2.1
  rw [f2 4 (by omega), f1 _ (by omega)]
  exact h ((f2 6 (by omega)).symm.trans q)
/-- a net and a run of it, the class's and the reference's -/
def lw_K (g : Nat → Nat → Int) (nn : Int) (i : Nat → Int) (w : Nat → Nat → Int) (p s : Nat → Int) (n : Int) (L : Prop) : Prop := (NRel g p ∧ nn = n ∧ LN p n) ∧ WR (s 5) s i w ∧ (L → RT p s)
theorem lw_K.mv {g w : Nat → Nat → Int} {nn n : Int} {i p p' s s' : Nat → Int} {L : Prop} (h : lw_K g nn i w p s n L) (hs : StOk p s) (h4 : NetOk nn g) (f1 : E2 p p') (f2 : E9 s s') : lw_K g nn i w p' s' n L := by
  obtain ⟨⟨h1, h2, h3⟩, h5, h6⟩ := h
  refine ⟨⟨h1.copy (fun k hk => (h4.2.2.2.1 k hk).2) (fun _ _ _ => rfl) f1, h2, h3.e2 f1⟩, ?_, fun l => (h6 l).both hs f1 f2⟩
  rw [f2 5 (by omega)]
  exact h5.e9 f2
def lw_N (n4 : Int) (g4 : Nat → Nat → Int) (n5 : Int) (g5 : Nat → Nat → Int) (n7 : Int) (g7 : Nat → Nat → Int) (i8 : Nat → Int) (g8 : Nat → Nat → Int) (i11 : Nat → Int) (g11 : Nat → Nat → Int) (n15 : Int) (nN : Nat → Int) (gN : Nat → Nat → Nat → Int) (iK : Nat → Nat → Int) (gK : Nat → Nat → Nat → Int) (i : Nat → Int) (a3 : Nat → Int) (a4 : Nat → Int) (a6 : Nat → Int) (a11 : Nat → Int) (a13 : Nat → Int) (a16 : Nat → Int) : Prop :=
  lw_K g5 n5 i8 g8 a3 a13 (i 13) (i 12 = 1) ∧ (NRel g4 a4 ∧ n4 = i 13 ∧ LN a4 (i 13)) ∧ SV a3 i11 g11 ∧ ((n7 = i 15 ∧ ∀ k : Nat, k < 5 * n7.toNat → g7 0 k = a11 k) ∧ (i 12 = 1 ∨ (i 13 = 0 ∧ i 15 = 0)))
  ∧ ∀ j : Nat, (j : Int) < n15 → lw_K (gN j) (nN j) (iK j) (gK j) (fun k => a6 (200 * j + k)) (fun k => a16 (159 * j + k)) (i 13) True
theorem lw_N.ii {n4 : Int} {g4 : Nat → Nat → Int} {n5 : Int} {g5 : Nat → Nat → Int} {n7 : Int} {g7 : Nat → Nat → Int} {i8 : Nat → Int} {g8 : Nat → Nat → Int} {i11 : Nat → Int} {g11 : Nat → Nat → Int} {n15 : Int} {nN : Nat → Int} {gN : Nat → Nat → Nat → Int} {iK : Nat → Nat → Int} {gK : Nat → Nat → Nat → Int} {i : Nat → Int} {a3 : Nat → Int} {a4 : Nat → Int} {a6 : Nat → Int} {a11 : Nat → Int} {a13 : Nat → Int} {a16 : Nat → Int} {i' : Nat → Int} (h : lw_N n4 g4 n5 g5 n7 g7 i8 g8 i11 g11 n15 nN gN iK gK i a3 a4 a6 a11 a13 a16) (hi : i' 12 = i 12 ∧ i' 13 = i 13 ∧ i' 15 = i 15) : lw_N n4 g4 n5 g5 n7 g7 i8 g8 i11 g11 n15 nN gN iK gK i' a3 a4 a6 a11 a13 a16 := by
  obtain ⟨h1, h2, h3, h4, h5⟩ := h
  unfold lw_N
  rw [hi.1, hi.2.1, hi.2.2]
  exact ⟨h1, h2, h3, h4, h5⟩
theorem lw_N.ss {n4 : Int} {g4 : Nat → Nat → Int} {n5 : Int} {g5 : Nat → Nat → Int} {n7 : Int} {g7 : Nat → Nat → Int} {i8 : Nat → Int} {g8 : Nat → Nat → Int} {i11 : Nat → Int} {g11 : Nat → Nat → Int} {n15 : Int} {nN : Nat → Int} {gN : Nat → Nat → Nat → Int} {iK : Nat → Nat → Int} {gK : Nat → Nat → Nat → Int} {i : Nat → Int} {a3 : Nat → Int} {a4 : Nat → Int} {a6 : Nat → Int} {a11 : Nat → Int} {a13 : Nat → Int} {a16 : Nat → Int} {i11' : Nat → Int} {g11' : Nat → Nat → Int} (h : lw_N n4 g4 n5 g5 n7 g7 i8 g8 i11 g11 n15 nN gN iK gK i a3 a4 a6 a11 a13 a16) (hs : SV a3 i11' g11') : lw_N n4 g4 n5 g5 n7 g7 i8 g8 i11' g11' n15 nN gN iK gK i a3 a4 a6 a11 a13 a16 := by
  obtain ⟨h1, h2, h3, h4⟩ := h
  exact ⟨h1, h2, hs, h4⟩
theorem lw_N.ww {n4 : Int} {g4 : Nat → Nat → Int} {n5 : Int} {g5 : Nat → Nat → Int} {n7 : Int} {g7 : Nat → Nat → Int} {i8 : Nat → Int} {g8 : Nat → Nat → Int} {i11 : Nat → Int} {g11 : Nat → Nat → Int} {n15 : Int} {nN : Nat → Int} {gN : Nat → Nat → Nat → Int} {iK : Nat → Nat → Int} {gK : Nat → Nat → Nat → Int} {i : Nat → Int} {a3 : Nat → Int} {a4 : Nat → Int} {a6 : Nat → Int} {a11 : Nat → Int} {a13 : Nat → Int} {a16 : Nat → Int} {i8' a13' : Nat → Int} {g8' : Nat → Nat → Int} (h : lw_N n4 g4 n5 g5 n7 g7 i8 g8 i11 g11 n15 nN gN iK gK i a3 a4 a6 a11 a13 a16) (hw : WR (a13' 5) a13' i8' g8' ∧ (i 12 = 1 → RT a3 a13')) : lw_N n4 g4 n5 g5 n7 g7 i8' g8' i11 g11 n15 nN gN iK gK i a3 a4 a6 a11 a13' a16 := by
  obtain ⟨⟨h0, -⟩, h1⟩ := h
  exact ⟨⟨h0, hw⟩, h1⟩
theorem lw_begun {p s s' i i' : Nat → Int} {g g' : Nat → Nat → Int} {z z' a b c d : Int} {L : Prop} (h : WR (s 5) s i g ∧ (L → RT p s)) (hz : z = z') (h1 : (z = 1 ∧ WR 0 (begF p a b c d) i' g') ∨ (z = 0 ∧ i' = i ∧ g' = g)) (h2 : (z' = 1 ∧ E9 (begF p a b c d) s') ∨ (z' = 0 ∧ s' = s)) : WR (s' 5) s' i' g' ∧ (L → RT p s') := by
  rcases h1 with ⟨a1, a2⟩ | ⟨a1, a2, a3⟩ <;> rcases h2 with ⟨b1, b2⟩ | ⟨b1, b2⟩
  · refine ⟨?_, fun _ => b2.rt RT_begF⟩
    rw [b2 5 (by omega), begF_z (by omega) (by omega)]
    exact a2.e9 b2
  · omega
  · omega
  · rw [a2, a3, b2]
    exact h
theorem lw_went {p s s' S i i' : Nat → Int} {g g' : Nat → Nat → Int} {z z' D : Int} {C C' L : Prop} (hc : C ↔ C') (h : WR (s 5) s i g ∧ (L → RT p s)) (hS : L → RT p S) (h1 : (C ∧ z = D ∧ WR (S 5) S i' g') ∨ (¬ C ∧ z = -1 ∧ i' = i ∧ g' = g)) (h2 : (C' ∧ z' = D ∧ s' = S) ∨ (¬ C' ∧ z' = -1 ∧ s' = s)) : z = z' ∧ WR (s' 5) s' i' g' ∧ (L → RT p s') := by
  rcases h1 with ⟨a0, a1, a2⟩ | ⟨a0, a1, a2, a3⟩ <;> rcases h2 with ⟨b0, b1, b2⟩ | ⟨b0, b1, b2⟩
  · rw [b2]
    exact ⟨a1.trans b1.symm, a2, hS⟩
  · exact absurd (hc.mp a0) b0
  · exact absurd (hc.mpr b0) a0
  · rw [a2, a3, b2]
    exact ⟨a1.trans b1.symm, h⟩
theorem lw_N.fold {n4 : Int} {g4 : Nat → Nat → Int} {n5 : Int} {g5 : Nat → Nat → Int} {n7 : Int} {g7 : Nat → Nat → Int} {i8 : Nat → Int} {g8 : Nat → Nat → Int} {i11 : Nat → Int} {g11 : Nat → Nat → Int} {n15 : Int} {nN : Nat → Int} {gN : Nat → Nat → Nat → Int} {iK : Nat → Nat → Int} {gK : Nat → Nat → Nat → Int} {i : Nat → Int} {a3 : Nat → Int} {a4 : Nat → Int} {a6 : Nat → Int} {a11 : Nat → Int} {a13 : Nat → Int} {a16 : Nat → Int} {ld x z z' n5' : Int} {i' i8' i11' a3' a13' : Nat → Int} {g5' g8' g11' : Nat → Nat → Int} (h : lw_N n4 g4 n5 g5 n7 g7 i8 g8 i11 g11 n15 nN gN iK gK i a3 a4 a6 a11 a13 a16) (hpn : ProgOk a3) (hk5 : NetOk n5' g5') (hi : i' 12 = i 12 ∧ i' 13 = i 13 ∧ i' 15 = i 15) (hl : ld = i 12) (hn10 : n5 ≤ 10)
  (h1 : ((ld = 1 ∧ 0 ≤ x ∧ x ≤ 3) ∧ 0 ≤ z ∧ ∃ Q : Nat → Int, Chain x n5 z.toNat a3 Q ∧ NoB Q x n5 n5 n5 ∧ NRel g5' Q ∧ WR 0 (begF Q 0 0 0 0) i8' g8' ∧ i11' 0 = -1 ∧ n5' = n5) ∨ (¬ (ld = 1 ∧ 0 ≤ x ∧ x ≤ 3) ∧ z = -1 ∧ g5' = g5 ∧ n5' = n5 ∧ i11' = i11 ∧ g11' = g11 ∧ i8' = i8 ∧ g8' = g8))
  (h2 : ((i 12 = 1 ∧ 0 ≤ x ∧ x ≤ 3) ∧ 0 ≤ z' ∧ ∃ Q : Nat → Int, Chain x (i 13) z'.toNat a3 Q ∧ NoB Q x (i 13) (i 13) (i 13) ∧ E2 Q a3' ∧ E9 (begF Q 0 0 0 0) a13') ∨ (¬ (i 12 = 1 ∧ 0 ≤ x ∧ x ≤ 3) ∧ z' = -1 ∧ a3' = a3 ∧ a13' = a13)) : z = z' ∧ lw_N n4 g4 n5' g5' n7 g7 i8' g8' i11' g11' n15 nN gN iK gK i' a3' a4 a6 a11 a13' a16 := by
  obtain ⟨⟨⟨e1, e3, e5⟩, e7, e8⟩, e2, e9, e10, e11⟩ := h
  unfold lw_N
  rw [hi.1, hi.2.1, hi.2.2]
  subst hl
  rw [e3] at h1
  rcases h1 with ⟨a0, a1, Q, a2, a3, a4, a5, a6, a7⟩ | ⟨a0, a1, a2, a3, a4, a5, a6, a7⟩ <;> rcases h2 with ⟨b0, b1, R, b2, b3, b4, b5⟩ | ⟨b0, b1, b2, b3⟩
  · obtain ⟨q1, q2⟩ := a2.same a3 b2 b3
    subst q2
    obtain ⟨q3, q4⟩ := Chain.prog (by omega) _ hpn e5 a2
    have k0 : lw_K g5' n5' i8' g8' Q (begF Q 0 0 0 0) (i 13) (i 12 = 1) := ⟨⟨a4, a7, q4⟩, by rw [begF_z (by omega) (by omega)]; exact a5, fun _ => RT_begF⟩
    exact ⟨by omega, k0.mv (StOk_begF q3 (by omega) (by omega) (by omega) (by omega)) hk5 b4 b5, e2, Or.inl a6, e10, e11⟩
  · exact absurd a0 b0
  · exact absurd b0 a0
  · rw [a2, a3, a4, a5, a6, a7, b2, b3]
    exact ⟨by omega, ⟨⟨e1, rfl, e5⟩, e7, e8⟩, e2, e9, e10, e11⟩
theorem lw_N.mark {n4 : Int} {g4 : Nat → Nat → Int} {n5 : Int} {g5 : Nat → Nat → Int} {n7 : Int} {g7 : Nat → Nat → Int} {i8 : Nat → Int} {g8 : Nat → Nat → Int} {i11 : Nat → Int} {g11 : Nat → Nat → Int} {n15 : Int} {nN : Nat → Int} {gN : Nat → Nat → Nat → Int} {iK : Nat → Nat → Int} {gK : Nat → Nat → Nat → Int} {i : Nat → Int} {a3 : Nat → Int} {a4 : Nat → Int} {a6 : Nat → Int} {a11 : Nat → Int} {a13 : Nat → Int} {a16 : Nat → Int} {ld z z' n15' : Int} {i' a6' a16' nN' : Nat → Int} {iK' : Nat → Nat → Int} {gN' gK' : Nat → Nat → Nat → Int} (h : lw_N n4 g4 n5 g5 n7 g7 i8 g8 i11 g11 n15 nN gN iK gK i a3 a4 a6 a11 a13 a16) (hi : i' 12 = i 12 ∧ i' 13 = i 13 ∧ i' 15 = i 15) (hz : z = z') (hl : ld = i 12) (hn : n15 = i 17 ∧ 0 ≤ n15 ∧ n15 ≤ 4) (hn' : (z = -1 ∧ n15' = n15) ∨ (z = n15 ∧ n15' = n15 + 1)) (hs : StOk a3 a13) (hkp : KeptOk a6 a16) (hN : ∀ j, j < 4 → NetOk (nN j) (gN j)) (hN' : ∀ j, j < 4 → NetOk (nN' j) (gN' j))
  (h1 : (z = n15 ∧ ld = 1 ∧ n15 < 4 ∧ ∀ j : Nat, j < 4 → (((j : Int) = n15 → (∀ q : Nat → Int, NRel g5 q → NRel (gN' j) q) ∧ nN' j = n5 ∧ ∀ (n : Int) (s : Nat → Int), WR n s i8 g8 → WR n s (iK' j) (gK' j)) ∧ ((j : Int) ≠ n15 → gN' j = gN j ∧ nN' j = nN j ∧ iK' j = iK j ∧ gK' j = gK j))) ∨ (z = -1 ∧ ∀ j : Nat, j < 4 → (gN' j = gN j ∧ nN' j = nN j ∧ iK' j = iK j ∧ gK' j = gK j)))
  (h2 : (z' = -1 ∧ a6' = a6 ∧ a16' = a16) ∨ (z' = i 17 ∧ (0 ≤ i 17 ∧ i 17 < 4) ∧ (∀ k : Nat, a6' k = if 200 * i 17 ≤ (k : Int) ∧ (k : Int) < 200 * i 17 + 200 then a3 ((k : Int) - 200 * i 17).toNat else a6 k) ∧ ∀ k : Nat, a16' k = if 159 * i 17 ≤ (k : Int) ∧ (k : Int) < 159 * i 17 + 159 then a13 ((k : Int) - 159 * i 17).toNat else a16 k)) : lw_N n4 g4 n5 g5 n7 g7 i8 g8 i11 g11 n15' nN' gN' iK' gK' i' a3 a4 a6' a11 a13 a16' := by
  obtain ⟨e0, e2, e9, e10, e11⟩ := h
  unfold lw_N
  rw [hi.1, hi.2.1, hi.2.2]
  refine ⟨e0, e2, e9, e10, fun j hj => ?_⟩
  rcases h1 with ⟨a1, a2, a3, a4⟩ | ⟨a1, a2⟩ <;> rcases h2 with ⟨b1, b2, b3⟩ | ⟨b1, b2, b3, b4⟩
  · omega
  · obtain ⟨c1, c2⟩ := a4 j (by omega)
    by_cases q : (j : Int) = n15
    · obtain ⟨c3, c4, c5⟩ := c1 q
      obtain ⟨⟨d1, d2, d3⟩, d4, d5⟩ := e0
      have k0 : lw_K (gN' j) (nN' j) (iK' j) (gK' j) _ _ (i 13) True := ⟨⟨c3 _ d1, c4.trans d2, d3⟩, c5 _ _ d4, fun _ => d5 (hl ▸ a2)⟩
      refine k0.mv hs (hN' j (by omega)) (fun k hk => ?_) (fun k hk => ?_)
      · show a6' (200 * j + k) = _
        rw [b3, if_pos (by omega), show (((200 * j + k : Nat) : Int) - 200 * i 17).toNat = k by omega]
      · show a16' (159 * j + k) = _
        rw [b4, if_pos (by omega), show (((159 * j + k : Nat) : Int) - 159 * i 17).toNat = k by omega]
    · obtain ⟨c3, c4, c5, c6⟩ := c2 q
      rw [c3, c4, c5, c6]
      refine (e11 j (by omega)).mv (hkp j (by omega)).2 (hN j (by omega)) (fun k hk => ?_) (fun k hk => ?_)
      · show a6' (200 * j + k) = a6 (200 * j + k)
        rw [b3, if_neg (by omega)]
      · show a16' (159 * j + k) = a16 (159 * j + k)
        rw [b4, if_neg (by omega)]
  · obtain ⟨c3, c4, c5, c6⟩ := a2 j (by omega)
    rw [b2, b3, c3, c4, c5, c6]
    exact e11 j (by omega)
  · omega
theorem lw_N.back {n4 : Int} {g4 : Nat → Nat → Int} {n5 : Int} {g5 : Nat → Nat → Int} {n7 : Int} {g7 : Nat → Nat → Int} {i8 : Nat → Int} {g8 : Nat → Nat → Int} {i11 : Nat → Int} {g11 : Nat → Nat → Int} {n15 : Int} {nN : Nat → Int} {gN : Nat → Nat → Nat → Int} {iK : Nat → Nat → Int} {gK : Nat → Nat → Nat → Int} {i : Nat → Int} {a3 : Nat → Int} {a4 : Nat → Int} {a6 : Nat → Int} {a11 : Nat → Int} {a13 : Nat → Int} {a16 : Nat → Int} {x z z' n5' : Int} {i' i8' i11' a3' a13' : Nat → Int} {g5' g8' g11' : Nat → Nat → Int} (h : lw_N n4 g4 n5 g5 n7 g7 i8 g8 i11 g11 n15 nN gN iK gK i a3 a4 a6 a11 a13 a16) (hi : i' 12 = i 12 ∧ i' 13 = i 13 ∧ i' 15 = i 15) (hz : z = z') (hn : z = 1 → 0 ≤ x ∧ x < n15) (hn4 : n15 ≤ 4) (hkp : KeptOk a6 a16) (hk5 : NetOk n5' g5')
  (h1 : (z = 1 ∧ (∀ q : Nat → Int, NRel (gN x.toNat) q → NRel g5' q) ∧ n5' = nN x.toNat ∧ (∀ (n : Int) (s : Nat → Int), WR n s (iK x.toNat) (gK x.toNat) → WR n s i8' g8') ∧ i11' 0 = -1) ∨ (z = 0 ∧ g5' = g5 ∧ n5' = n5 ∧ i8' = i8 ∧ g8' = g8 ∧ i11' = i11 ∧ g11' = g11))
  (h2 : (z' = 1 ∧ (∀ k : Nat, k < 200 → a3' k = a6 (200 * x.toNat + k)) ∧ ∀ k : Nat, k < 159 → a13' k = a16 (159 * x.toNat + k)) ∨ (z' = 0 ∧ a3' = a3 ∧ a13' = a13)) : lw_N n4 g4 n5' g5' n7 g7 i8' g8' i11' g11' n15 nN gN iK gK i' a3' a4 a6 a11 a13' a16 := by
  obtain ⟨e0, e2, e9, e10, e11⟩ := h
  unfold lw_N
  rw [hi.1, hi.2.1, hi.2.2]
  rcases h1 with ⟨a1, a2, a3, a4, a5⟩ | ⟨a1, a2, a3, a4, a5, a6, a7⟩ <;> rcases h2 with ⟨b1, b2, b3⟩ | ⟨b1, b2, b3⟩
  · have hx := hn a1
    obtain ⟨⟨d1, d2, d3⟩, d4, d5⟩ := e11 x.toNat (by omega)
    have k0 : lw_K g5' n5' i8' g8' _ _ (i 13) (i 12 = 1) := ⟨⟨a2 _ d1, a3.trans d2, d3⟩, a4 _ _ d4, fun _ => d5 trivial⟩
    exact ⟨k0.mv (hkp x.toNat (by omega)).2 hk5 b2 b3, e2, Or.inl a5, e10, e11⟩
  · omega
  · omega
  · rw [a2, a3, a4, a5, a6, a7, b2, b3]
    exact ⟨e0, e2, e9, e10, e11⟩
theorem lw_z2 {a : Nat → Int} {k : Nat} (hk : k < 200) : zer a 200 k = 0 := by
  unfold zer
  rw [if_pos (by omega)]
set_option maxRecDepth 100000 in
set_option maxHeartbeats 8000000 in
theorem lw_N.prog {n4 : Int} {g4 : Nat → Nat → Int} {n5 : Int} {g5 : Nat → Nat → Int} {n7 : Int} {g7 : Nat → Nat → Int} {i8 : Nat → Int} {g8 : Nat → Nat → Int} {i11 : Nat → Int} {g11 : Nat → Nat → Int} {n15 : Int} {nN : Nat → Int} {gN : Nat → Nat → Nat → Int} {iK : Nat → Nat → Int} {gK : Nat → Nat → Nat → Int} {i : Nat → Int} {a3 : Nat → Int} {a4 : Nat → Int} {a6 : Nat → Int} {a11 : Nat → Int} {a13 : Nat → Int} {a16 : Nat → Int} {a0 a2 a12 i' i8' i11' a2' a3' a4' a11' a12' a13' : Nat → Int} {g1 g4' g5' g7' g8' g11' g1' : Nat → Nat → Int} {x z z' n4' n5' n7' n15' : Int} {C C' : Prop} (h : lw_N n4 g4 n5 g5 n7 g7 i8 g8 i11 g11 n15 nN gN iK gK i a3 a4 a6 a11 a13 a16) (hC : C ↔ C') (hk4 : NetOk n4' g4') (hk5 : NetOk n5' g5') (hn : (z = -1 ∧ n15' = n15) ∨ (0 ≤ z ∧ n15' = 0))
  (h1 : (z = -1 ∧ g5' = g5 ∧ n5' = n5 ∧ g4' = g4 ∧ n4' = n4 ∧ g7' = g7 ∧ n7' = n7 ∧ i8' = i8 ∧ g8' = g8 ∧ i11' = i11 ∧ g11' = g11) ∨ (C ∧ 0 ≤ z ∧ (n4' = n5' ∧ 0 ≤ n7' ∧ n7' ≤ 6 ∧ i11' 0 = -1) ∧ ∃ P9 A9 : Nat → Int, readS a0 x 901 ((0, g1 2), zer a2 200, (0, a12)) 0 = .inr ((n5', g1' 2), P9, (n7', A9)) ∧ (NRel g4' P9 ∧ NRel g5' P9) ∧ WR 0 (begF P9 0 0 0 0) i8' g8' ∧ ∀ k : Nat, k < 5 * n7'.toNat → g7' 0 k = A9 k))
  (h2 : (z' = -1 ∧ (i' 12 = i 12 ∧ i' 13 = i 13 ∧ i' 15 = i 15) ∧ a3' = a3 ∧ a4' = a4 ∧ a11' = a11 ∧ a13' = a13) ∨ ((C' ∧ i' 12 = 1) ∧ 0 ≤ z' ∧ ∃ nm9 : Nat → Int, readS a0 x 901 ((0, g1 2), zer a2 200, (0, a12)) 0 = .inr ((i' 13, nm9), a2', (i' 15, a12')) ∧ (∀ k : Nat, k < 200 → a3' k = a2' k) ∧ (∀ k : Nat, k < 200 → a4' k = a2' k) ∧ (∀ k : Nat, k < 30 → a11' k = a12' k) ∧ E9 (begF a3' 0 0 0 0) a13')) (hz : z = z') (hp : ProgOk a3') : lw_N n4' g4' n5' g5' n7' g7' i8' g8' i11' g11' n15' nN gN iK gK i' a3' a4' a6 a11' a13' a16 := by
  obtain ⟨e0, e2, e9, e10, e11⟩ := h
  unfold lw_N
  rcases h1 with ⟨y1, c1, c2, c3, c4, c5, c6, c7, c8, c9, c10⟩ | ⟨y0, y1, ⟨c1, c2, c3, c4⟩, P9, A9, d1, ⟨d2, d3⟩, d4, d5⟩ <;> rcases h2 with ⟨b1, ⟨b1', b2, b3⟩, b4, b5, b6, b7⟩ | ⟨b0, b1, nm9, b2, b3, b4, b5, b6⟩
  · rw [b1', b2, b3, b4, b5, b6, b7, c1, c2, c3, c4, c5, c6, c7, c8, c9, c10]
    exact ⟨e0, e2, e9, e10, fun j hj => e11 j (by omega)⟩
  · omega
  · omega
  · have q1 := Sum.inr.inj (d1.symm.trans b2)
    have q2 : n5' = i' 13 := congrArg (fun s : RSt => s.1.1) q1
    have q3 : P9 = a2' := congrArg (fun s : RSt => s.2.1) q1
    have q4 : n7' = i' 15 := congrArg (fun s : RSt => s.2.2.1) q1
    have q5 : A9 = a12' := congrArg (fun s : RSt => s.2.2.2) q1
    have hl0 : LN (zer a2 200) 0 := fun l hl _ => lw_z2 (by omega)
    have hz0 : (0 : Int) ≤ 0 ∧ (0 : Int) ≤ 10 := by omega
    have hl : LN P9 n5' := LN_read (f := a0) (n := x) 901 ((0, g1 2), zer a2 200, (0, a12)) 0 ((n5', g1' 2), P9, (n7', A9)) hz0 hl0 d1
    subst q3
    have f3 : E2 P9 a3' := b3
    have f4 : E2 P9 a4' := b4
    have hp9 : ProgOk P9 := hp.congr f3.symm
    have k0 : lw_K g5' n5' i8' g8' P9 (begF P9 0 0 0 0) (i' 13) (i' 12 = 1) := ⟨⟨d3, q2, by rw [← q2]; exact hl⟩, by rw [begF_z (by omega) (by omega)]; exact d4, fun _ => RT_begF⟩
    refine ⟨k0.mv (StOk_begF hp9 (by omega) (by omega) (by omega) (by omega)) hk5 f3 (by rw [← f3.beg]; exact b6), ⟨d2.copy (fun k hk => (hk4.2.2.2.1 k hk).2) (fun _ _ _ => rfl) f4, by omega, by rw [← q2]; exact hl.e2 f4⟩, Or.inl c4, ⟨⟨q4, fun k hk => ?_⟩, Or.inl b0.2⟩, fun j hj => absurd hj (by omega)⟩
    rw [d5 k hk, q5, b5 k (by omega)]
theorem lw_N0 {g4 g5 g7 : Nat → Nat → Int} {gN : Nat → Nat → Nat → Int} (h4 : ∀ k : Nat, k < 10 → DefR g4 k) (h5 : ∀ k : Nat, k < 10 → DefR g5 k) : lw_N 0 g4 0 g5 0 g7 (fun _ => 0) (fun _ _ => 0) (fun k => [-1, 0, 0, 0, -2, -1, 0, 0].getD k 0) (fun _ _ => 0) 0 (fun _ => 0) gN (fun _ _ => 0) (fun _ _ _ => 0) (fun k => [0, 0, 0, 0, 0, 0, 0, 0, 0, -1, 0, 0, 0, 0, 0, 0, 0, 0, 0].getD k 0) (fun _ => 0) (fun _ => 0) (fun _ => 0) (fun _ => 0) (fun _ => 0) (fun _ => 0) := by
  have hl : LN (fun _ => 0) 0 := fun _ _ _ => rfl
  exact ⟨⟨⟨NRel.zero h5 (fun _ _ => rfl), rfl, hl⟩, ⟨⟨rfl, rfl, rfl, rfl, rfl⟩, fun _ _ => rfl, fun _ _ => rfl, fun _ _ => rfl, fun _ _ _ => rfl⟩, fun q => absurd q (by decide)⟩, ⟨NRel.zero h4 (fun _ _ => rfl), rfl, hl⟩, Or.inl rfl, ⟨⟨rfl, fun k hk => absurd hk (by omega)⟩, Or.inr ⟨rfl, rfl⟩⟩, fun j hj => absurd hj (by omega)⟩
/-! THE CLAIM OUT OF ONE WALK OF THE LAW'S BODY -/
def R_law : String := "BurntWaysLaw"
def lw_P (b : Addr) (xs : List Int32) (args : Array Value) (s : State) : Prop := args = #[.ref b] ∧ s.IntsAt b xs ∧ xs.length ≤ 3072 ∧ (Jvm.Cond.and given_1 narrow_1).before args s = true
def lw_Q (_ : Array Value) (s : State) (o : Outcome) (t : State) : Prop := o = .returned (some (.int 1)) ∧ Framed s o t [] 601024 7293034
def lw_Z (below : List Frame) (a : Array Value) (s : State) : State → Prop := fun t => ∃ o, t.status = .running ∧ Ended t below o ∧ lw_Q a s o t
/-- the law's own end, with 1 on the stack, nothing written that was there before, its room as the claim has it -/
theorem lw_ret {p : Program} {l : Launch} {e : Env} {s : State} {m : MethodId} {below : List Frame} {meth : Method} {c : Code} {b : Nat} (hx : p.tables.exec = Jvm.exec) (hb : c.code = code) (hr : meth.sig.returnType = ret) (hlocks : meth.locks = false) {pc : Nat} {H : Heap} {ls : Array Slot} (hdg : decode code pc = .ok (.ireturn, 1)) : W p l e room_1 s m #[Value.ref b] below meth c H [] 601024 7293034 (lw_Z below #[Value.ref b] s) (F0 m pc ls [.int 1]) := by
  intro T hT X
  obtain ⟨fs, hret, hrun, hended, hW, hframe⟩ := X.leave (v := some (.int 1)) (hlocks := hlocks) (fun h => by rw [hr] at h; cases h)
  have hmeth' : T.vm.method? m = some meth := X.method'
  refine ⟨T.setFrames fs, ?_, .returned (some (.int 1)), hrun, hended, rfl, ⟨_, rfl⟩, hW, hframe⟩
  jvm_step X.here [X.here.top, hx, hb, hdg, hmeth', hr, ret, narrow_b1]
  (try refine ⟨rfl, ?_⟩); (try refine ⟨rfl, ?_⟩)
  first | (intro acts; rw [hret _ acts rfl rfl rfl]) | rw [hret _ _ rfl rfl rfl]
  exact Steps.refl _
/-- what holds at the law's entry -/
def lw_At (p : Program) (s : State) (m : MethodId) (meth : Method) (c : Code) (b L : Nat) (xs : Nat → Int32) : Prop :=
  p.tables.exec = Jvm.exec ∧ c.code = code ∧ meth.sig.returnType = ret ∧ c.maxLocals = 7 ∧ s.vm.findClass R_law = some m.cls ∧ (∀ w ∈ lw_tbl, w.before #[Value.ref b] s = true) ∧ va_X b L xs s s.heap ∧ b < s.heap.size ∧ meth.locks = false ∧ (Jvm.Cond.and given_1 narrow_1).before #[Value.ref b] s = true
theorem dL_law_1489 : decode cL_law 1489 = .ok (.iconst 1, 1) := bo_4 (by decide +kernel)
theorem dL_law_1490 : decode cL_law 1490 = .ok (.ireturn, 1) := bo_172 (by decide +kernel)
theorem lc_exit {p : Program} {l : Launch} {e : Env} {s : State} {m : MethodId} {below : List Frame} {meth : Method} {c : Code} {b : Nat} {xs : Nat → Int32} {L : Nat} (C0 : lw_At p s m meth c b L xs) {H : Heap} {locs : List Loc} {cells slots : Nat} (hS : va_S (fun q : Nat => s.heap.size ≤ q) s.heap H locs) (hc : cells ≤ 601024) (hs : slots ≤ 7293034) {ls : Array Slot} : W p l e room_1 s m #[Value.ref b] below meth c H locs cells slots (lw_Z below #[Value.ref b] s) (F0 m 1489 ls []) := by
  obtain ⟨hx, hb, hr, hml, hown, hts, hX, hbl, hlocks, hgv⟩ := C0
  refine lv_iconst (v := 1) hx hb dL_law_1489 (by decide) ?_
  refine va_forget (fun q hq => hS.2.2 q hq) ?_
  refine W.widen (k := 601024) (n := 7293034) hc hs ?_
  exact lw_ret hx hb hr hlocks dL_law_1490
theorem lw_hf {n a b : Nat} (h : n ≤ 3072) (ha : a ≤ 2) (hb : b ≤ 12) : (163 + n) + a ≤ room_1.cells ∧ (8733 + 6 * n) + b ≤ room_1.slots := ⟨by show _ ≤ 601024; omega, by show _ ≤ 7293034; omega⟩
theorem lw_hf2 {n a b a' b' : Nat} (h : n ≤ 3072) (ha : a ≤ 2) (hb : b ≤ 12) (ha' : a' ≤ 2) (hb' : b' ≤ 12) : (163 + n) + a + a' ≤ room_1.cells ∧ (8733 + 6 * n) + b + b' ≤ room_1.slots := ⟨by show _ ≤ 601024; omega, by show _ ≤ 7293034; omega⟩
theorem lw_hf3 {n a b a' b' a2 b2 : Nat} (h : n ≤ 3072) (ha : a ≤ 2) (hb : b ≤ 12) (ha' : a' ≤ 2) (hb' : b' ≤ 12) (ha2 : a2 ≤ 0) (hb2 : b2 ≤ 0) : (163 + n) + a + a' + a2 ≤ room_1.cells ∧ (8733 + 6 * n) + b + b' + b2 ≤ room_1.slots := ⟨by show _ ≤ 601024; omega, by show _ ≤ 7293034; omega⟩
theorem lw_cl3 {n a a' a2 : Nat} (h : a + a' + a2 ≤ 1) : 163 + n + a + a' + a2 ≤ 164 + n := by omega
theorem lw_sl3 {n a a' a2 : Nat} (h : a + a' + a2 ≤ 6) : 8733 + 6 * n + a + a' + a2 ≤ 8739 + 6 * n := by omega
theorem lw_cl {n a a' : Nat} (h : a + a' ≤ 1) : 163 + n + a + a' ≤ 164 + n := by omega
theorem lw_sl {n a a' : Nat} (h : a + a' ≤ 6) : 8733 + 6 * n + a + a' ≤ 8739 + 6 * n := by omega
/-- behind a call: any state that keeps what is kept -/
def lw_End (p : Program) (l : Launch) (e : Env) (s : State) (m : MethodId) (below : List Frame) (meth : Method) (c : Code) (b : Nat) (G : va_G) (cI cB cJ cN cW : ClassId) (x y o : Nat) (Q qN qK : Nat → Nat → Nat) (qm : Nat → Nat) (n : Nat) : Prop := ∀ (t : Int) (ld : Int) (i1 : Nat → Int) (g1 : Nat → Nat → Int) (n2 : Int) (g2 : Nat → Nat → Int) (n3 : Int) (g3 : Nat → Nat → Int) (n4 : Int) (g4 : Nat → Nat → Int) (n5 : Int) (g5 : Nat → Nat → Int) (n6 : Int) (g6 : Nat → Nat → Int) (n7 : Int) (g7 : Nat → Nat → Int) (i8 : Nat → Int) (g8 : Nat → Nat → Int) (i9 : Nat → Int) (g9 : Nat → Nat → Int) (i10 : Nat → Int) (g10 : Nat → Nat → Int) (i11 : Nat → Int) (g11 : Nat → Nat → Int) (i12 : Nat → Int) (g12 : Nat → Nat → Int) (i13 : Nat → Int) (g13 : Nat → Nat → Int) (g14 : Nat → Nat → Int) (n15 : Int) (nN : Nat → Int) (gN : Nat → Nat → Nat → Int) (iK : Nat → Nat → Int) (gK : Nat → Nat → Nat → Int) (i : Nat → Int) (a0 : Nat → Int) (a1 : Nat → Int) (a2 : Nat → Int) (a3 : Nat → Int) (a4 : Nat → Int) (a5 : Nat → Int) (a6 : Nat → Int) (a7 : Nat → Int) (a8 : Nat → Int) (a9 : Nat → Int) (a10 : Nat → Int) (a11 : Nat → Int) (a12 : Nat → Int) (a13 : Nat → Int) (a14 : Nat → Int) (a15 : Nat → Int) (a16 : Nat → Int) (a17 : Nat → Int) (a18 : Nat → Int) (a19 : Nat → Int) (a20 : Nat → Int) (go : Nat → Int) (H : Heap) (locs : List Loc) (ls : Array Slot), lw_F (1000 * (n : Int) + 1000) t ld i1 g1 n2 g2 n3 g3 n4 g4 n5 g5 n6 g6 n7 g7 i8 g8 i9 g9 i10 g10 i11 g11 i12 g12 i13 g13 g14 n15 nN gN iK gK → lw_M i a0 a1 a2 a3 a4 a5 a6 a7 a8 a9 a10 a11 a12 a13 a14 a15 a16 a17 a18 a19 a20 → ((i1 0 = i 1 ∧ lw_X t ld i1 g1 n15 i a0) ∧ lw_N n4 g4 n5 g5 n7 g7 i8 g8 i11 g11 n15 nN gN iK gK i a3 a4 a6 a11 a13 a16) → va_P G vwCl (lw_W cI cB cJ cN cW x y o Q qN qK qm t ld i1 g1 n2 g2 n3 g3 n4 g4 n5 g5 n6 g6 n7 g7 i8 g8 i9 g9 i10 g10 i11 g11 i12 g12 i13 g13 g14 n15 nN gN iK gK i a0 a1 a2 a3 a4 a5 a6 a7 a8 a9 a10 a11 a12 a13 a14 a15 a16 a17 a18 a19 a20 go) H → va_D (fun q : Nat => s.heap.size ≤ q) (lw_W cI cB cJ cN cW x y o Q qN qK qm t ld i1 g1 n2 g2 n3 g3 n4 g4 n5 g5 n6 g6 n7 g7 i8 g8 i9 g9 i10 g10 i11 g11 i12 g12 i13 g13 g14 n15 nN gN iK gK i a0 a1 a2 a3 a4 a5 a6 a7 a8 a9 a10 a11 a12 a13 a14 a15 a16 a17 a18 a19 a20 go) → va_S (fun q : Nat => s.heap.size ≤ q) s.heap H locs → lv_has ls 7 [(4, .int (zI (n : Int))), (3, .ref o), (2, .ref y), (1, .ref x), (0, .ref b)] → W p l e room_1 s m #[Value.ref b] below meth c H locs (164 + n) (8739 + 6 * n) (lw_Z below #[Value.ref b] s) (F0 m 1483 ls [])
