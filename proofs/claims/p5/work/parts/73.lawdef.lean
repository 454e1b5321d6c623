def lw_W (cI cB cJ cN cW : ClassId) (x y o : Nat) (Q qN qK : Nat → Nat → Nat) (qm : Nat → Nat) (t : Int) (ld : Int) (i1 : Nat → Int) (g1 : Nat → Nat → Int) (n2 : Int) (g2 : Nat → Nat → Int) (n3 : Int) (g3 : Nat → Nat → Int) (n4 : Int) (g4 : Nat → Nat → Int) (n5 : Int) (g5 : Nat → Nat → Int) (n6 : Int) (g6 : Nat → Nat → Int) (n7 : Int) (g7 : Nat → Nat → Int) (i8 : Nat → Int) (g8 : Nat → Nat → Int) (i9 : Nat → Int) (g9 : Nat → Nat → Int) (i10 : Nat → Int) (g10 : Nat → Nat → Int) (i11 : Nat → Int) (g11 : Nat → Nat → Int) (i12 : Nat → Int) (g12 : Nat → Nat → Int) (i13 : Nat → Int) (g13 : Nat → Nat → Int) (g14 : Nat → Nat → Int) (n15 : Int) (nN : Nat → Int) (gN : Nat → Nat → Nat → Int) (iK : Nat → Nat → Int) (gK : Nat → Nat → Nat → Int) (i : Nat → Int) (a0 : Nat → Int) (a1 : Nat → Int) (a2 : Nat → Int) (a3 : Nat → Int) (a4 : Nat → Int) (a5 : Nat → Int) (a6 : Nat → Int) (a7 : Nat → Int) (a8 : Nat → Int) (a9 : Nat → Int) (a10 : Nat → Int) (a11 : Nat → Int) (a12 : Nat → Int) (a13 : Nat → Int) (a14 : Nat → Int) (a15 : Nat → Int) (a16 : Nat → Int) (a17 : Nat → Int) (a18 : Nat → Int) (a19 : Nat → Int) (a20 : Nat → Int) (go : Nat → Int) : va_W := [(x, .inr (8, [.int (zI t), .int (zI ld), .ref ((Q 0) 0), .ref ((Q 0) 1), .ref ((Q 0) 2), .ref ((Q 0) 3), .ref ((Q 0) 4), .ref ((Q 0) 5), .ref ((Q 0) 6), .ref ((Q 0) 7), .ref ((Q 0) 8), .ref ((Q 0) 9), .ref ((Q 0) 10), .ref ((Q 0) 11)])),
  (((Q 0) 0), .inr (3, [.ref ((Q 1) 0), .int (zI (i1 0)), .ref ((Q 1) 3), .ref ((Q 1) 4), .int (zI (i1 1)), .int (zI (i1 2)), .ref ((Q 1) 1), .ref ((Q 1) 2), .int (zI (i1 3)), .int (zI (i1 4)), .int (zI (i1 5)), .int (zI (i1 6)), .long (zL (i1 7)), .int (zI (i1 8))])),
  (((Q 1) 0), .inl (cB, 900, .inl (fun k => zI ((g1 0) k)))),
  (((Q 1) 1), .inl (cJ, 19, .inr (.inl (fun k => zL ((g1 1) k))))),
  (((Q 1) 2), .inl (cJ, 10, .inr (.inl (fun k => zL ((g1 2) k))))),
  (((Q 1) 3), .inr (2, [.int (zI n2), .ref ((Q 2) 0), .ref ((Q 2) 1), .ref ((Q 2) 2), .ref ((Q 2) 3), .ref ((Q 2) 4), .ref ((Q 2) 5), .ref ((Q 2) 6), .ref ((Q 2) 7)])),
  (((Q 2) 0), .inl (cI, 10, .inl (fun k => zI ((g2 0) k)))),
  (((Q 2) 1), .inl (cI, 10, .inl (fun k => zI ((g2 1) k)))),
  (((Q 2) 2), .inl (cI, 10, .inl (fun k => zI ((g2 2) k)))),
  (((Q 2) 3), .inl (cI, 40, .inl (fun k => zI ((g2 3) k)))),
  (((Q 2) 4), .inl (cI, 40, .inl (fun k => zI ((g2 4) k)))),
  (((Q 2) 5), .inl (cI, 40, .inl (fun k => zI ((g2 5) k)))),
  (((Q 2) 6), .inl (cI, 20, .inl (fun k => zI ((g2 6) k)))),
  (((Q 2) 7), .inl (cI, 20, .inl (fun k => zI ((g2 7) k)))),
  (((Q 1) 4), .inr (7, [.int (zI n3), .ref ((Q 3) 0)])),
  (((Q 3) 0), .inl (cI, 30, .inl (fun k => zI ((g3 0) k)))),
  (((Q 0) 1), .inr (2, [.int (zI n4), .ref ((Q 4) 0), .ref ((Q 4) 1), .ref ((Q 4) 2), .ref ((Q 4) 3), .ref ((Q 4) 4), .ref ((Q 4) 5), .ref ((Q 4) 6), .ref ((Q 4) 7)])),
  (((Q 4) 0), .inl (cI, 10, .inl (fun k => zI ((g4 0) k)))),
  (((Q 4) 1), .inl (cI, 10, .inl (fun k => zI ((g4 1) k)))),
  (((Q 4) 2), .inl (cI, 10, .inl (fun k => zI ((g4 2) k)))),
  (((Q 4) 3), .inl (cI, 40, .inl (fun k => zI ((g4 3) k)))),
  (((Q 4) 4), .inl (cI, 40, .inl (fun k => zI ((g4 4) k)))),
  (((Q 4) 5), .inl (cI, 40, .inl (fun k => zI ((g4 5) k)))),
  (((Q 4) 6), .inl (cI, 20, .inl (fun k => zI ((g4 6) k)))),
  (((Q 4) 7), .inl (cI, 20, .inl (fun k => zI ((g4 7) k)))),
  (((Q 0) 2), .inr (2, [.int (zI n5), .ref ((Q 5) 0), .ref ((Q 5) 1), .ref ((Q 5) 2), .ref ((Q 5) 3), .ref ((Q 5) 4), .ref ((Q 5) 5), .ref ((Q 5) 6), .ref ((Q 5) 7)])),
  (((Q 5) 0), .inl (cI, 10, .inl (fun k => zI ((g5 0) k)))),
  (((Q 5) 1), .inl (cI, 10, .inl (fun k => zI ((g5 1) k)))),
  (((Q 5) 2), .inl (cI, 10, .inl (fun k => zI ((g5 2) k)))),
  (((Q 5) 3), .inl (cI, 40, .inl (fun k => zI ((g5 3) k)))),
  (((Q 5) 4), .inl (cI, 40, .inl (fun k => zI ((g5 4) k)))),
  (((Q 5) 5), .inl (cI, 40, .inl (fun k => zI ((g5 5) k)))),
  (((Q 5) 6), .inl (cI, 20, .inl (fun k => zI ((g5 6) k)))),
  (((Q 5) 7), .inl (cI, 20, .inl (fun k => zI ((g5 7) k)))),
  (((Q 0) 3), .inr (2, [.int (zI n6), .ref ((Q 6) 0), .ref ((Q 6) 1), .ref ((Q 6) 2), .ref ((Q 6) 3), .ref ((Q 6) 4), .ref ((Q 6) 5), .ref ((Q 6) 6), .ref ((Q 6) 7)])),
  (((Q 6) 0), .inl (cI, 10, .inl (fun k => zI ((g6 0) k)))),
  (((Q 6) 1), .inl (cI, 10, .inl (fun k => zI ((g6 1) k)))),
  (((Q 6) 2), .inl (cI, 10, .inl (fun k => zI ((g6 2) k)))),
  (((Q 6) 3), .inl (cI, 40, .inl (fun k => zI ((g6 3) k)))),
  (((Q 6) 4), .inl (cI, 40, .inl (fun k => zI ((g6 4) k)))),
  (((Q 6) 5), .inl (cI, 40, .inl (fun k => zI ((g6 5) k)))),
  (((Q 6) 6), .inl (cI, 20, .inl (fun k => zI ((g6 6) k)))),
  (((Q 6) 7), .inl (cI, 20, .inl (fun k => zI ((g6 7) k)))),
  (((Q 0) 4), .inr (7, [.int (zI n7), .ref ((Q 7) 0)])),
  (((Q 7) 0), .inl (cI, 30, .inl (fun k => zI ((g7 0) k)))),
  (((Q 0) 5), .inr (6, [.int (zI (i8 0)), .int (zI (i8 1)), .int (zI (i8 2)), .int (zI (i8 3)), .int (zI (i8 4)), .ref ((Q 8) 0), .ref ((Q 8) 1), .ref ((Q 8) 2), .long (zL (i8 5)), .ref ((Q 8) 3)])),
  (((Q 8) 0), .inl (cI, 4, .inl (fun k => zI ((g8 0) k)))),
  (((Q 8) 1), .inl (cI, 20, .inl (fun k => zI ((g8 1) k)))),
  (((Q 8) 2), .inl (cI, 20, .inl (fun k => zI ((g8 2) k)))),
  (((Q 8) 3), .inl (cI, 100, .inl (fun k => zI ((g8 3) k)))),
  (((Q 0) 6), .inr (6, [.int (zI (i9 0)), .int (zI (i9 1)), .int (zI (i9 2)), .int (zI (i9 3)), .int (zI (i9 4)), .ref ((Q 9) 0), .ref ((Q 9) 1), .ref ((Q 9) 2), .long (zL (i9 5)), .ref ((Q 9) 3)])),
  (((Q 9) 0), .inl (cI, 4, .inl (fun k => zI ((g9 0) k)))),
  (((Q 9) 1), .inl (cI, 20, .inl (fun k => zI ((g9 1) k)))),
  (((Q 9) 2), .inl (cI, 20, .inl (fun k => zI ((g9 2) k)))),
  (((Q 9) 3), .inl (cI, 100, .inl (fun k => zI ((g9 3) k)))),
  (((Q 0) 7), .inr (6, [.int (zI (i10 0)), .int (zI (i10 1)), .int (zI (i10 2)), .int (zI (i10 3)), .int (zI (i10 4)), .ref ((Q 10) 0), .ref ((Q 10) 1), .ref ((Q 10) 2), .long (zL (i10 5)), .ref ((Q 10) 3)])),
  (((Q 10) 0), .inl (cI, 4, .inl (fun k => zI ((g10 0) k)))),
  (((Q 10) 1), .inl (cI, 20, .inl (fun k => zI ((g10 1) k)))),
  (((Q 10) 2), .inl (cI, 20, .inl (fun k => zI ((g10 2) k)))),
  (((Q 10) 3), .inl (cI, 100, .inl (fun k => zI ((g10 3) k)))),
  (((Q 0) 8), .inr (4, [.int (zI (i11 0)), .int (zI (i11 1)), .int (zI (i11 2)), .int (zI (i11 3)), .int (zI (i11 4)), .int (zI (i11 5)), .int (zI (i11 6)), .int (zI (i11 7)), .ref ((Q 11) 0), .ref ((Q 11) 1), .ref ((Q 11) 2), .ref ((Q 11) 3), .ref ((Q 11) 4)])),
  (((Q 11) 0), .inl (cI, 4, .inl (fun k => zI ((g11 0) k)))),
  (((Q 11) 1), .inl (cI, 10, .inl (fun k => zI ((g11 1) k)))),
  (((Q 11) 2), .inl (cI, 20, .inl (fun k => zI ((g11 2) k)))),
  (((Q 11) 3), .inl (cI, 256, .inl (fun k => zI ((g11 3) k)))),
  (((Q 11) 4), .inr (6, [.int (zI (i12 0)), .int (zI (i12 1)), .int (zI (i12 2)), .int (zI (i12 3)), .int (zI (i12 4)), .ref ((Q 12) 0), .ref ((Q 12) 1), .ref ((Q 12) 2), .long (zL (i12 5)), .ref ((Q 12) 3)])),
  (((Q 12) 0), .inl (cI, 4, .inl (fun k => zI ((g12 0) k)))),
  (((Q 12) 1), .inl (cI, 20, .inl (fun k => zI ((g12 1) k)))),
  (((Q 12) 2), .inl (cI, 20, .inl (fun k => zI ((g12 2) k)))),
  (((Q 12) 3), .inl (cI, 100, .inl (fun k => zI ((g12 3) k)))),
  (((Q 0) 9), .inr (5, [.int (zI (i13 0)), .int (zI (i13 1)), .ref ((Q 13) 0), .ref ((Q 13) 1)])),
  (((Q 13) 0), .inl (cI, 180, .inl (fun k => zI ((g13 0) k)))),
  (((Q 13) 1), .inl (cI, 20, .inl (fun k => zI ((g13 1) k)))),
  (((Q 0) 10), .inr (0, [.ref ((Q 14) 0), .ref ((Q 14) 1), .ref ((Q 14) 2), .ref ((Q 14) 3), .ref ((Q 14) 4), .ref ((Q 14) 5), .ref ((Q 14) 6)])),
  (((Q 14) 0), .inl (cI, 10, .inl (fun k => zI ((g14 0) k)))),
  (((Q 14) 1), .inl (cI, 30, .inl (fun k => zI ((g14 1) k)))),
  (((Q 14) 2), .inl (cI, 3, .inl (fun k => zI ((g14 2) k)))),
  (((Q 14) 3), .inl (cI, 3, .inl (fun k => zI ((g14 3) k)))),
  (((Q 14) 4), .inl (cI, 3, .inl (fun k => zI ((g14 4) k)))),
  (((Q 14) 5), .inl (cI, 3, .inl (fun k => zI ((g14 5) k)))),
  (((Q 14) 6), .inl (cI, 6, .inl (fun k => zI ((g14 6) k)))),
  (((Q 0) 11), .inr (1, [.int (zI n15), .ref ((Q 15) 0), .ref ((Q 15) 1)])),
  (((Q 15) 0), .inl (cN, 4, .inr (.inr (.inr (.inr (fun k => some ((Q 15) (2 + k)))))))),
  (((Q 15) 1), .inl (cW, 4, .inr (.inr (.inr (.inr (fun k => some ((Q 15) (6 + k)))))))),
  (((Q 15) 2), .inr (2, [.int (zI (nN 0)), .ref ((qN 0) 0), .ref ((qN 0) 1), .ref ((qN 0) 2), .ref ((qN 0) 3), .ref ((qN 0) 4), .ref ((qN 0) 5), .ref ((qN 0) 6), .ref ((qN 0) 7)])),
  (((qN 0) 0), .inl (cI, 10, .inl (fun k => zI (((gN 0) 0) k)))),
  (((qN 0) 1), .inl (cI, 10, .inl (fun k => zI (((gN 0) 1) k)))),
  (((qN 0) 2), .inl (cI, 10, .inl (fun k => zI (((gN 0) 2) k)))),
  (((qN 0) 3), .inl (cI, 40, .inl (fun k => zI (((gN 0) 3) k)))),
  (((qN 0) 4), .inl (cI, 40, .inl (fun k => zI (((gN 0) 4) k)))),
  (((qN 0) 5), .inl (cI, 40, .inl (fun k => zI (((gN 0) 5) k)))),
  (((qN 0) 6), .inl (cI, 20, .inl (fun k => zI (((gN 0) 6) k)))),
  (((qN 0) 7), .inl (cI, 20, .inl (fun k => zI (((gN 0) 7) k)))),
  (((Q 15) 3), .inr (2, [.int (zI (nN 1)), .ref ((qN 1) 0), .ref ((qN 1) 1), .ref ((qN 1) 2), .ref ((qN 1) 3), .ref ((qN 1) 4), .ref ((qN 1) 5), .ref ((qN 1) 6), .ref ((qN 1) 7)])),
  (((qN 1) 0), .inl (cI, 10, .inl (fun k => zI (((gN 1) 0) k)))),
  (((qN 1) 1), .inl (cI, 10, .inl (fun k => zI (((gN 1) 1) k)))),
  (((qN 1) 2), .inl (cI, 10, .inl (fun k => zI (((gN 1) 2) k)))),
  (((qN 1) 3), .inl (cI, 40, .inl (fun k => zI (((gN 1) 3) k)))),
  (((qN 1) 4), .inl (cI, 40, .inl (fun k => zI (((gN 1) 4) k)))),
  (((qN 1) 5), .inl (cI, 40, .inl (fun k => zI (((gN 1) 5) k)))),
  (((qN 1) 6), .inl (cI, 20, .inl (fun k => zI (((gN 1) 6) k)))),
  (((qN 1) 7), .inl (cI, 20, .inl (fun k => zI (((gN 1) 7) k)))),
  (((Q 15) 4), .inr (2, [.int (zI (nN 2)), .ref ((qN 2) 0), .ref ((qN 2) 1), .ref ((qN 2) 2), .ref ((qN 2) 3), .ref ((qN 2) 4), .ref ((qN 2) 5), .ref ((qN 2) 6), .ref ((qN 2) 7)])),
  (((qN 2) 0), .inl (cI, 10, .inl (fun k => zI (((gN 2) 0) k)))),
  (((qN 2) 1), .inl (cI, 10, .inl (fun k => zI (((gN 2) 1) k)))),
  (((qN 2) 2), .inl (cI, 10, .inl (fun k => zI (((gN 2) 2) k)))),
  (((qN 2) 3), .inl (cI, 40, .inl (fun k => zI (((gN 2) 3) k)))),
  (((qN 2) 4), .inl (cI, 40, .inl (fun k => zI (((gN 2) 4) k)))),
  (((qN 2) 5), .inl (cI, 40, .inl (fun k => zI (((gN 2) 5) k)))),
  (((qN 2) 6), .inl (cI, 20, .inl (fun k => zI (((gN 2) 6) k)))),
  (((qN 2) 7), .inl (cI, 20, .inl (fun k => zI (((gN 2) 7) k)))),
  (((Q 15) 5), .inr (2, [.int (zI (nN 3)), .ref ((qN 3) 0), .ref ((qN 3) 1), .ref ((qN 3) 2), .ref ((qN 3) 3), .ref ((qN 3) 4), .ref ((qN 3) 5), .ref ((qN 3) 6), .ref ((qN 3) 7)])),
  (((qN 3) 0), .inl (cI, 10, .inl (fun k => zI (((gN 3) 0) k)))),
  (((qN 3) 1), .inl (cI, 10, .inl (fun k => zI (((gN 3) 1) k)))),
  (((qN 3) 2), .inl (cI, 10, .inl (fun k => zI (((gN 3) 2) k)))),
  (((qN 3) 3), .inl (cI, 40, .inl (fun k => zI (((gN 3) 3) k)))),
  (((qN 3) 4), .inl (cI, 40, .inl (fun k => zI (((gN 3) 4) k)))),
  (((qN 3) 5), .inl (cI, 40, .inl (fun k => zI (((gN 3) 5) k)))),
  (((qN 3) 6), .inl (cI, 20, .inl (fun k => zI (((gN 3) 6) k)))),
  (((qN 3) 7), .inl (cI, 20, .inl (fun k => zI (((gN 3) 7) k)))),
  (((Q 15) 6), .inr (6, [.int (zI ((iK 0) 0)), .int (zI ((iK 0) 1)), .int (zI ((iK 0) 2)), .int (zI ((iK 0) 3)), .int (zI ((iK 0) 4)), .ref ((qK 0) 0), .ref ((qK 0) 1), .ref ((qK 0) 2), .long (zL ((iK 0) 5)), .ref ((qK 0) 3)])),
  (((qK 0) 0), .inl (cI, 4, .inl (fun k => zI (((gK 0) 0) k)))),
  (((qK 0) 1), .inl (cI, 20, .inl (fun k => zI (((gK 0) 1) k)))),
  (((qK 0) 2), .inl (cI, 20, .inl (fun k => zI (((gK 0) 2) k)))),
  (((qK 0) 3), .inl (cI, 100, .inl (fun k => zI (((gK 0) 3) k)))),
  (((Q 15) 7), .inr (6, [.int (zI ((iK 1) 0)), .int (zI ((iK 1) 1)), .int (zI ((iK 1) 2)), .int (zI ((iK 1) 3)), .int (zI ((iK 1) 4)), .ref ((qK 1) 0), .ref ((qK 1) 1), .ref ((qK 1) 2), .long (zL ((iK 1) 5)), .ref ((qK 1) 3)])),
  (((qK 1) 0), .inl (cI, 4, .inl (fun k => zI (((gK 1) 0) k)))),
  (((qK 1) 1), .inl (cI, 20, .inl (fun k => zI (((gK 1) 1) k)))),
  (((qK 1) 2), .inl (cI, 20, .inl (fun k => zI (((gK 1) 2) k)))),
  (((qK 1) 3), .inl (cI, 100, .inl (fun k => zI (((gK 1) 3) k)))),
  (((Q 15) 8), .inr (6, [.int (zI ((iK 2) 0)), .int (zI ((iK 2) 1)), .int (zI ((iK 2) 2)), .int (zI ((iK 2) 3)), .int (zI ((iK 2) 4)), .ref ((qK 2) 0), .ref ((qK 2) 1), .ref ((qK 2) 2), .long (zL ((iK 2) 5)), .ref ((qK 2) 3)])),
  (((qK 2) 0), .inl (cI, 4, .inl (fun k => zI (((gK 2) 0) k)))),
  (((qK 2) 1), .inl (cI, 20, .inl (fun k => zI (((gK 2) 1) k)))),
  (((qK 2) 2), .inl (cI, 20, .inl (fun k => zI (((gK 2) 2) k)))),
  (((qK 2) 3), .inl (cI, 100, .inl (fun k => zI (((gK 2) 3) k)))),
  (((Q 15) 9), .inr (6, [.int (zI ((iK 3) 0)), .int (zI ((iK 3) 1)), .int (zI ((iK 3) 2)), .int (zI ((iK 3) 3)), .int (zI ((iK 3) 4)), .ref ((qK 3) 0), .ref ((qK 3) 1), .ref ((qK 3) 2), .long (zL ((iK 3) 5)), .ref ((qK 3) 3)])),
  (((qK 3) 0), .inl (cI, 4, .inl (fun k => zI (((gK 3) 0) k)))),
  (((qK 3) 1), .inl (cI, 20, .inl (fun k => zI (((gK 3) 1) k)))),
  (((qK 3) 2), .inl (cI, 20, .inl (fun k => zI (((gK 3) 2) k)))),
  (((qK 3) 3), .inl (cI, 100, .inl (fun k => zI (((gK 3) 3) k)))),
  (y, .inr (9, [.int (zI (i 0)), .ref (qm 0), .int (zI (i 1)), .int (zI (i 2)), .int (zI (i 3)), .int (zI (i 4)), .int (zI (i 5)), .int (zI (i 6)), .int (zI (i 7)), .int (zI (i 8)), .int (zI (i 9)), .int (zI (i 10)), .ref (qm 1), .int (zI (i 11)), .int (zI (i 12)), .ref (qm 2), .ref (qm 3), .ref (qm 4), .ref (qm 5), .ref (qm 6), .ref (qm 7), .ref (qm 8), .ref (qm 9), .ref (qm 10), .ref (qm 11), .ref (qm 12), .ref (qm 13), .ref (qm 14), .ref (qm 15), .ref (qm 16), .int (zI (i 13)), .int (zI (i 14)), .int (zI (i 15)), .int (zI (i 16)), .int (zI (i 17)), .int (zI (i 18)), .ref (qm 17), .ref (qm 18), .ref (qm 19), .ref (qm 20)])),
  ((qm 0), .inl (cI, 900, .inl (fun k => zI (a0 k)))),
  ((qm 1), .inl (cI, 8, .inl (fun k => zI (a1 k)))),
  ((qm 2), .inl (cI, 200, .inl (fun k => zI (a2 k)))),
  ((qm 3), .inl (cI, 200, .inl (fun k => zI (a3 k)))),
  ((qm 4), .inl (cI, 200, .inl (fun k => zI (a4 k)))),
  ((qm 5), .inl (cI, 200, .inl (fun k => zI (a5 k)))),
  ((qm 6), .inl (cI, 800, .inl (fun k => zI (a6 k)))),
  ((qm 7), .inl (cI, 80, .inl (fun k => zI (a7 k)))),
  ((qm 8), .inl (cI, 10, .inl (fun k => zI (a8 k)))),
  ((qm 9), .inl (cI, 80, .inl (fun k => zI (a9 k)))),
  ((qm 10), .inl (cI, 10, .inl (fun k => zI (a10 k)))),
  ((qm 11), .inl (cI, 30, .inl (fun k => zI (a11 k)))),
  ((qm 12), .inl (cI, 30, .inl (fun k => zI (a12 k)))),
  ((qm 13), .inl (cI, 159, .inl (fun k => zI (a13 k)))),
  ((qm 14), .inl (cI, 159, .inl (fun k => zI (a14 k)))),
  ((qm 15), .inl (cI, 159, .inl (fun k => zI (a15 k)))),
  ((qm 16), .inl (cI, 636, .inl (fun k => zI (a16 k)))),
  ((qm 17), .inl (cI, 20, .inl (fun k => zI (a17 k)))),
  ((qm 18), .inl (cI, 180, .inl (fun k => zI (a18 k)))),
  ((qm 19), .inl (cI, 200, .inl (fun k => zI (a19 k)))),
  ((qm 20), .inl (cI, 3, .inl (fun k => zI (a20 k)))), (o, .inl (cJ, 1, .inr (.inl (fun k => zL (go k)))))]
def lw_F (K : Int) (t : Int) (ld : Int) (i1 : Nat → Int) (g1 : Nat → Nat → Int) (n2 : Int) (g2 : Nat → Nat → Int) (n3 : Int) (g3 : Nat → Nat → Int) (n4 : Int) (g4 : Nat → Nat → Int) (n5 : Int) (g5 : Nat → Nat → Int) (n6 : Int) (g6 : Nat → Nat → Int) (n7 : Int) (g7 : Nat → Nat → Int) (i8 : Nat → Int) (g8 : Nat → Nat → Int) (i9 : Nat → Int) (g9 : Nat → Nat → Int) (i10 : Nat → Int) (g10 : Nat → Nat → Int) (i11 : Nat → Int) (g11 : Nat → Nat → Int) (i12 : Nat → Int) (g12 : Nat → Nat → Int) (i13 : Nat → Int) (g13 : Nat → Nat → Int) (g14 : Nat → Nat → Int) (n15 : Int) (nN : Nat → Int) (gN : Nat → Nat → Nat → Int) (iK : Nat → Nat → Int) (gK : Nat → Nat → Nat → Int) : Prop := (0 ≤ t ∧ t ≤ 6) ∧ (ld = 0 ∨ ld = 1) ∧ (ReaderOk i1) ∧ (NetW n2 g2) ∧ (WantsOk n3) ∧ (NetOk n4 g4) ∧ (NetOk n5 g5) ∧ (NetOk n6 g6) ∧ (WantsOk n7) ∧ (WalkOk i8 g8) ∧ (WalkOk i9 g9) ∧ (WalkOk i10 g10) ∧ (SurveyOk i11) ∧ (WalkOk i12 g12) ∧ (TrailOk i13) ∧ (LeastOk g14) ∧ (0 ≤ n15 ∧ n15 ≤ 4) ∧ (∀ j, j < 4 → NetOk (nN j) (gN j)) ∧ (∀ j, j < 4 → WalkOk (iK j) (gK j)) ∧ (i8 1 ≤ K) ∧ (∀ j, j < 4 → iK j 1 ≤ K)
def lw_M (i : Nat → Int) (a0 : Nat → Int) (a1 : Nat → Int) (a2 : Nat → Int) (a3 : Nat → Int) (a4 : Nat → Int) (a5 : Nat → Int) (a6 : Nat → Int) (a7 : Nat → Int) (a8 : Nat → Int) (a9 : Nat → Int) (a10 : Nat → Int) (a11 : Nat → Int) (a12 : Nat → Int) (a13 : Nat → Int) (a14 : Nat → Int) (a15 : Nat → Int) (a16 : Nat → Int) (a17 : Nat → Int) (a18 : Nat → Int) (a19 : Nat → Int) (a20 : Nat → Int) : Prop := (ModOk i) ∧ (∀ k, k < 900 → (-2147483648) ≤ a0 k ∧ a0 k ≤ 2147483647) ∧ (∀ k, k < 8 → (-2147483648) ≤ a1 k ∧ a1 k ≤ 2147483647) ∧ (∀ k, k < 30 → 0 ≤ a11 k ∧ a11 k ≤ 99) ∧ (∀ k, k < 30 → 0 ≤ a12 k ∧ a12 k ≤ 99) ∧ (∀ k, k < 20 → 0 ≤ a17 k ∧ a17 k ≤ 9) ∧ (∀ k, k < 180 → 0 ≤ a18 k ∧ a18 k ≤ 19) ∧ (ProgOk a3) ∧ (ProgOk a4) ∧ (StOk a3 a13) ∧ (KeptOk a6 a16)
def lw_X (t ld : Int) (i1 : Nat → Int) (g1 : Nat → Nat → Int) (n15 : Int) (i : Nat → Int) (a0 : Nat → Int) : Prop := (TxR a0 (g1 0) ∧ ∀ j, j < 19 → g1 1 j = rsv j) ∧ (i1 1 = i 8 ∧ ld = i 12 ∧ n15 = i 17) ∧ (t = 4 ↔ i 10 = 4) ∧ (t = 4 → i1 2 = i 9)
theorem lw_tx0 {g : Nat → Int} (h : ∀ k : Nat, g k = 0) : TxR (fun _ => 0) g := fun k _ => ⟨(show (0 : Int) ≤ 0 ∧ (0 : Int) ≤ 255 by omega), Or.inl ⟨(show (0 : Int) < 128 by omega), h k⟩⟩
theorem lw_txfeed {f f' : Nat → Int} {g g' : Nat → Nat → Int} {r r' m m' z z' x0 x1 x2 x3 x4 : Int} (h : TxR f (g 0)) (e : r = m) (h1 : (r ≤ 880 ∧ z = r + 20 ∧ r' = r + 20 ∧ g' 0 = put5 (g 0) r x0 x1 x2 x3 x4) ∨ (880 < r ∧ z = -1 ∧ r' = r ∧ g' 0 = g 0)) (h2 : (m ≤ 880 ∧ z' = m + 20 ∧ m' = m + 20 ∧ f' = fed f m x0 x1 x2 x3 x4 20) ∨ (880 < m ∧ z' = -1 ∧ m' = m ∧ f' = f)) : TxR f' (g' 0) := by
  subst e
  rcases h1 with ⟨a1, a2, a3, a4⟩ | ⟨a1, a2, a3, a4⟩ <;> rcases h2 with ⟨b1, b2, b3, b4⟩ | ⟨b1, b2, b3, b4⟩
  · rw [a4, b4]; exact TxR_fed h
  · omega
  · omega
  · rw [a4, b4]; exact h
theorem zer_in {P : Nat → Int} {k : Nat} (hk : k < 200) : zer P 200 k = 0 := by
  unfold zer
  rw [if_pos (by omega)]
/-! THE CLAIM OUT OF ONE WALK OF THE LAW'S BODY -/
def R_law : String := "BurntWaysLaw"
def lw_P (b : Addr) (xs : List Int32) (args : Array Value) (s : State) : Prop := args = #[.ref b] ∧ s.IntsAt b xs ∧ xs.length ≤ 3072 ∧ (Jvm.Cond.and given_1 narrow_1).before args s = true
def lw_Q (_ : Array Value) (s : State) (o : Outcome) (t : State) : Prop := o = .returned (some (.int 1)) ∧ Framed s o t [] 601024 7293034
def lw_Z (below : List Frame) (a : Array Value) (s : State) : State → Prop := fun t => ∃ o, t.status = .running ∧ Ended t below o ∧ lw_Q a s o t
/-- the law's own end, with 1 on the stack, nothing written that was there before, its room as the claim has it -/
theorem lw_ret {p : Program} {l : Launch} {e : Env} {s : State} {m : MethodId} {below : List Frame} {meth : Method} {c : Code} {b : Nat} (hx : p.tables.exec = Jvm.exec) (hb : c.code = code) (hr : meth.sig.returnType = ret) (hlocks : meth.locks = false) {pc : Nat} {H : Heap} {ls : Array Slot} (hdg : decode code pc = .ok (.ireturn, 1)) : W p l e room_1 s m #[Value.ref b] below meth c H [] 601024 7293034 (lw_Z below #[Value.ref b] s) (F0 m pc ls [.int 1]) := by
  intro T hT X
  obtain ⟨fs, hret, hrun, hended, hW, hframe⟩ := X.leave (v := some (.int 1)) (hlocks := hlocks) (fun h => by rw [hr] at h; cases h)
  have hmeth' : T.vm.method? m = some meth := X.method'
  refine ⟨T.setFrames fs, ?_, .returned (some (.int 1)), hrun, hended, rfl, ⟨_, rfl⟩, hW, hframe⟩
  jvm_step X.here [X.here.top, hx, hb, hdg, hmeth', hr, ret, narrow_b1]
  (try refine ⟨rfl, ?_⟩); (try refine ⟨rfl, ?_⟩)
  first | (intro acts; rw [hret _ acts rfl rfl rfl]) | rw [hret _ _ rfl rfl rfl]
  exact Steps.refl _
/-- what holds at the law's entry -/
def lw_At (p : Program) (s : State) (m : MethodId) (meth : Method) (c : Code) (b L : Nat) (xs : Nat → Int32) : Prop :=
  p.tables.exec = Jvm.exec ∧ c.code = code ∧ meth.sig.returnType = ret ∧ c.maxLocals = 7 ∧ s.vm.findClass R_law = some m.cls ∧ (∀ w ∈ lw_tbl, w.before #[Value.ref b] s = true) ∧ va_X b L xs s s.heap ∧ b < s.heap.size ∧ meth.locks = false ∧ (Jvm.Cond.and given_1 narrow_1).before #[Value.ref b] s = true
theorem dL_law_1461 : decode cL_law 1461 = .ok (.iconst 1, 1) := by decide +kernel
theorem dL_law_1462 : decode cL_law 1462 = .ok (.ireturn, 1) := by decide +kernel
theorem lc_exit {p : Program} {l : Launch} {e : Env} {s : State} {m : MethodId} {below : List Frame} {meth : Method} {c : Code} {b : Nat} {xs : Nat → Int32} {L : Nat} (C0 : lw_At p s m meth c b L xs) {H : Heap} {locs : List Loc} {cells slots : Nat} (hS : va_S (fun q : Nat => s.heap.size ≤ q) s.heap H locs) (hc : cells ≤ 601024) (hs : slots ≤ 7293034) {ls : Array Slot} : W p l e room_1 s m #[Value.ref b] below meth c H locs cells slots (lw_Z below #[Value.ref b] s) (F0 m 1461 ls []) := by
  obtain ⟨hx, hb, hr, hml, hown, hts, hX, hbl, hlocks, hgv⟩ := C0
  refine lv_iconst (v := 1) hx hb dL_law_1461 (by decide) ?_
  refine va_forget (fun q hq => hS.2.2 q hq) ?_
  refine W.widen (k := 601024) (n := 7293034) hc hs ?_
  exact lw_ret hx hb hr hlocks dL_law_1462
theorem lw_hf {n a b : Nat} (h : n ≤ 3072) (ha : a ≤ 2) (hb : b ≤ 12) : (163 + n) + a ≤ room_1.cells ∧ (8733 + 6 * n) + b ≤ room_1.slots := ⟨by show _ ≤ 601024; omega, by show _ ≤ 7293034; omega⟩
theorem lw_hf2 {n a b a' b' : Nat} (h : n ≤ 3072) (ha : a ≤ 2) (hb : b ≤ 12) (ha' : a' ≤ 2) (hb' : b' ≤ 12) : (163 + n) + a + a' ≤ room_1.cells ∧ (8733 + 6 * n) + b + b' ≤ room_1.slots := ⟨by show _ ≤ 601024; omega, by show _ ≤ 7293034; omega⟩
theorem lw_cl {n a a' : Nat} (h : a + a' ≤ 1) : 163 + n + a + a' ≤ 164 + n := by omega
theorem lw_sl {n a a' : Nat} (h : a + a' ≤ 6) : 8733 + 6 * n + a + a' ≤ 8739 + 6 * n := by omega
/-- behind a call: any state that keeps what is kept -/
def lw_End (p : Program) (l : Launch) (e : Env) (s : State) (m : MethodId) (below : List Frame) (meth : Method) (c : Code) (b : Nat) (G : va_G) (cI cB cJ cN cW : ClassId) (x y o : Nat) (Q qN qK : Nat → Nat → Nat) (qm : Nat → Nat) (n : Nat) : Prop := ∀ (t : Int) (ld : Int) (i1 : Nat → Int) (g1 : Nat → Nat → Int) (n2 : Int) (g2 : Nat → Nat → Int) (n3 : Int) (g3 : Nat → Nat → Int) (n4 : Int) (g4 : Nat → Nat → Int) (n5 : Int) (g5 : Nat → Nat → Int) (n6 : Int) (g6 : Nat → Nat → Int) (n7 : Int) (g7 : Nat → Nat → Int) (i8 : Nat → Int) (g8 : Nat → Nat → Int) (i9 : Nat → Int) (g9 : Nat → Nat → Int) (i10 : Nat → Int) (g10 : Nat → Nat → Int) (i11 : Nat → Int) (g11 : Nat → Nat → Int) (i12 : Nat → Int) (g12 : Nat → Nat → Int) (i13 : Nat → Int) (g13 : Nat → Nat → Int) (g14 : Nat → Nat → Int) (n15 : Int) (nN : Nat → Int) (gN : Nat → Nat → Nat → Int) (iK : Nat → Nat → Int) (gK : Nat → Nat → Nat → Int) (i : Nat → Int) (a0 : Nat → Int) (a1 : Nat → Int) (a2 : Nat → Int) (a3 : Nat → Int) (a4 : Nat → Int) (a5 : Nat → Int) (a6 : Nat → Int) (a7 : Nat → Int) (a8 : Nat → Int) (a9 : Nat → Int) (a10 : Nat → Int) (a11 : Nat → Int) (a12 : Nat → Int) (a13 : Nat → Int) (a14 : Nat → Int) (a15 : Nat → Int) (a16 : Nat → Int) (a17 : Nat → Int) (a18 : Nat → Int) (a19 : Nat → Int) (a20 : Nat → Int) (go : Nat → Int) (H : Heap) (locs : List Loc) (ls : Array Slot), lw_F (1000 * (n : Int) + 1000) t ld i1 g1 n2 g2 n3 g3 n4 g4 n5 g5 n6 g6 n7 g7 i8 g8 i9 g9 i10 g10 i11 g11 i12 g12 i13 g13 g14 n15 nN gN iK gK → lw_M i a0 a1 a2 a3 a4 a5 a6 a7 a8 a9 a10 a11 a12 a13 a14 a15 a16 a17 a18 a19 a20 → (i1 0 = i 1 ∧ lw_X t ld i1 g1 n15 i a0) → va_P G vwCl (lw_W cI cB cJ cN cW x y o Q qN qK qm t ld i1 g1 n2 g2 n3 g3 n4 g4 n5 g5 n6 g6 n7 g7 i8 g8 i9 g9 i10 g10 i11 g11 i12 g12 i13 g13 g14 n15 nN gN iK gK i a0 a1 a2 a3 a4 a5 a6 a7 a8 a9 a10 a11 a12 a13 a14 a15 a16 a17 a18 a19 a20 go) H → va_D (fun q : Nat => s.heap.size ≤ q) (lw_W cI cB cJ cN cW x y o Q qN qK qm t ld i1 g1 n2 g2 n3 g3 n4 g4 n5 g5 n6 g6 n7 g7 i8 g8 i9 g9 i10 g10 i11 g11 i12 g12 i13 g13 g14 n15 nN gN iK gK i a0 a1 a2 a3 a4 a5 a6 a7 a8 a9 a10 a11 a12 a13 a14 a15 a16 a17 a18 a19 a20 go) → va_S (fun q : Nat => s.heap.size ≤ q) s.heap H locs → lv_has ls 7 [(4, .int (zI (n : Int))), (3, .ref o), (2, .ref y), (1, .ref x), (0, .ref b)] → W p l e room_1 s m #[Value.ref b] below meth c H locs (164 + n) (8739 + 6 * n) (lw_Z below #[Value.ref b] s) (F0 m 1455 ls [])
