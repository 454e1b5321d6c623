set_option maxRecDepth 100000 in
set_option maxHeartbeats 4000000 in
/-- what the Statement gives of the start, in the words of the contracts -/
theorem bw_startX {args : Array Value} {s : State} (hts : ∀ w ∈ lw_tbl, w.before args s = true) (hgv : (Jvm.Cond.and given_1 narrow_1).before args s = true) : ∃ (sa va st : Nat) (fb : Nat → Int32) (sw vw : Nat → Nat) (fw : Nat → Nat → Int32), (fb = fun j => bw_by0.getD j 0) ∧ (fw = fun j k => ([bw_by1, bw_by2, bw_by3, bw_by4, bw_by5, bw_by6, bw_by7, bw_by8, bw_by9, bw_by10, bw_by11, bw_by12, bw_by13, bw_by14, bw_by15].getD j []).getD k 0) ∧ bw_EE sa va st fb sw vw fw (fun q => s.heap.size ≤ q) s := by
  have hs := flat_of_before _ hgv
  have hA : ∀ a : Nat, a < s.heap.size → ¬ (fun q => s.heap.size ≤ q) a := fun a h => Nat.not_le.mpr h
  obtain ⟨ak0, av0, hSt0, hev0⟩ := vk_Sof (args := args) (s := s) (N := 1) (tm := fun _ => .string "BurntWays$Reader" 65) (len := [72]) (byt := [bw_by0]) (A := fun q => s.heap.size ≤ q)
    (fun i hi => by obtain rfl : i = 0 := by omega
                    decide)
    (fun i _ => hs _ (by decide +kernel)) (fun i _ => hs _ (by decide +kernel)) (fun i _ => hs _ (by decide +kernel))
    (fun i hi => by obtain rfl : i = 0 := by omega
                    exact hs _ (by decide +kernel))
    (fun i hi j hj => by obtain rfl : i = 0 := by omega
                         exact hs _ (bw_el0 j hj))
    (fun i j hi hj hn => absurd (by omega) hn) hA
  obtain ⟨ak1, av1, hSt1, hev1⟩ := vk_Sof (args := args) (s := s) (N := 1) (tm := fun _ => .string "BurntWaysModel" 154) (len := [7]) (byt := [bw_by1]) (A := fun q => s.heap.size ≤ q)
    (fun i hi => by obtain rfl : i = 0 := by omega
                    decide)
    (fun i _ => hs _ (by decide +kernel)) (fun i _ => hs _ (by decide +kernel)) (fun i _ => hs _ (by decide +kernel))
    (fun i hi => by obtain rfl : i = 0 := by omega
                    exact hs _ (by decide +kernel))
    (fun i hi j hj => by obtain rfl : i = 0 := by omega
                         exact hs _ (bw_el1 j hj))
    (fun i j hi hj hn => absurd (by omega) hn) hA
  obtain ⟨ak2, av2, hSt2, hev2⟩ := vk_Sof (args := args) (s := s) (N := 1) (tm := fun _ => .string "BurntWaysModel" 156) (len := [4]) (byt := [bw_by2]) (A := fun q => s.heap.size ≤ q)
    (fun i hi => by obtain rfl : i = 0 := by omega
                    decide)
    (fun i _ => hs _ (by decide +kernel)) (fun i _ => hs _ (by decide +kernel)) (fun i _ => hs _ (by decide +kernel))
    (fun i hi => by obtain rfl : i = 0 := by omega
                    exact hs _ (by decide +kernel))
    (fun i hi j hj => by obtain rfl : i = 0 := by omega
                         exact hs _ (bw_el2 j hj))
    (fun i j hi hj hn => absurd (by omega) hn) hA
  obtain ⟨ak3, av3, hSt3, hev3⟩ := vk_Sof (args := args) (s := s) (N := 1) (tm := fun _ => .string "BurntWaysModel" 158) (len := [4]) (byt := [bw_by3]) (A := fun q => s.heap.size ≤ q)
    (fun i hi => by obtain rfl : i = 0 := by omega
                    decide)
    (fun i _ => hs _ (by decide +kernel)) (fun i _ => hs _ (by decide +kernel)) (fun i _ => hs _ (by decide +kernel))
    (fun i hi => by obtain rfl : i = 0 := by omega
                    exact hs _ (by decide +kernel))
    (fun i hi j hj => by obtain rfl : i = 0 := by omega
                         exact hs _ (bw_el3 j hj))
    (fun i j hi hj hn => absurd (by omega) hn) hA
  obtain ⟨ak4, av4, hSt4, hev4⟩ := vk_Sof (args := args) (s := s) (N := 1) (tm := fun _ => .string "BurntWaysModel" 159) (len := [2]) (byt := [bw_by4]) (A := fun q => s.heap.size ≤ q)
    (fun i hi => by obtain rfl : i = 0 := by omega
                    decide)
    (fun i _ => hs _ (by decide +kernel)) (fun i _ => hs _ (by decide +kernel)) (fun i _ => hs _ (by decide +kernel))
    (fun i hi => by obtain rfl : i = 0 := by omega
                    exact hs _ (by decide +kernel))
    (fun i hi j hj => by obtain rfl : i = 0 := by omega
                         exact hs _ (bw_el4 j hj))
    (fun i j hi hj hn => absurd (by omega) hn) hA
  obtain ⟨ak5, av5, hSt5, hev5⟩ := vk_Sof (args := args) (s := s) (N := 1) (tm := fun _ => .string "BurntWaysModel" 161) (len := [2]) (byt := [bw_by5]) (A := fun q => s.heap.size ≤ q)
    (fun i hi => by obtain rfl : i = 0 := by omega
                    decide)
    (fun i _ => hs _ (by decide +kernel)) (fun i _ => hs _ (by decide +kernel)) (fun i _ => hs _ (by decide +kernel))
    (fun i hi => by obtain rfl : i = 0 := by omega
                    exact hs _ (by decide +kernel))
    (fun i hi j hj => by obtain rfl : i = 0 := by omega
                         exact hs _ (bw_el5 j hj))
    (fun i j hi hj hn => absurd (by omega) hn) hA
  obtain ⟨ak6, av6, hSt6, hev6⟩ := vk_Sof (args := args) (s := s) (N := 1) (tm := fun _ => .string "BurntWaysModel" 163) (len := [4]) (byt := [bw_by6]) (A := fun q => s.heap.size ≤ q)
    (fun i hi => by obtain rfl : i = 0 := by omega
                    decide)
    (fun i _ => hs _ (by decide +kernel)) (fun i _ => hs _ (by decide +kernel)) (fun i _ => hs _ (by decide +kernel))
    (fun i hi => by obtain rfl : i = 0 := by omega
                    exact hs _ (by decide +kernel))
    (fun i hi j hj => by obtain rfl : i = 0 := by omega
                         exact hs _ (bw_el6 j hj))
    (fun i j hi hj hn => absurd (by omega) hn) hA
  obtain ⟨ak7, av7, hSt7, hev7⟩ := vk_Sof (args := args) (s := s) (N := 1) (tm := fun _ => .string "BurntWaysModel" 165) (len := [3]) (byt := [bw_by7]) (A := fun q => s.heap.size ≤ q)
    (fun i hi => by obtain rfl : i = 0 := by omega
                    decide)
    (fun i _ => hs _ (by decide +kernel)) (fun i _ => hs _ (by decide +kernel)) (fun i _ => hs _ (by decide +kernel))
    (fun i hi => by obtain rfl : i = 0 := by omega
                    exact hs _ (by decide +kernel))
    (fun i hi j hj => by obtain rfl : i = 0 := by omega
                         exact hs _ (bw_el7 j hj))
    (fun i j hi hj hn => absurd (by omega) hn) hA
  obtain ⟨ak8, av8, hSt8, hev8⟩ := vk_Sof (args := args) (s := s) (N := 1) (tm := fun _ => .string "BurntWaysModel" 167) (len := [4]) (byt := [bw_by8]) (A := fun q => s.heap.size ≤ q)
    (fun i hi => by obtain rfl : i = 0 := by omega
                    decide)
    (fun i _ => hs _ (by decide +kernel)) (fun i _ => hs _ (by decide +kernel)) (fun i _ => hs _ (by decide +kernel))
    (fun i hi => by obtain rfl : i = 0 := by omega
                    exact hs _ (by decide +kernel))
    (fun i hi j hj => by obtain rfl : i = 0 := by omega
                         exact hs _ (bw_el8 j hj))
    (fun i j hi hj hn => absurd (by omega) hn) hA
  obtain ⟨ak9, av9, hSt9, hev9⟩ := vk_Sof (args := args) (s := s) (N := 1) (tm := fun _ => .string "BurntWaysModel" 169) (len := [4]) (byt := [bw_by9]) (A := fun q => s.heap.size ≤ q)
    (fun i hi => by obtain rfl : i = 0 := by omega
                    decide)
    (fun i _ => hs _ (by decide +kernel)) (fun i _ => hs _ (by decide +kernel)) (fun i _ => hs _ (by decide +kernel))
    (fun i hi => by obtain rfl : i = 0 := by omega
                    exact hs _ (by decide +kernel))
    (fun i hi j hj => by obtain rfl : i = 0 := by omega
                         exact hs _ (bw_el9 j hj))
    (fun i j hi hj hn => absurd (by omega) hn) hA
  obtain ⟨ak10, av10, hSt10, hev10⟩ := vk_Sof (args := args) (s := s) (N := 1) (tm := fun _ => .string "BurntWaysModel" 171) (len := [3]) (byt := [bw_by10]) (A := fun q => s.heap.size ≤ q)
    (fun i hi => by obtain rfl : i = 0 := by omega
                    decide)
    (fun i _ => hs _ (by decide +kernel)) (fun i _ => hs _ (by decide +kernel)) (fun i _ => hs _ (by decide +kernel))
    (fun i hi => by obtain rfl : i = 0 := by omega
                    exact hs _ (by decide +kernel))
    (fun i hi j hj => by obtain rfl : i = 0 := by omega
                         exact hs _ (bw_el10 j hj))
    (fun i j hi hj hn => absurd (by omega) hn) hA
  obtain ⟨ak11, av11, hSt11, hev11⟩ := vk_Sof (args := args) (s := s) (N := 1) (tm := fun _ => .string "BurntWaysModel" 172) (len := [2]) (byt := [bw_by11]) (A := fun q => s.heap.size ≤ q)
    (fun i hi => by obtain rfl : i = 0 := by omega
                    decide)
    (fun i _ => hs _ (by decide +kernel)) (fun i _ => hs _ (by decide +kernel)) (fun i _ => hs _ (by decide +kernel))
    (fun i hi => by obtain rfl : i = 0 := by omega
                    exact hs _ (by decide +kernel))
    (fun i hi j hj => by obtain rfl : i = 0 := by omega
                         exact hs _ (bw_el11 j hj))
    (fun i j hi hj hn => absurd (by omega) hn) hA
  obtain ⟨ak12, av12, hSt12, hev12⟩ := vk_Sof (args := args) (s := s) (N := 1) (tm := fun _ => .string "BurntWaysModel" 174) (len := [2]) (byt := [bw_by12]) (A := fun q => s.heap.size ≤ q)
    (fun i hi => by obtain rfl : i = 0 := by omega
                    decide)
    (fun i _ => hs _ (by decide +kernel)) (fun i _ => hs _ (by decide +kernel)) (fun i _ => hs _ (by decide +kernel))
    (fun i hi => by obtain rfl : i = 0 := by omega
                    exact hs _ (by decide +kernel))
    (fun i hi j hj => by obtain rfl : i = 0 := by omega
                         exact hs _ (bw_el12 j hj))
    (fun i j hi hj hn => absurd (by omega) hn) hA
  obtain ⟨ak13, av13, hSt13, hev13⟩ := vk_Sof (args := args) (s := s) (N := 1) (tm := fun _ => .string "BurntWaysModel" 176) (len := [2]) (byt := [bw_by13]) (A := fun q => s.heap.size ≤ q)
    (fun i hi => by obtain rfl : i = 0 := by omega
                    decide)
    (fun i _ => hs _ (by decide +kernel)) (fun i _ => hs _ (by decide +kernel)) (fun i _ => hs _ (by decide +kernel))
    (fun i hi => by obtain rfl : i = 0 := by omega
                    exact hs _ (by decide +kernel))
    (fun i hi j hj => by obtain rfl : i = 0 := by omega
                         exact hs _ (bw_el13 j hj))
    (fun i j hi hj hn => absurd (by omega) hn) hA
  obtain ⟨ak14, av14, hSt14, hev14⟩ := vk_Sof (args := args) (s := s) (N := 1) (tm := fun _ => .string "BurntWaysModel" 178) (len := [4]) (byt := [bw_by14]) (A := fun q => s.heap.size ≤ q)
    (fun i hi => by obtain rfl : i = 0 := by omega
                    decide)
    (fun i _ => hs _ (by decide +kernel)) (fun i _ => hs _ (by decide +kernel)) (fun i _ => hs _ (by decide +kernel))
    (fun i hi => by obtain rfl : i = 0 := by omega
                    exact hs _ (by decide +kernel))
    (fun i hi j hj => by obtain rfl : i = 0 := by omega
                         exact hs _ (bw_el14 j hj))
    (fun i j hi hj hn => absurd (by omega) hn) hA
  obtain ⟨ak15, av15, hSt15, hev15⟩ := vk_Sof (args := args) (s := s) (N := 1) (tm := fun _ => .string "BurntWaysModel" 180) (len := [2]) (byt := [bw_by15]) (A := fun q => s.heap.size ≤ q)
    (fun i hi => by obtain rfl : i = 0 := by omega
                    decide)
    (fun i _ => hs _ (by decide +kernel)) (fun i _ => hs _ (by decide +kernel)) (fun i _ => hs _ (by decide +kernel))
    (fun i hi => by obtain rfl : i = 0 := by omega
                    exact hs _ (by decide +kernel))
    (fun i hi j hj => by obtain rfl : i = 0 := by omega
                         exact hs _ (bw_el15 j hj))
    (fun i j hi hj hn => absurd (by omega) hn) hA
  obtain ⟨st, hst⟩ := bw_strR (own := RX8) (k := 307) (tx := "no such line is told") (hts _ (List.mem_of_getElem? (i := 1131) (by decide +kernel))) (hs _ (by decide +kernel))
  refine ⟨ak0 0, av0 0, st, fun j => bw_by0.getD j 0, fun j => [ak1 0, ak2 0, ak3 0, ak4 0, ak5 0, ak6 0, ak7 0, ak8 0, ak9 0, ak10 0, ak11 0, ak12 0, ak13 0, ak14 0, ak15 0].getD j 0, fun j => [av1 0, av2 0, av3 0, av4 0, av5 0, av6 0, av7 0, av8 0, av9 0, av10 0, av11 0, av12 0, av13 0, av14 0, av15 0].getD j 0, fun j k => ([bw_by1, bw_by2, bw_by3, bw_by4, bw_by5, bw_by6, bw_by7, bw_by8, bw_by9, bw_by10, bw_by11, bw_by12, bw_by13, bw_by14, bw_by15].getD j []).getD k 0, rfl, rfl, ⟨va_Nw.of rfl (hts _ (List.mem_of_getElem? (i := 197) (by decide +kernel))), va_Nw.of rfl (hts _ (List.mem_of_getElem? (i := 313) (by decide +kernel))), va_Nw.of rfl (hts _ (List.mem_of_getElem? (i := 316) (by decide +kernel))), va_Nw.of rfl (hts _ (List.mem_of_getElem? (i := 364) (by decide +kernel))), va_Nw.of rfl (hts _ (List.mem_of_getElem? (i := 369) (by decide +kernel))), va_Nw.of rfl (hts _ (List.mem_of_getElem? (i := 422) (by decide +kernel))), va_Nw.of rfl (hts _ (List.mem_of_getElem? (i := 444) (by decide +kernel))), va_Nw.of rfl (hts _ (List.mem_of_getElem? (i := 481) (by decide +kernel))), va_AO.of (hts _ (List.mem_of_getElem? (i := 477) (by decide +kernel))), va_AO.of (hts _ (List.mem_of_getElem? (i := 479) (by decide +kernel)))⟩, ⟨vk_R.of (hts _ (List.mem_of_getElem? (i := 211) (by decide +kernel))) (hev0 0 (by decide)), hSt0.1 0 (by decide), ?_, ?_⟩, ⟨⟨vk_R.of (hts _ (List.mem_of_getElem? (i := 1325) (by decide +kernel))) (hev1 0 (by decide)), hSt1.1 0 (by decide)⟩, ⟨vk_R.of (hts _ (List.mem_of_getElem? (i := 1348) (by decide +kernel))) (hev2 0 (by decide)), hSt2.1 0 (by decide)⟩, ⟨vk_R.of (hts _ (List.mem_of_getElem? (i := 1349) (by decide +kernel))) (hev3 0 (by decide)), hSt3.1 0 (by decide)⟩, ⟨vk_R.of (hts _ (List.mem_of_getElem? (i := 1350) (by decide +kernel))) (hev4 0 (by decide)), hSt4.1 0 (by decide)⟩, ⟨vk_R.of (hts _ (List.mem_of_getElem? (i := 1351) (by decide +kernel))) (hev5 0 (by decide)), hSt5.1 0 (by decide)⟩, ⟨vk_R.of (hts _ (List.mem_of_getElem? (i := 1352) (by decide +kernel))) (hev6 0 (by decide)), hSt6.1 0 (by decide)⟩, ⟨vk_R.of (hts _ (List.mem_of_getElem? (i := 1353) (by decide +kernel))) (hev7 0 (by decide)), hSt7.1 0 (by decide)⟩, ⟨vk_R.of (hts _ (List.mem_of_getElem? (i := 1354) (by decide +kernel))) (hev8 0 (by decide)), hSt8.1 0 (by decide)⟩, ⟨vk_R.of (hts _ (List.mem_of_getElem? (i := 1355) (by decide +kernel))) (hev9 0 (by decide)), hSt9.1 0 (by decide)⟩, ⟨vk_R.of (hts _ (List.mem_of_getElem? (i := 1356) (by decide +kernel))) (hev10 0 (by decide)), hSt10.1 0 (by decide)⟩, ⟨vk_R.of (hts _ (List.mem_of_getElem? (i := 1357) (by decide +kernel))) (hev11 0 (by decide)), hSt11.1 0 (by decide)⟩, ⟨vk_R.of (hts _ (List.mem_of_getElem? (i := 1358) (by decide +kernel))) (hev12 0 (by decide)), hSt12.1 0 (by decide)⟩, ⟨vk_R.of (hts _ (List.mem_of_getElem? (i := 1359) (by decide +kernel))) (hev13 0 (by decide)), hSt13.1 0 (by decide)⟩, ⟨vk_R.of (hts _ (List.mem_of_getElem? (i := 1360) (by decide +kernel))) (hev14 0 (by decide)), hSt14.1 0 (by decide)⟩, ⟨vk_R.of (hts _ (List.mem_of_getElem? (i := 1361) (by decide +kernel))) (hev15 0 (by decide)), hSt15.1 0 (by decide)⟩⟩, hst, ?_, ?_, ?_⟩
  · exact va_Zof (hts _ (List.mem_of_getElem? (i := 221) (by decide +kernel))) (hts _ (List.mem_of_getElem? (i := 98) (by decide +kernel))) (va_eqt (hs _ (by decide +kernel))) hA
  · exact va_Zqof (hts _ (List.mem_of_getElem? (i := 237) (by decide +kernel))) (hts _ (List.mem_of_getElem? (i := 100) (by decide +kernel))) (hs _ (by decide +kernel)) hA
  · exact vx_Zqof (hts _ (List.mem_of_getElem? (i := 1119) (by decide +kernel))) (hts _ (List.mem_of_getElem? (i := 111) (by decide +kernel))) (hs _ (by decide +kernel)) hA
  · exact vx_Zqof (hts _ (List.mem_of_getElem? (i := 1121) (by decide +kernel))) (hts _ (List.mem_of_getElem? (i := 111) (by decide +kernel))) (hs _ (by decide +kernel)) hA
  · exact fun w hw => va_Nw.of (bw_B_face w hw).1 (hts w (bw_B_in w hw))
theorem bw_fb0 : ∀ k, k < 72 → bw_by0.getD k 0 = zI (rsT k) := by decide +kernel
theorem bw_fw0 : ∀ j, j < 15 → ∀ k, k < wlen j → ([bw_by1, bw_by2, bw_by3, bw_by4, bw_by5, bw_by6, bw_by7, bw_by8, bw_by9, bw_by10, bw_by11, bw_by12, bw_by13, bw_by14, bw_by15].getD j []).getD k 0 = zI (wch j k) := by decide +kernel
