section ZAS
variable {p : Program} {l : Launch} {e : Env} {R : Room} {s : State} {m : MethodId} {args : Array Value} {below : List Frame} {meth : Method} {c : Code} {H : Heap} {locs : List Loc} {cells slots : Nat} {Q : State → Prop}
variable {cc : ByteArray} {nL : Nat} {own : String} {G : va_G} {kt : List (ClassId × FieldType)} {w0 : va_W} {A : Nat → Prop} {rest : List Value} {a : Addr} {pc : Nat} {ls : Array Slot}
theorem rz_aast (F : CallFix p m c cc nL s args bw_T own) (hK : va_K G vwCl kt s) (hP : va_P G vwCl w0 H) (hD : va_D A w0) (hS : va_S A s.heap H locs) (q0 t0 qk ci : Nat) {cA : ClassId} {r : vw_C} {n v : Nat} {vs : List Value} {f : Nat → Option Nat} (ha : w0[q0]? = some (a, .inl (cA, n, .inr (.inr (.inr (.inr f)))))) (ht : kt[t0]? = some (cA, .object r.1)) (hv : w0[qk]? = some (v, .inr (ci, vs))) (hc : vwCl[ci]? = some r) {i : Int} (hi : 0 ≤ i ∧ i < (n : Int)) (hn : n < 2147483648) (hdg : decode cc pc = .ok (.aastore, 1)) {w1 : va_W} (hw : w0.set q0 (a, .inl (cA, n, .inr (.inr (.inr (.inr (va_up f i.toNat (some v))))))) = w1)
    (kk : ∀ (H1 : Heap) (locs1 : List Loc), va_P G vwCl w1 H1 → va_D A w1 → va_S A s.heap H1 locs1 → W p l e R s m args below meth c H1 locs1 cells slots Q (F0 m (pc + 1) ls rest)) : W p l e R s m args below meth c H locs cells slots Q (F0 m pc ls (.ref v :: .int (zI i) :: .ref a :: rest)) := by
  refine va_astq F.1 F.2.1 hK hP hD hS q0 t0 qk ci ha ht hv hc (zI_in hi hn) hdg (fun H1 locs1 hP1 hD1 hS1 => ?_)
  rw [zI_clamp ⟨by omega, by omega⟩, hw] at hP1 hD1
  exact kk H1 locs1 hP1 hD1 hS1
end ZAS
theorem re_A {G : va_G} {A : Nat → Prop} {w0 w1 : va_W} {H : Heap} {a : Nat} {cA : ClassId} {n : Nat} {f f' : Nat → Option Nat} (hP : va_P G vwCl w0 H) (hD : va_D A w0) (q0 : Nat) (ha : w0[q0]? = some (a, .inl (cA, n, .inr (.inr (.inr (.inr f)))))) (h : ∀ j, j < n → f' j = f j) (hw : w0.set q0 (a, .inl (cA, n, .inr (.inr (.inr (.inr f'))))) = w1) : va_P G vwCl w1 H ∧ va_D A w1 := by
  subst hw
  refine ⟨va_P.set hP hD ha ?_ (fun _ _ => rfl), va_D.set hD ha⟩
  have q : H[a]? = some (arrV cA n (fun j => va_rf (f j))) := hP q0 _ ha
  have e : arrV cA n (fun j => va_rf (f j)) = arrV cA n (fun j => va_rf (f' j)) := by
    unfold arrV
    congr 1
    congr 1
    funext j
    show va_rf (f j.val) = va_rf (f' j.val)
    rw [h j.val j.isLt]
  show H[a]? = some (arrV cA n (fun j => va_rf (f' j)))
  rw [q, e]
theorem SurveyOk.new : SurveyOk (fun k => [-1, 0, 0, 0, -2, -1, 0, 0].getD k 0) := by
  refine ⟨?_, ?_⟩
  · show (-1 : Int) ≤ -1 ∧ (-1 : Int) ≤ 3
    omega
  · show (0 : Int) ≤ 0 ∧ (0 : Int) ≤ 256
    omega
theorem dX4_init_0 : decode cX4_init 0 = .ok (.aload_n 0, 1) := bo_42 (by decide +kernel)
theorem dX4_init_1 : decode cX4_init 1 = .ok (.invokespecial 3, 3) := bo_183 0 3 (by decide +kernel)
theorem k_367 : Cond.methodLink RX4 3 Lib.objectInit ∈ bw_T := bw_m 367 (by decide +kernel) rfl
theorem dX4_init_4 : decode cX4_init 4 = .ok (.aload_n 0, 1) := bo_42 (by decide +kernel)
theorem dX4_init_5 : decode cX4_init 5 = .ok (.iconst (-1), 1) := bo_2 (by decide +kernel)
theorem dX4_init_6 : decode cX4_init 6 = .ok (.putfield 9, 3) := bo_181 0 9 (by decide +kernel)
theorem dX4_init_9 : decode cX4_init 9 = .ok (.aload_n 0, 1) := bo_42 (by decide +kernel)
theorem dX4_init_10 : decode cX4_init 10 = .ok (.iconst 0, 1) := bo_3 (by decide +kernel)
theorem dX4_init_11 : decode cX4_init 11 = .ok (.putfield 15, 3) := bo_181 0 15 (by decide +kernel)
theorem dX4_init_14 : decode cX4_init 14 = .ok (.aload_n 0, 1) := bo_42 (by decide +kernel)
theorem dX4_init_15 : decode cX4_init 15 = .ok (.iconst 0, 1) := bo_3 (by decide +kernel)
theorem dX4_init_16 : decode cX4_init 16 = .ok (.putfield 18, 3) := bo_181 0 18 (by decide +kernel)
theorem dX4_init_19 : decode cX4_init 19 = .ok (.aload_n 0, 1) := bo_42 (by decide +kernel)
theorem dX4_init_20 : decode cX4_init 20 = .ok (.iconst 0, 1) := bo_3 (by decide +kernel)
theorem dX4_init_21 : decode cX4_init 21 = .ok (.putfield 21, 3) := bo_181 0 21 (by decide +kernel)
theorem dX4_init_24 : decode cX4_init 24 = .ok (.aload_n 0, 1) := bo_42 (by decide +kernel)
theorem dX4_init_25 : decode cX4_init 25 = .ok (.bipush (-2), 2) := bo_16 254 (by decide +kernel)
theorem dX4_init_27 : decode cX4_init 27 = .ok (.putfield 24, 3) := bo_181 0 24 (by decide +kernel)
theorem dX4_init_30 : decode cX4_init 30 = .ok (.aload_n 0, 1) := bo_42 (by decide +kernel)
theorem dX4_init_31 : decode cX4_init 31 = .ok (.iconst (-1), 1) := bo_2 (by decide +kernel)
theorem dX4_init_32 : decode cX4_init 32 = .ok (.putfield 27, 3) := bo_181 0 27 (by decide +kernel)
theorem dX4_init_35 : decode cX4_init 35 = .ok (.aload_n 0, 1) := bo_42 (by decide +kernel)
theorem dX4_init_36 : decode cX4_init 36 = .ok (.iconst 0, 1) := bo_3 (by decide +kernel)
theorem dX4_init_37 : decode cX4_init 37 = .ok (.putfield 30, 3) := bo_181 0 30 (by decide +kernel)
theorem dX4_init_40 : decode cX4_init 40 = .ok (.aload_n 0, 1) := bo_42 (by decide +kernel)
theorem dX4_init_41 : decode cX4_init 41 = .ok (.iconst 0, 1) := bo_3 (by decide +kernel)
theorem dX4_init_42 : decode cX4_init 42 = .ok (.putfield 33, 3) := bo_181 0 33 (by decide +kernel)
theorem dX4_init_45 : decode cX4_init 45 = .ok (.aload_n 0, 1) := bo_42 (by decide +kernel)
theorem dX4_init_46 : decode cX4_init 46 = .ok (.iconst 4, 1) := bo_7 (by decide +kernel)
theorem dX4_init_47 : decode cX4_init 47 = .ok (.newarray .int, 2) := by decide +kernel
theorem dX4_init_49 : decode cX4_init 49 = .ok (.putfield 36, 3) := bo_181 0 36 (by decide +kernel)
theorem dX4_init_52 : decode cX4_init 52 = .ok (.aload_n 0, 1) := bo_42 (by decide +kernel)
theorem dX4_init_53 : decode cX4_init 53 = .ok (.bipush 10, 2) := bo_16 10 (by decide +kernel)
theorem dX4_init_55 : decode cX4_init 55 = .ok (.newarray .int, 2) := by decide +kernel
theorem dX4_init_57 : decode cX4_init 57 = .ok (.putfield 40, 3) := bo_181 0 40 (by decide +kernel)
theorem dX4_init_60 : decode cX4_init 60 = .ok (.aload_n 0, 1) := bo_42 (by decide +kernel)
theorem dX4_init_61 : decode cX4_init 61 = .ok (.bipush 20, 2) := bo_16 20 (by decide +kernel)
theorem dX4_init_63 : decode cX4_init 63 = .ok (.newarray .int, 2) := by decide +kernel
theorem dX4_init_65 : decode cX4_init 65 = .ok (.putfield 43, 3) := bo_181 0 43 (by decide +kernel)
theorem dX4_init_68 : decode cX4_init 68 = .ok (.aload_n 0, 1) := bo_42 (by decide +kernel)
theorem dX4_init_69 : decode cX4_init 69 = .ok (.sipush 256, 3) := bo_17 1 0 (by decide +kernel)
theorem dX4_init_72 : decode cX4_init 72 = .ok (.newarray .int, 2) := by decide +kernel
theorem dX4_init_74 : decode cX4_init 74 = .ok (.putfield 46, 3) := bo_181 0 46 (by decide +kernel)
theorem dX4_init_77 : decode cX4_init 77 = .ok (.aload_n 0, 1) := bo_42 (by decide +kernel)
theorem dX4_init_78 : decode cX4_init 78 = .ok (.new 49, 3) := bo_187 0 49 (by decide +kernel)
theorem k_368 : Cond.classLink RX4 49 RX6 ∈ bw_T := bw_m 368 (by decide +kernel) rfl
theorem k_315 : Cond.instantiable RX6 10 ∈ bw_T := bw_m 315 (by decide +kernel) rfl
theorem k_102 : Cond.initialized RX6 ∈ bw_T := bw_m 102 (by decide +kernel) rfl
theorem dX4_init_81 : decode cX4_init 81 = .ok (.dup, 1) := bo_89 (by decide +kernel)
theorem dX4_init_82 : decode cX4_init 82 = .ok (.invokespecial 51, 3) := bo_183 0 51 (by decide +kernel)
theorem ki_X6_init : bw_KI RX6 yX6_init (Cond.code yX6_init cX6_init 1 none) := ⟨bw_m 317 (by decide +kernel) rfl, bw_m 102 (by decide +kernel) rfl, bw_m 318 (by decide +kernel) rfl⟩
theorem dX4_init_85 : decode cX4_init 85 = .ok (.putfield 52, 3) := bo_181 0 52 (by decide +kernel)
theorem dX4_init_88 : decode cX4_init 88 = .ok (.return_, 1) := bo_177 (by decide +kernel)
abbrev rm_X4_init : Room := { frames := 2, cells := 9, slots := 444, locals := 32 }
set_option maxRecDepth 100000 in
set_option maxHeartbeats 8000000 in
theorem c_X4_init {l : Launch} {E : (Nat → Prop) → State → Prop} (hO : bw_Ok E) {G : va_G} {cI cB cJ cN cW : ClassId} (hNs : bw_Nests E) (b : Nat) : bw_Cv (S := zV) l yX4_init (bw_ws (Cond.code yX4_init cX4_init 1 none)) rm_X4_init E G (bw_kt cI cB cJ cN cW) [.ref b] [(b, .inr (4, [.int (zI 0), .int (zI 0), .int (zI 0), .int (zI 0), .int (zI 0), .int (zI 0), .int (zI 0), .int (zI 0), .null, .null, .null, .null, .null]))] (fun _ => True) (fun u => [(b, .inr (4, [.int (zI ((fun k => [-1, 0, 0, 0, -2, -1, 0, 0].getD k 0) 0)), .int (zI ((fun k => [-1, 0, 0, 0, -2, -1, 0, 0].getD k 0) 1)), .int (zI ((fun k => [-1, 0, 0, 0, -2, -1, 0, 0].getD k 0) 2)), .int (zI ((fun k => [-1, 0, 0, 0, -2, -1, 0, 0].getD k 0) 3)), .int (zI ((fun k => [-1, 0, 0, 0, -2, -1, 0, 0].getD k 0) 4)), .int (zI ((fun k => [-1, 0, 0, 0, -2, -1, 0, 0].getD k 0) 5)), .int (zI ((fun k => [-1, 0, 0, 0, -2, -1, 0, 0].getD k 0) 6)), .int (zI ((fun k => [-1, 0, 0, 0, -2, -1, 0, 0].getD k 0) 7)), .ref ((aU (u 0) 0) 0), .ref ((aU (u 0) 0) 1), .ref ((aU (u 0) 0) 2), .ref ((aU (u 0) 0) 3), .ref ((aU (u 0) 0) 4)])), (((aU (u 0) 0) 0), .inl (cI, 4, .inl (fun k => zI (((fun _ _ => 0) 0) k)))), (((aU (u 0) 0) 1), .inl (cI, 10, .inl (fun k => zI (((fun _ _ => 0) 1) k)))), (((aU (u 0) 0) 2), .inl (cI, 20, .inl (fun k => zI (((fun _ _ => 0) 2) k)))), (((aU (u 0) 0) 3), .inl (cI, 256, .inl (fun k => zI (((fun _ _ => 0) 3) k)))), (((aU (u 0) 0) 4), .inr (6, [.int (zI ((fun _ => 0) 0)), .int (zI ((fun _ => 0) 1)), .int (zI ((fun _ => 0) 2)), .int (zI ((fun _ => 0) 3)), .int (zI ((fun _ => 0) 4)), .ref ((aU (u 1) 0) 0), .ref ((aU (u 1) 0) 1), .ref ((aU (u 1) 0) 2), .long (zL ((fun _ => 0) 5)), .ref ((aU (u 1) 0) 3)])), (((aU (u 1) 0) 0), .inl (cI, 4, .inl (fun k => zI (((fun _ _ => 0) 0) k)))), (((aU (u 1) 0) 1), .inl (cI, 20, .inl (fun k => zI (((fun _ _ => 0) 1) k)))), (((aU (u 1) 0) 2), .inl (cI, 20, .inl (fun k => zI (((fun _ _ => 0) 2) k)))), (((aU (u 1) 0) 3), .inl (cI, 100, .inl (fun k => zI (((fun _ _ => 0) 3) k))))]) := by
  refine bw_Cv.of (cc := cX4_init) (maxL := 1) (by decide) rfl (Nat.le_of_ble_eq_true rfl) ?_
  intro p e s m below meth c A Q hx hb hml hts hown hin hK hA hS hP hD hE ret ls hl
  have F : CallFix p m c cX4_init 1 s ([.ref b] : List Value).toArray bw_T RX4 := ⟨hx, hb, hml, hown, fun w h => hts w (List.mem_cons_of_mem _ h)⟩
  replace hl : lv_has ls 1 [(0, .ref b)] := hl
  refine lv_aload_n hx hb dX4_init_0 rfl (lv_at hl 0 rfl) ?_
  refine r_objInit F k_367 k_oi k_oc hl.1 dX4_init_1 (Nat.le_of_ble_eq_true rfl) (Nat.le_of_ble_eq_true rfl) ?_
  refine lv_aload_n hx hb dX4_init_4 rfl (lv_at hl 0 rfl) ?_
  refine lv_iconst (v := zI (-1)) hx hb dX4_init_5 rfl ?_
  refine r_put F hK hP hD hS 0 0 rfl rfl in_X4 tyX4 tyX4_ok nmX4 (by decide) k_370 rfl rfl rfl (Nat.le_of_ble_eq_true rfl) dX4_init_6 (w1 := [(b, .inr (4, [.int (zI (-1)), .int (zI 0), .int (zI 0), .int (zI 0), .int (zI 0), .int (zI 0), .int (zI 0), .int (zI 0), .null, .null, .null, .null, .null]))]) rfl (fun H locs hP hD hS => ?_)
  refine lv_aload_n hx hb dX4_init_9 rfl (lv_at hl 0 rfl) ?_
  refine lv_iconst (v := zI 0) hx hb dX4_init_10 rfl ?_
  refine r_put F hK hP hD hS 0 1 rfl rfl in_X4 tyX4 tyX4_ok nmX4 (by decide) k_372 rfl rfl rfl (Nat.le_of_ble_eq_true rfl) dX4_init_11 (w1 := [(b, .inr (4, [.int (zI (-1)), .int (zI 0), .int (zI 0), .int (zI 0), .int (zI 0), .int (zI 0), .int (zI 0), .int (zI 0), .null, .null, .null, .null, .null]))]) rfl (fun H locs hP hD hS => ?_)
  refine lv_aload_n hx hb dX4_init_14 rfl (lv_at hl 0 rfl) ?_
  refine lv_iconst (v := zI 0) hx hb dX4_init_15 rfl ?_
  refine r_put F hK hP hD hS 0 2 rfl rfl in_X4 tyX4 tyX4_ok nmX4 (by decide) k_373 rfl rfl rfl (Nat.le_of_ble_eq_true rfl) dX4_init_16 (w1 := [(b, .inr (4, [.int (zI (-1)), .int (zI 0), .int (zI 0), .int (zI 0), .int (zI 0), .int (zI 0), .int (zI 0), .int (zI 0), .null, .null, .null, .null, .null]))]) rfl (fun H locs hP hD hS => ?_)
  refine lv_aload_n hx hb dX4_init_19 rfl (lv_at hl 0 rfl) ?_
  refine lv_iconst (v := zI 0) hx hb dX4_init_20 rfl ?_
  refine r_put F hK hP hD hS 0 3 rfl rfl in_X4 tyX4 tyX4_ok nmX4 (by decide) k_375 rfl rfl rfl (Nat.le_of_ble_eq_true rfl) dX4_init_21 (w1 := [(b, .inr (4, [.int (zI (-1)), .int (zI 0), .int (zI 0), .int (zI 0), .int (zI 0), .int (zI 0), .int (zI 0), .int (zI 0), .null, .null, .null, .null, .null]))]) rfl (fun H locs hP hD hS => ?_)
  refine lv_aload_n hx hb dX4_init_24 rfl (lv_at hl 0 rfl) ?_
  refine lv_bipush (v := zI (-2)) hx hb dX4_init_25 (by decide) ?_
  refine r_put F hK hP hD hS 0 4 rfl rfl in_X4 tyX4 tyX4_ok nmX4 (by decide) k_377 rfl rfl rfl (Nat.le_of_ble_eq_true rfl) dX4_init_27 (w1 := [(b, .inr (4, [.int (zI (-1)), .int (zI 0), .int (zI 0), .int (zI 0), .int (zI (-2)), .int (zI 0), .int (zI 0), .int (zI 0), .null, .null, .null, .null, .null]))]) rfl (fun H locs hP hD hS => ?_)
  refine lv_aload_n hx hb dX4_init_30 rfl (lv_at hl 0 rfl) ?_
  refine lv_iconst (v := zI (-1)) hx hb dX4_init_31 rfl ?_
  refine r_put F hK hP hD hS 0 5 rfl rfl in_X4 tyX4 tyX4_ok nmX4 (by decide) k_379 rfl rfl rfl (Nat.le_of_ble_eq_true rfl) dX4_init_32 (w1 := [(b, .inr (4, [.int (zI (-1)), .int (zI 0), .int (zI 0), .int (zI 0), .int (zI (-2)), .int (zI (-1)), .int (zI 0), .int (zI 0), .null, .null, .null, .null, .null]))]) rfl (fun H locs hP hD hS => ?_)
  refine lv_aload_n hx hb dX4_init_35 rfl (lv_at hl 0 rfl) ?_
  refine lv_iconst (v := zI 0) hx hb dX4_init_36 rfl ?_
  refine r_put F hK hP hD hS 0 6 rfl rfl in_X4 tyX4 tyX4_ok nmX4 (by decide) k_381 rfl rfl rfl (Nat.le_of_ble_eq_true rfl) dX4_init_37 (w1 := [(b, .inr (4, [.int (zI (-1)), .int (zI 0), .int (zI 0), .int (zI 0), .int (zI (-2)), .int (zI (-1)), .int (zI 0), .int (zI 0), .null, .null, .null, .null, .null]))]) rfl (fun H locs hP hD hS => ?_)
  refine lv_aload_n hx hb dX4_init_40 rfl (lv_at hl 0 rfl) ?_
  refine lv_iconst (v := zI 0) hx hb dX4_init_41 rfl ?_
  refine r_put F hK hP hD hS 0 7 rfl rfl in_X4 tyX4 tyX4_ok nmX4 (by decide) k_383 rfl rfl rfl (Nat.le_of_ble_eq_true rfl) dX4_init_42 (w1 := [(b, .inr (4, [.int (zI (-1)), .int (zI 0), .int (zI 0), .int (zI 0), .int (zI (-2)), .int (zI (-1)), .int (zI 0), .int (zI 0), .null, .null, .null, .null, .null]))]) rfl (fun H locs hP hD hS => ?_)
  refine lv_aload_n hx hb dX4_init_45 rfl (lv_at hl 0 rfl) ?_
  refine lv_iconst (v := zI 4) hx hb dX4_init_46 rfl ?_
  refine r_newa (atype := .int) (ty := .int) F rfl k_194 hK hP hD hS hA 0 rfl 4 (4, .inl (fun _ => 0)) (bw_cI 4) (by decide) (by decide) (bw_by (k := 4) rfl (by omega)) (Nat.le_of_ble_eq_true rfl) (Nat.le_of_ble_eq_true rfl) dX4_init_47 (w1 := fun q1 => [(b, .inr (4, [.int (zI (-1)), .int (zI 0), .int (zI 0), .int (zI 0), .int (zI (-2)), .int (zI (-1)), .int (zI 0), .int (zI 0), .null, .null, .null, .null, .null])), (q1, .inl (cI, 4, .inl (fun k => zI ((fun _ => 0) k))))]) (fun _ => rfl) (fun q1 H hP hD hS => ?_)
  refine r_putF F hK hP hD hS 0 8 rfl rfl in_X4 tyX4 tyX4_ok nmX4 (by decide) k_385 rfl hin rfl rfl rfl (Nat.le_of_ble_eq_true rfl) dX4_init_49 (w1 := [(b, .inr (4, [.int (zI (-1)), .int (zI 0), .int (zI 0), .int (zI 0), .int (zI (-2)), .int (zI (-1)), .int (zI 0), .int (zI 0), .ref q1, .null, .null, .null, .null])), (q1, .inl (cI, 4, .inl (fun k => zI ((fun _ => 0) k))))]) rfl (fun H locs hP hD hS => ?_)
  refine lv_aload_n hx hb dX4_init_52 rfl (lv_at hl 0 rfl) ?_
  refine lv_bipush (v := zI 10) hx hb dX4_init_53 (by decide) ?_
  refine r_newa (atype := .int) (ty := .int) F rfl k_194 hK hP hD hS hA 0 rfl 10 (10, .inl (fun _ => 0)) (bw_cI 10) (by decide) (by decide) (bw_by (k := 4) rfl (by omega)) (Nat.le_of_ble_eq_true rfl) (Nat.le_of_ble_eq_true rfl) dX4_init_55 (w1 := fun q2 => [(b, .inr (4, [.int (zI (-1)), .int (zI 0), .int (zI 0), .int (zI 0), .int (zI (-2)), .int (zI (-1)), .int (zI 0), .int (zI 0), .ref q1, .null, .null, .null, .null])), (q1, .inl (cI, 4, .inl (fun k => zI ((fun _ => 0) k)))), (q2, .inl (cI, 10, .inl (fun k => zI ((fun _ => 0) k))))]) (fun _ => rfl) (fun q2 H hP hD hS => ?_)
  refine r_putF F hK hP hD hS 0 9 rfl rfl in_X4 tyX4 tyX4_ok nmX4 (by decide) k_387 rfl hin rfl rfl rfl (Nat.le_of_ble_eq_true rfl) dX4_init_57 (w1 := [(b, .inr (4, [.int (zI (-1)), .int (zI 0), .int (zI 0), .int (zI 0), .int (zI (-2)), .int (zI (-1)), .int (zI 0), .int (zI 0), .ref q1, .ref q2, .null, .null, .null])), (q1, .inl (cI, 4, .inl (fun k => zI ((fun _ => 0) k)))), (q2, .inl (cI, 10, .inl (fun k => zI ((fun _ => 0) k))))]) rfl (fun H locs hP hD hS => ?_)
  refine lv_aload_n hx hb dX4_init_60 rfl (lv_at hl 0 rfl) ?_
  refine lv_bipush (v := zI 20) hx hb dX4_init_61 (by decide) ?_
  refine r_newa (atype := .int) (ty := .int) F rfl k_194 hK hP hD hS hA 0 rfl 20 (20, .inl (fun _ => 0)) (bw_cI 20) (by decide) (by decide) (bw_by (k := 4) rfl (by omega)) (Nat.le_of_ble_eq_true rfl) (Nat.le_of_ble_eq_true rfl) dX4_init_63 (w1 := fun q3 => [(b, .inr (4, [.int (zI (-1)), .int (zI 0), .int (zI 0), .int (zI 0), .int (zI (-2)), .int (zI (-1)), .int (zI 0), .int (zI 0), .ref q1, .ref q2, .null, .null, .null])), (q1, .inl (cI, 4, .inl (fun k => zI ((fun _ => 0) k)))), (q2, .inl (cI, 10, .inl (fun k => zI ((fun _ => 0) k)))), (q3, .inl (cI, 20, .inl (fun k => zI ((fun _ => 0) k))))]) (fun _ => rfl) (fun q3 H hP hD hS => ?_)
  refine r_putF F hK hP hD hS 0 10 rfl rfl in_X4 tyX4 tyX4_ok nmX4 (by decide) k_389 rfl hin rfl rfl rfl (Nat.le_of_ble_eq_true rfl) dX4_init_65 (w1 := [(b, .inr (4, [.int (zI (-1)), .int (zI 0), .int (zI 0), .int (zI 0), .int (zI (-2)), .int (zI (-1)), .int (zI 0), .int (zI 0), .ref q1, .ref q2, .ref q3, .null, .null])), (q1, .inl (cI, 4, .inl (fun k => zI ((fun _ => 0) k)))), (q2, .inl (cI, 10, .inl (fun k => zI ((fun _ => 0) k)))), (q3, .inl (cI, 20, .inl (fun k => zI ((fun _ => 0) k))))]) rfl (fun H locs hP hD hS => ?_)
  refine lv_aload_n hx hb dX4_init_68 rfl (lv_at hl 0 rfl) ?_
  refine lv_sipush (v := zI 256) hx hb dX4_init_69 (by decide) ?_
  refine r_newa (atype := .int) (ty := .int) F rfl k_194 hK hP hD hS hA 0 rfl 256 (256, .inl (fun _ => 0)) (bw_cI 256) (by decide) (by decide) (bw_by (k := 4) rfl (by omega)) (Nat.le_of_ble_eq_true rfl) (Nat.le_of_ble_eq_true rfl) dX4_init_72 (w1 := fun q4 => [(b, .inr (4, [.int (zI (-1)), .int (zI 0), .int (zI 0), .int (zI 0), .int (zI (-2)), .int (zI (-1)), .int (zI 0), .int (zI 0), .ref q1, .ref q2, .ref q3, .null, .null])), (q1, .inl (cI, 4, .inl (fun k => zI ((fun _ => 0) k)))), (q2, .inl (cI, 10, .inl (fun k => zI ((fun _ => 0) k)))), (q3, .inl (cI, 20, .inl (fun k => zI ((fun _ => 0) k)))), (q4, .inl (cI, 256, .inl (fun k => zI ((fun _ => 0) k))))]) (fun _ => rfl) (fun q4 H hP hD hS => ?_)
  refine r_putF F hK hP hD hS 0 11 rfl rfl in_X4 tyX4 tyX4_ok nmX4 (by decide) k_391 rfl hin rfl rfl rfl (Nat.le_of_ble_eq_true rfl) dX4_init_74 (w1 := [(b, .inr (4, [.int (zI (-1)), .int (zI 0), .int (zI 0), .int (zI 0), .int (zI (-2)), .int (zI (-1)), .int (zI 0), .int (zI 0), .ref q1, .ref q2, .ref q3, .ref q4, .null])), (q1, .inl (cI, 4, .inl (fun k => zI ((fun _ => 0) k)))), (q2, .inl (cI, 10, .inl (fun k => zI ((fun _ => 0) k)))), (q3, .inl (cI, 20, .inl (fun k => zI ((fun _ => 0) k)))), (q4, .inl (cI, 256, .inl (fun k => zI ((fun _ => 0) k))))]) rfl (fun H locs hP hD hS => ?_)
  refine lv_aload_n hx hb dX4_init_77 rfl (lv_at hl 0 rfl) ?_
  refine r_new (ci := 6) (fs := [.int (zI 0), .int (zI 0), .int (zI 0), .int (zI 0), .int (zI 0), .null, .null, .null, .long (zL 0), .null]) F hK hP hD hS hA rfl in_X6 tyX6 tyX6_ok k_368 k_315 k_102 (bw_dflt rfl) (Nat.le_of_ble_eq_true rfl) (Nat.le_of_ble_eq_true rfl) dX4_init_78 (w1 := fun q5 => [(b, .inr (4, [.int (zI (-1)), .int (zI 0), .int (zI 0), .int (zI 0), .int (zI (-2)), .int (zI (-1)), .int (zI 0), .int (zI 0), .ref q1, .ref q2, .ref q3, .ref q4, .null])), (q1, .inl (cI, 4, .inl (fun k => zI ((fun _ => 0) k)))), (q2, .inl (cI, 10, .inl (fun k => zI ((fun _ => 0) k)))), (q3, .inl (cI, 20, .inl (fun k => zI ((fun _ => 0) k)))), (q4, .inl (cI, 256, .inl (fun k => zI ((fun _ => 0) k)))), (q5, .inr (6, [.int (zI 0), .int (zI 0), .int (zI 0), .int (zI 0), .int (zI 0), .null, .null, .null, .long (zL 0), .null]))]) (fun _ => rfl) (fun q5 H hP hD hS => ?_)
  refine lv_dup hx hb dX4_init_81 rfl ?_
  refine r_callNv (As := []) (rest := [.ref q5, .ref b]) (wr := [(b, .inr (4, [.int (zI (-1)), .int (zI 0), .int (zI 0), .int (zI 0), .int (zI (-2)), .int (zI (-1)), .int (zI 0), .int (zI 0), .ref q1, .ref q2, .ref q3, .ref q4, .null])), (q1, .inl (cI, 4, .inl (fun k => zI ((fun _ => 0) k)))), (q2, .inl (cI, 10, .inl (fun k => zI ((fun _ => 0) k)))), (q3, .inl (cI, 20, .inl (fun k => zI ((fun _ => 0) k)))), (q4, .inl (cI, 256, .inl (fun k => zI ((fun _ => 0) k))))]) F hK hP hD hS hA hO hE (c_X6_init hO q5) (hNs _ _ hE).2.2.2.2.1 ki_X6_init rfl 0 rfl (by decide +kernel) ⟨Nat.le_of_ble_eq_true rfl, Nat.le_of_ble_eq_true rfl⟩ [5] [0, 1, 2, 3, 4] rfl rfl (by decide) (by decide) (by decide) hl.1 rfl (Nat.le_of_ble_eq_true rfl) dX4_init_82 ⟨Nat.le_of_ble_eq_true rfl, Nat.le_of_ble_eq_true rfl⟩ (w1 := fun u6 => [(b, .inr (4, [.int (zI (-1)), .int (zI 0), .int (zI 0), .int (zI 0), .int (zI (-2)), .int (zI (-1)), .int (zI 0), .int (zI 0), .ref q1, .ref q2, .ref q3, .ref q4, .null])), (q1, .inl (cI, 4, .inl (fun k => zI ((fun _ => 0) k)))), (q2, .inl (cI, 10, .inl (fun k => zI ((fun _ => 0) k)))), (q3, .inl (cI, 20, .inl (fun k => zI ((fun _ => 0) k)))), (q4, .inl (cI, 256, .inl (fun k => zI ((fun _ => 0) k)))), (q5, .inr (6, [.int (zI ((fun _ => 0) 0)), .int (zI ((fun _ => 0) 1)), .int (zI ((fun _ => 0) 2)), .int (zI ((fun _ => 0) 3)), .int (zI ((fun _ => 0) 4)), .ref ((aU u6 0) 0), .ref ((aU u6 0) 1), .ref ((aU u6 0) 2), .long (zL ((fun _ => 0) 5)), .ref ((aU u6 0) 3)])), (((aU u6 0) 0), .inl (cI, 4, .inl (fun k => zI (((fun _ _ => 0) 0) k)))), (((aU u6 0) 1), .inl (cI, 20, .inl (fun k => zI (((fun _ _ => 0) 1) k)))), (((aU u6 0) 2), .inl (cI, 20, .inl (fun k => zI (((fun _ _ => 0) 2) k)))), (((aU u6 0) 3), .inl (cI, 100, .inl (fun k => zI (((fun _ _ => 0) 3) k))))]) (fun _ => rfl) (fun  u6 H locs hp7 hP hD hS => ?_)
  refine r_putF F hK hP hD hS 0 12 rfl rfl in_X4 tyX4 tyX4_ok nmX4 (by decide) k_392 rfl hin rfl rfl rfl (Nat.le_of_ble_eq_true rfl) dX4_init_85 (w1 := [(b, .inr (4, [.int (zI (-1)), .int (zI 0), .int (zI 0), .int (zI 0), .int (zI (-2)), .int (zI (-1)), .int (zI 0), .int (zI 0), .ref q1, .ref q2, .ref q3, .ref q4, .ref q5])), (q1, .inl (cI, 4, .inl (fun k => zI ((fun _ => 0) k)))), (q2, .inl (cI, 10, .inl (fun k => zI ((fun _ => 0) k)))), (q3, .inl (cI, 20, .inl (fun k => zI ((fun _ => 0) k)))), (q4, .inl (cI, 256, .inl (fun k => zI ((fun _ => 0) k)))), (q5, .inr (6, [.int (zI ((fun _ => 0) 0)), .int (zI ((fun _ => 0) 1)), .int (zI ((fun _ => 0) 2)), .int (zI ((fun _ => 0) 3)), .int (zI ((fun _ => 0) 4)), .ref ((aU u6 0) 0), .ref ((aU u6 0) 1), .ref ((aU u6 0) 2), .long (zL ((fun _ => 0) 5)), .ref ((aU u6 0) 3)])), (((aU u6 0) 0), .inl (cI, 4, .inl (fun k => zI (((fun _ _ => 0) 0) k)))), (((aU u6 0) 1), .inl (cI, 20, .inl (fun k => zI (((fun _ _ => 0) 1) k)))), (((aU u6 0) 2), .inl (cI, 20, .inl (fun k => zI (((fun _ _ => 0) 2) k)))), (((aU u6 0) 3), .inl (cI, 100, .inl (fun k => zI (((fun _ _ => 0) 3) k))))]) rfl (fun H locs hP hD hS => ?_)
  exact ret (fun k => [(fun k => [(q1 : Int), (q2 : Int), (q3 : Int), (q4 : Int), (q5 : Int)].getD k 0, fun _ _ => 0), (fun k => [(((aU u6 0) 0) : Int), (((aU u6 0) 1) : Int), (((aU u6 0) 2) : Int), (((aU u6 0) 3) : Int)].getD k 0, fun _ _ => 0)].getD k (fun _ => 0, fun _ _ => 0)) _ _ _ _ _ _ trivial (bw_subP (isC := [0, 1, 2, 3, 4, 5, 6, 7, 8, 9]) hP rfl) (hD.sub [0, 1, 2, 3, 4, 5, 6, 7, 8, 9] (by decide) rfl) hS (Nat.le_of_ble_eq_true rfl) (Nat.le_of_ble_eq_true rfl) dX4_init_88
