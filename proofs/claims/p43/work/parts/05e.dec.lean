/-! DECODE ROWS: one lemma an opcode -/
def bd_m : List UInt8 → List Nat → Bool
  | _, [] => true
  | [], _ :: _ => false
  | x :: l, b :: bs => x.toNat == b && bd_m l bs
def bd_c : List UInt8 → Nat → List Nat → Bool
  | [], _, _ => false
  | _ :: l, n + 1, bs => bd_c l n bs
  | x :: l, 0, bs => bd_m (x :: l) bs
theorem bd_split : ∀ (l : List UInt8) (p b : Nat) (bs : List Nat), bd_c l p (b :: bs) = true → (∃ h : p < l.length, l[p].toNat = b) ∧ (bs = [] ∨ bd_c l (p + 1) bs = true)
  | [], _, _, _, h => by cases h
  | x :: l, 0, b, bs, h => by
    have h1 : (x.toNat == b && bd_m l bs) = true := h
    rw [Bool.and_eq_true] at h1
    refine ⟨⟨Nat.zero_lt_succ _, eq_of_beq h1.1⟩, ?_⟩
    cases bs with
    | nil => exact Or.inl rfl
    | cons d ds =>
      cases l with
      | nil => cases h1.2
      | cons y l => exact Or.inr h1.2
  | x :: l, p + 1, b, bs, h => by
    obtain ⟨⟨h1, h2⟩, h3⟩ := bd_split l p b bs h
    exact ⟨⟨Nat.succ_lt_succ h1, h2⟩, h3⟩
theorem bd_bind {α β : Type} {m : Decoder α} {f : α → Decoder β} {c : ByteArray} {p p' : Nat} {a : α} (h : m c p = .ok (a, p')) : (m >>= f) c p = f a c p' := by
  show Except.bind (m c p) (fun x => f x.1 c x.2) = _
  rw [h]
  rfl
theorem bd_map {α β : Type} {m : Decoder α} {g : α → β} {c : ByteArray} {p p' : Nat} {a : α} (h : m c p = .ok (a, p')) : (g <$> m : Decoder β) c p = .ok (g a, p') := by
  show Except.bind (m c p) (fun x => Except.ok (g x.1, x.2)) = _
  rw [h]
  rfl
theorem bd_1 {c : ByteArray} {p b : Nat} {bs : List Nat} (h : bd_c c.data.toList p (b :: bs) = true) : (Reader.u1 : Decoder Nat) c p = .ok (b, p + 1) := by
  obtain ⟨⟨l⟩⟩ := c
  obtain ⟨⟨h1, h2⟩, -⟩ := bd_split l p b bs h
  have e : (Reader.u1 : Decoder Nat) ⟨⟨l⟩⟩ p = (dite (p < (⟨⟨l⟩⟩ : ByteArray).size) (fun hp => (do set (p + 1); pure ((⟨⟨l⟩⟩ : ByteArray)[p]'hp).toNat : Decoder Nat)) (fun _ => throw (HasTruncated.truncated p))) ⟨⟨l⟩⟩ p := rfl
  rw [e, dif_pos (show p < (⟨⟨l⟩⟩ : ByteArray).size from h1)]
  show Except.ok (l[p].toNat, p + 1) = _
  rw [h2]
theorem bd_2 {c : ByteArray} {p b d : Nat} {bs : List Nat} (h : bd_c c.data.toList p (b :: d :: bs) = true) : bd_c c.data.toList (p + 1) (d :: bs) = true := by
  rcases (bd_split _ p b _ h).2 with q | q
  · cases q
  · exact q
theorem bd_s1 {c : ByteArray} {p b : Nat} {bs : List Nat} (h : bd_c c.data.toList p (b :: bs) = true) : (Reader.s1 : Decoder Int) c p = .ok (Reader.signed 8 b, p + 1) := bd_map (bd_1 h)
theorem bd_u2 {c : ByteArray} {p a b : Nat} {bs : List Nat} (h : bd_c c.data.toList p (a :: b :: bs) = true) : (Reader.u2 : Decoder Nat) c p = .ok (a * 256 + b, p + 2) := (bd_bind (bd_1 h)).trans ((bd_bind (bd_1 (bd_2 h))).trans rfl)
theorem bd_s2 {c : ByteArray} {p a b : Nat} {bs : List Nat} (h : bd_c c.data.toList p (a :: b :: bs) = true) : (Reader.s2 : Decoder Int) c p = .ok (Reader.signed 16 (a * 256 + b), p + 2) := bd_map (bd_u2 h)
theorem bd_dec {c : ByteArray} {p n : Nat} {i : Instr} (h : Decoder.instr p c p = .ok (i, p + n)) : decode c p = .ok (i, n) := by
  show Except.bind (Decoder.instr p c p) (fun x => Except.ok (x.1, x.2 - p)) = _
  rw [h]
  show Except.ok (i, p + n - p) = _
  rw [Nat.add_sub_cancel_left]
theorem bd_ok {x y : Bool} (h : (x && y) = true) : x = true ∧ y = true := by
  rw [Bool.and_eq_true] at h
  exact h
theorem bo_2 {c : ByteArray} {p : Nat} (h1 : bd_c c.data.toList p [2] = true) : decode c p = .ok (.iconst (-1), 1) := bd_dec ((bd_bind (bd_1 h1)).trans rfl)
theorem bo_3 {c : ByteArray} {p : Nat} (h1 : bd_c c.data.toList p [3] = true) : decode c p = .ok (.iconst 0, 1) := bd_dec ((bd_bind (bd_1 h1)).trans rfl)
theorem bo_4 {c : ByteArray} {p : Nat} (h1 : bd_c c.data.toList p [4] = true) : decode c p = .ok (.iconst 1, 1) := bd_dec ((bd_bind (bd_1 h1)).trans rfl)
theorem bo_5 {c : ByteArray} {p : Nat} (h1 : bd_c c.data.toList p [5] = true) : decode c p = .ok (.iconst 2, 1) := bd_dec ((bd_bind (bd_1 h1)).trans rfl)
theorem bo_6 {c : ByteArray} {p : Nat} (h1 : bd_c c.data.toList p [6] = true) : decode c p = .ok (.iconst 3, 1) := bd_dec ((bd_bind (bd_1 h1)).trans rfl)
theorem bo_7 {c : ByteArray} {p : Nat} (h1 : bd_c c.data.toList p [7] = true) : decode c p = .ok (.iconst 4, 1) := bd_dec ((bd_bind (bd_1 h1)).trans rfl)
theorem bo_8 {c : ByteArray} {p : Nat} (h1 : bd_c c.data.toList p [8] = true) : decode c p = .ok (.iconst 5, 1) := bd_dec ((bd_bind (bd_1 h1)).trans rfl)
theorem bo_9 {c : ByteArray} {p : Nat} (h1 : bd_c c.data.toList p [9] = true) : decode c p = .ok (.lconst 0, 1) := bd_dec ((bd_bind (bd_1 h1)).trans rfl)
theorem bo_10 {c : ByteArray} {p : Nat} (h1 : bd_c c.data.toList p [10] = true) : decode c p = .ok (.lconst 1, 1) := bd_dec ((bd_bind (bd_1 h1)).trans rfl)
theorem bo_26 {c : ByteArray} {p : Nat} (h1 : bd_c c.data.toList p [26] = true) : decode c p = .ok (.iload_n 0, 1) := bd_dec ((bd_bind (bd_1 h1)).trans rfl)
theorem bo_27 {c : ByteArray} {p : Nat} (h1 : bd_c c.data.toList p [27] = true) : decode c p = .ok (.iload_n 1, 1) := bd_dec ((bd_bind (bd_1 h1)).trans rfl)
theorem bo_28 {c : ByteArray} {p : Nat} (h1 : bd_c c.data.toList p [28] = true) : decode c p = .ok (.iload_n 2, 1) := bd_dec ((bd_bind (bd_1 h1)).trans rfl)
theorem bo_29 {c : ByteArray} {p : Nat} (h1 : bd_c c.data.toList p [29] = true) : decode c p = .ok (.iload_n 3, 1) := bd_dec ((bd_bind (bd_1 h1)).trans rfl)
theorem bo_42 {c : ByteArray} {p : Nat} (h1 : bd_c c.data.toList p [42] = true) : decode c p = .ok (.aload_n 0, 1) := bd_dec ((bd_bind (bd_1 h1)).trans rfl)
theorem bo_43 {c : ByteArray} {p : Nat} (h1 : bd_c c.data.toList p [43] = true) : decode c p = .ok (.aload_n 1, 1) := bd_dec ((bd_bind (bd_1 h1)).trans rfl)
theorem bo_44 {c : ByteArray} {p : Nat} (h1 : bd_c c.data.toList p [44] = true) : decode c p = .ok (.aload_n 2, 1) := bd_dec ((bd_bind (bd_1 h1)).trans rfl)
theorem bo_45 {c : ByteArray} {p : Nat} (h1 : bd_c c.data.toList p [45] = true) : decode c p = .ok (.aload_n 3, 1) := bd_dec ((bd_bind (bd_1 h1)).trans rfl)
theorem bo_46 {c : ByteArray} {p : Nat} (h1 : bd_c c.data.toList p [46] = true) : decode c p = .ok (.iaload, 1) := bd_dec ((bd_bind (bd_1 h1)).trans rfl)
theorem bo_47 {c : ByteArray} {p : Nat} (h1 : bd_c c.data.toList p [47] = true) : decode c p = .ok (.laload, 1) := bd_dec ((bd_bind (bd_1 h1)).trans rfl)
theorem bo_50 {c : ByteArray} {p : Nat} (h1 : bd_c c.data.toList p [50] = true) : decode c p = .ok (.aaload, 1) := bd_dec ((bd_bind (bd_1 h1)).trans rfl)
theorem bo_51 {c : ByteArray} {p : Nat} (h1 : bd_c c.data.toList p [51] = true) : decode c p = .ok (.baload, 1) := bd_dec ((bd_bind (bd_1 h1)).trans rfl)
theorem bo_59 {c : ByteArray} {p : Nat} (h1 : bd_c c.data.toList p [59] = true) : decode c p = .ok (.istore_n 0, 1) := bd_dec ((bd_bind (bd_1 h1)).trans rfl)
theorem bo_60 {c : ByteArray} {p : Nat} (h1 : bd_c c.data.toList p [60] = true) : decode c p = .ok (.istore_n 1, 1) := bd_dec ((bd_bind (bd_1 h1)).trans rfl)
theorem bo_61 {c : ByteArray} {p : Nat} (h1 : bd_c c.data.toList p [61] = true) : decode c p = .ok (.istore_n 2, 1) := bd_dec ((bd_bind (bd_1 h1)).trans rfl)
theorem bo_62 {c : ByteArray} {p : Nat} (h1 : bd_c c.data.toList p [62] = true) : decode c p = .ok (.istore_n 3, 1) := bd_dec ((bd_bind (bd_1 h1)).trans rfl)
theorem bo_76 {c : ByteArray} {p : Nat} (h1 : bd_c c.data.toList p [76] = true) : decode c p = .ok (.astore_n 1, 1) := bd_dec ((bd_bind (bd_1 h1)).trans rfl)
theorem bo_77 {c : ByteArray} {p : Nat} (h1 : bd_c c.data.toList p [77] = true) : decode c p = .ok (.astore_n 2, 1) := bd_dec ((bd_bind (bd_1 h1)).trans rfl)
theorem bo_78 {c : ByteArray} {p : Nat} (h1 : bd_c c.data.toList p [78] = true) : decode c p = .ok (.astore_n 3, 1) := bd_dec ((bd_bind (bd_1 h1)).trans rfl)
theorem bo_79 {c : ByteArray} {p : Nat} (h1 : bd_c c.data.toList p [79] = true) : decode c p = .ok (.iastore, 1) := bd_dec ((bd_bind (bd_1 h1)).trans rfl)
theorem bo_80 {c : ByteArray} {p : Nat} (h1 : bd_c c.data.toList p [80] = true) : decode c p = .ok (.lastore, 1) := bd_dec ((bd_bind (bd_1 h1)).trans rfl)
theorem bo_83 {c : ByteArray} {p : Nat} (h1 : bd_c c.data.toList p [83] = true) : decode c p = .ok (.aastore, 1) := bd_dec ((bd_bind (bd_1 h1)).trans rfl)
theorem bo_84 {c : ByteArray} {p : Nat} (h1 : bd_c c.data.toList p [84] = true) : decode c p = .ok (.bastore, 1) := bd_dec ((bd_bind (bd_1 h1)).trans rfl)
theorem bo_87 {c : ByteArray} {p : Nat} (h1 : bd_c c.data.toList p [87] = true) : decode c p = .ok (.pop, 1) := bd_dec ((bd_bind (bd_1 h1)).trans rfl)
theorem bo_89 {c : ByteArray} {p : Nat} (h1 : bd_c c.data.toList p [89] = true) : decode c p = .ok (.dup, 1) := bd_dec ((bd_bind (bd_1 h1)).trans rfl)
theorem bo_92 {c : ByteArray} {p : Nat} (h1 : bd_c c.data.toList p [92] = true) : decode c p = .ok (.dup2, 1) := bd_dec ((bd_bind (bd_1 h1)).trans rfl)
theorem bo_96 {c : ByteArray} {p : Nat} (h1 : bd_c c.data.toList p [96] = true) : decode c p = .ok (.iadd, 1) := bd_dec ((bd_bind (bd_1 h1)).trans rfl)
theorem bo_97 {c : ByteArray} {p : Nat} (h1 : bd_c c.data.toList p [97] = true) : decode c p = .ok (.ladd, 1) := bd_dec ((bd_bind (bd_1 h1)).trans rfl)
theorem bo_100 {c : ByteArray} {p : Nat} (h1 : bd_c c.data.toList p [100] = true) : decode c p = .ok (.isub, 1) := bd_dec ((bd_bind (bd_1 h1)).trans rfl)
theorem bo_104 {c : ByteArray} {p : Nat} (h1 : bd_c c.data.toList p [104] = true) : decode c p = .ok (.imul, 1) := bd_dec ((bd_bind (bd_1 h1)).trans rfl)
theorem bo_105 {c : ByteArray} {p : Nat} (h1 : bd_c c.data.toList p [105] = true) : decode c p = .ok (.lmul, 1) := bd_dec ((bd_bind (bd_1 h1)).trans rfl)
theorem bo_108 {c : ByteArray} {p : Nat} (h1 : bd_c c.data.toList p [108] = true) : decode c p = .ok (.idiv, 1) := bd_dec ((bd_bind (bd_1 h1)).trans rfl)
theorem bo_112 {c : ByteArray} {p : Nat} (h1 : bd_c c.data.toList p [112] = true) : decode c p = .ok (.irem, 1) := bd_dec ((bd_bind (bd_1 h1)).trans rfl)
theorem bo_120 {c : ByteArray} {p : Nat} (h1 : bd_c c.data.toList p [120] = true) : decode c p = .ok (.ishl, 1) := bd_dec ((bd_bind (bd_1 h1)).trans rfl)
theorem bo_121 {c : ByteArray} {p : Nat} (h1 : bd_c c.data.toList p [121] = true) : decode c p = .ok (.lshl, 1) := bd_dec ((bd_bind (bd_1 h1)).trans rfl)
theorem bo_122 {c : ByteArray} {p : Nat} (h1 : bd_c c.data.toList p [122] = true) : decode c p = .ok (.ishr, 1) := bd_dec ((bd_bind (bd_1 h1)).trans rfl)
theorem bo_123 {c : ByteArray} {p : Nat} (h1 : bd_c c.data.toList p [123] = true) : decode c p = .ok (.lshr, 1) := bd_dec ((bd_bind (bd_1 h1)).trans rfl)
theorem bo_124 {c : ByteArray} {p : Nat} (h1 : bd_c c.data.toList p [124] = true) : decode c p = .ok (.iushr, 1) := bd_dec ((bd_bind (bd_1 h1)).trans rfl)
theorem bo_126 {c : ByteArray} {p : Nat} (h1 : bd_c c.data.toList p [126] = true) : decode c p = .ok (.iand, 1) := bd_dec ((bd_bind (bd_1 h1)).trans rfl)
theorem bo_127 {c : ByteArray} {p : Nat} (h1 : bd_c c.data.toList p [127] = true) : decode c p = .ok (.land, 1) := bd_dec ((bd_bind (bd_1 h1)).trans rfl)
theorem bo_128 {c : ByteArray} {p : Nat} (h1 : bd_c c.data.toList p [128] = true) : decode c p = .ok (.ior, 1) := bd_dec ((bd_bind (bd_1 h1)).trans rfl)
theorem bo_129 {c : ByteArray} {p : Nat} (h1 : bd_c c.data.toList p [129] = true) : decode c p = .ok (.lor, 1) := bd_dec ((bd_bind (bd_1 h1)).trans rfl)
theorem bo_130 {c : ByteArray} {p : Nat} (h1 : bd_c c.data.toList p [130] = true) : decode c p = .ok (.ixor, 1) := bd_dec ((bd_bind (bd_1 h1)).trans rfl)
theorem bo_133 {c : ByteArray} {p : Nat} (h1 : bd_c c.data.toList p [133] = true) : decode c p = .ok (.i2l, 1) := bd_dec ((bd_bind (bd_1 h1)).trans rfl)
theorem bo_145 {c : ByteArray} {p : Nat} (h1 : bd_c c.data.toList p [145] = true) : decode c p = .ok (.i2b, 1) := bd_dec ((bd_bind (bd_1 h1)).trans rfl)
theorem bo_148 {c : ByteArray} {p : Nat} (h1 : bd_c c.data.toList p [148] = true) : decode c p = .ok (.lcmp, 1) := bd_dec ((bd_bind (bd_1 h1)).trans rfl)
theorem bo_172 {c : ByteArray} {p : Nat} (h1 : bd_c c.data.toList p [172] = true) : decode c p = .ok (.ireturn, 1) := bd_dec ((bd_bind (bd_1 h1)).trans rfl)
theorem bo_177 {c : ByteArray} {p : Nat} (h1 : bd_c c.data.toList p [177] = true) : decode c p = .ok (.return_, 1) := bd_dec ((bd_bind (bd_1 h1)).trans rfl)
theorem bo_190 {c : ByteArray} {p : Nat} (h1 : bd_c c.data.toList p [190] = true) : decode c p = .ok (.arraylength, 1) := bd_dec ((bd_bind (bd_1 h1)).trans rfl)
theorem bo_21 {c : ByteArray} {p : Nat} {a : Nat} (h1 : bd_c c.data.toList p [21, a] = true) : decode c p = .ok (.iload a, 2) := bd_dec ((bd_bind (bd_1 h1)).trans ((bd_bind (bd_1 (bd_2 h1))).trans rfl))
theorem bo_25 {c : ByteArray} {p : Nat} {a : Nat} (h1 : bd_c c.data.toList p [25, a] = true) : decode c p = .ok (.aload a, 2) := bd_dec ((bd_bind (bd_1 h1)).trans ((bd_bind (bd_1 (bd_2 h1))).trans rfl))
theorem bo_54 {c : ByteArray} {p : Nat} {a : Nat} (h1 : bd_c c.data.toList p [54, a] = true) : decode c p = .ok (.istore a, 2) := bd_dec ((bd_bind (bd_1 h1)).trans ((bd_bind (bd_1 (bd_2 h1))).trans rfl))
theorem bo_18 {c : ByteArray} {p : Nat} {a : Nat} (h1 : bd_c c.data.toList p [18, a] = true) : decode c p = .ok (.ldc a, 2) := bd_dec ((bd_bind (bd_1 h1)).trans ((bd_bind (bd_1 (bd_2 h1))).trans rfl))
theorem bo_16 {c : ByteArray} {p : Nat} {v : Int} (a : Nat) (h : (bd_c c.data.toList p [16, a] && (Reader.signed 8 a == v)) = true) : decode c p = .ok (.bipush v, 2) := by
  obtain ⟨h1, h2⟩ := bd_ok h
  have e := eq_of_beq h2
  subst e
  exact bd_dec ((bd_bind (bd_1 h1)).trans ((bd_bind (bd_s1 (bd_2 h1))).trans rfl))
theorem bo_180 {c : ByteArray} {p : Nat} {v : Nat} (a b : Nat) (h : (bd_c c.data.toList p [180, a, b] && (a * 256 + b == v)) = true) : decode c p = .ok (.getfield v, 3) := by
  obtain ⟨h1, h2⟩ := bd_ok h
  have e := eq_of_beq h2
  subst e
  exact bd_dec ((bd_bind (bd_1 h1)).trans ((bd_bind (bd_u2 (bd_2 h1))).trans rfl))
theorem bo_181 {c : ByteArray} {p : Nat} {v : Nat} (a b : Nat) (h : (bd_c c.data.toList p [181, a, b] && (a * 256 + b == v)) = true) : decode c p = .ok (.putfield v, 3) := by
  obtain ⟨h1, h2⟩ := bd_ok h
  have e := eq_of_beq h2
  subst e
  exact bd_dec ((bd_bind (bd_1 h1)).trans ((bd_bind (bd_u2 (bd_2 h1))).trans rfl))
theorem bo_182 {c : ByteArray} {p : Nat} {v : Nat} (a b : Nat) (h : (bd_c c.data.toList p [182, a, b] && (a * 256 + b == v)) = true) : decode c p = .ok (.invokevirtual v, 3) := by
  obtain ⟨h1, h2⟩ := bd_ok h
  have e := eq_of_beq h2
  subst e
  exact bd_dec ((bd_bind (bd_1 h1)).trans ((bd_bind (bd_u2 (bd_2 h1))).trans rfl))
theorem bo_183 {c : ByteArray} {p : Nat} {v : Nat} (a b : Nat) (h : (bd_c c.data.toList p [183, a, b] && (a * 256 + b == v)) = true) : decode c p = .ok (.invokespecial v, 3) := by
  obtain ⟨h1, h2⟩ := bd_ok h
  have e := eq_of_beq h2
  subst e
  exact bd_dec ((bd_bind (bd_1 h1)).trans ((bd_bind (bd_u2 (bd_2 h1))).trans rfl))
theorem bo_184 {c : ByteArray} {p : Nat} {v : Nat} (a b : Nat) (h : (bd_c c.data.toList p [184, a, b] && (a * 256 + b == v)) = true) : decode c p = .ok (.invokestatic v, 3) := by
  obtain ⟨h1, h2⟩ := bd_ok h
  have e := eq_of_beq h2
  subst e
  exact bd_dec ((bd_bind (bd_1 h1)).trans ((bd_bind (bd_u2 (bd_2 h1))).trans rfl))
theorem bo_187 {c : ByteArray} {p : Nat} {v : Nat} (a b : Nat) (h : (bd_c c.data.toList p [187, a, b] && (a * 256 + b == v)) = true) : decode c p = .ok (.new v, 3) := by
  obtain ⟨h1, h2⟩ := bd_ok h
  have e := eq_of_beq h2
  subst e
  exact bd_dec ((bd_bind (bd_1 h1)).trans ((bd_bind (bd_u2 (bd_2 h1))).trans rfl))
theorem bo_189 {c : ByteArray} {p : Nat} {v : Nat} (a b : Nat) (h : (bd_c c.data.toList p [189, a, b] && (a * 256 + b == v)) = true) : decode c p = .ok (.anewarray v, 3) := by
  obtain ⟨h1, h2⟩ := bd_ok h
  have e := eq_of_beq h2
  subst e
  exact bd_dec ((bd_bind (bd_1 h1)).trans ((bd_bind (bd_u2 (bd_2 h1))).trans rfl))
theorem bo_19 {c : ByteArray} {p : Nat} {v : Nat} (a b : Nat) (h : (bd_c c.data.toList p [19, a, b] && (a * 256 + b == v)) = true) : decode c p = .ok (.ldc_w v, 3) := by
  obtain ⟨h1, h2⟩ := bd_ok h
  have e := eq_of_beq h2
  subst e
  exact bd_dec ((bd_bind (bd_1 h1)).trans ((bd_bind (bd_u2 (bd_2 h1))).trans rfl))
theorem bo_20 {c : ByteArray} {p : Nat} {v : Nat} (a b : Nat) (h : (bd_c c.data.toList p [20, a, b] && (a * 256 + b == v)) = true) : decode c p = .ok (.ldc2_w v, 3) := by
  obtain ⟨h1, h2⟩ := bd_ok h
  have e := eq_of_beq h2
  subst e
  exact bd_dec ((bd_bind (bd_1 h1)).trans ((bd_bind (bd_u2 (bd_2 h1))).trans rfl))
theorem bo_17 {c : ByteArray} {p : Nat} {v : Int} (a b : Nat) (h : (bd_c c.data.toList p [17, a, b] && (Reader.signed 16 (a * 256 + b) == v)) = true) : decode c p = .ok (.sipush v, 3) := by
  obtain ⟨h1, h2⟩ := bd_ok h
  have e := eq_of_beq h2
  subst e
  exact bd_dec ((bd_bind (bd_1 h1)).trans ((bd_bind (bd_s2 (bd_2 h1))).trans rfl))
theorem bo_167 {c : ByteArray} {p : Nat} {v : Int} (a b : Nat) (h : (bd_c c.data.toList p [167, a, b] && (Reader.signed 16 (a * 256 + b) == v)) = true) : decode c p = .ok (.goto v, 3) := by
  obtain ⟨h1, h2⟩ := bd_ok h
  have e := eq_of_beq h2
  subst e
  exact bd_dec ((bd_bind (bd_1 h1)).trans ((bd_bind (bd_s2 (bd_2 h1))).trans rfl))
theorem bo_153 {c : ByteArray} {p : Nat} {v : Int} (a b : Nat) (h : (bd_c c.data.toList p [153, a, b] && (Reader.signed 16 (a * 256 + b) == v)) = true) : decode c p = .ok (.ifCond .eq v, 3) := by
  obtain ⟨h1, h2⟩ := bd_ok h
  have e := eq_of_beq h2
  subst e
  exact bd_dec ((bd_bind (bd_1 h1)).trans ((bd_bind (bd_s2 (bd_2 h1))).trans rfl))
theorem bo_159 {c : ByteArray} {p : Nat} {v : Int} (a b : Nat) (h : (bd_c c.data.toList p [159, a, b] && (Reader.signed 16 (a * 256 + b) == v)) = true) : decode c p = .ok (.if_icmp .eq v, 3) := by
  obtain ⟨h1, h2⟩ := bd_ok h
  have e := eq_of_beq h2
  subst e
  exact bd_dec ((bd_bind (bd_1 h1)).trans ((bd_bind (bd_s2 (bd_2 h1))).trans rfl))
theorem bo_154 {c : ByteArray} {p : Nat} {v : Int} (a b : Nat) (h : (bd_c c.data.toList p [154, a, b] && (Reader.signed 16 (a * 256 + b) == v)) = true) : decode c p = .ok (.ifCond .ne v, 3) := by
  obtain ⟨h1, h2⟩ := bd_ok h
  have e := eq_of_beq h2
  subst e
  exact bd_dec ((bd_bind (bd_1 h1)).trans ((bd_bind (bd_s2 (bd_2 h1))).trans rfl))
theorem bo_160 {c : ByteArray} {p : Nat} {v : Int} (a b : Nat) (h : (bd_c c.data.toList p [160, a, b] && (Reader.signed 16 (a * 256 + b) == v)) = true) : decode c p = .ok (.if_icmp .ne v, 3) := by
  obtain ⟨h1, h2⟩ := bd_ok h
  have e := eq_of_beq h2
  subst e
  exact bd_dec ((bd_bind (bd_1 h1)).trans ((bd_bind (bd_s2 (bd_2 h1))).trans rfl))
theorem bo_155 {c : ByteArray} {p : Nat} {v : Int} (a b : Nat) (h : (bd_c c.data.toList p [155, a, b] && (Reader.signed 16 (a * 256 + b) == v)) = true) : decode c p = .ok (.ifCond .lt v, 3) := by
  obtain ⟨h1, h2⟩ := bd_ok h
  have e := eq_of_beq h2
  subst e
  exact bd_dec ((bd_bind (bd_1 h1)).trans ((bd_bind (bd_s2 (bd_2 h1))).trans rfl))
theorem bo_161 {c : ByteArray} {p : Nat} {v : Int} (a b : Nat) (h : (bd_c c.data.toList p [161, a, b] && (Reader.signed 16 (a * 256 + b) == v)) = true) : decode c p = .ok (.if_icmp .lt v, 3) := by
  obtain ⟨h1, h2⟩ := bd_ok h
  have e := eq_of_beq h2
  subst e
  exact bd_dec ((bd_bind (bd_1 h1)).trans ((bd_bind (bd_s2 (bd_2 h1))).trans rfl))
theorem bo_156 {c : ByteArray} {p : Nat} {v : Int} (a b : Nat) (h : (bd_c c.data.toList p [156, a, b] && (Reader.signed 16 (a * 256 + b) == v)) = true) : decode c p = .ok (.ifCond .ge v, 3) := by
  obtain ⟨h1, h2⟩ := bd_ok h
  have e := eq_of_beq h2
  subst e
  exact bd_dec ((bd_bind (bd_1 h1)).trans ((bd_bind (bd_s2 (bd_2 h1))).trans rfl))
theorem bo_162 {c : ByteArray} {p : Nat} {v : Int} (a b : Nat) (h : (bd_c c.data.toList p [162, a, b] && (Reader.signed 16 (a * 256 + b) == v)) = true) : decode c p = .ok (.if_icmp .ge v, 3) := by
  obtain ⟨h1, h2⟩ := bd_ok h
  have e := eq_of_beq h2
  subst e
  exact bd_dec ((bd_bind (bd_1 h1)).trans ((bd_bind (bd_s2 (bd_2 h1))).trans rfl))
theorem bo_157 {c : ByteArray} {p : Nat} {v : Int} (a b : Nat) (h : (bd_c c.data.toList p [157, a, b] && (Reader.signed 16 (a * 256 + b) == v)) = true) : decode c p = .ok (.ifCond .gt v, 3) := by
  obtain ⟨h1, h2⟩ := bd_ok h
  have e := eq_of_beq h2
  subst e
  exact bd_dec ((bd_bind (bd_1 h1)).trans ((bd_bind (bd_s2 (bd_2 h1))).trans rfl))
theorem bo_163 {c : ByteArray} {p : Nat} {v : Int} (a b : Nat) (h : (bd_c c.data.toList p [163, a, b] && (Reader.signed 16 (a * 256 + b) == v)) = true) : decode c p = .ok (.if_icmp .gt v, 3) := by
  obtain ⟨h1, h2⟩ := bd_ok h
  have e := eq_of_beq h2
  subst e
  exact bd_dec ((bd_bind (bd_1 h1)).trans ((bd_bind (bd_s2 (bd_2 h1))).trans rfl))
theorem bo_158 {c : ByteArray} {p : Nat} {v : Int} (a b : Nat) (h : (bd_c c.data.toList p [158, a, b] && (Reader.signed 16 (a * 256 + b) == v)) = true) : decode c p = .ok (.ifCond .le v, 3) := by
  obtain ⟨h1, h2⟩ := bd_ok h
  have e := eq_of_beq h2
  subst e
  exact bd_dec ((bd_bind (bd_1 h1)).trans ((bd_bind (bd_s2 (bd_2 h1))).trans rfl))
theorem bo_164 {c : ByteArray} {p : Nat} {v : Int} (a b : Nat) (h : (bd_c c.data.toList p [164, a, b] && (Reader.signed 16 (a * 256 + b) == v)) = true) : decode c p = .ok (.if_icmp .le v, 3) := by
  obtain ⟨h1, h2⟩ := bd_ok h
  have e := eq_of_beq h2
  subst e
  exact bd_dec ((bd_bind (bd_1 h1)).trans ((bd_bind (bd_s2 (bd_2 h1))).trans rfl))
theorem bo_132 {c : ByteArray} {p : Nat} {v : Int} (a b : Nat) (h : (bd_c c.data.toList p [132, a, b] && (Reader.signed 8 b == v)) = true) : decode c p = .ok (.iinc a v, 3) := by
  obtain ⟨h1, h2⟩ := bd_ok h
  have e := eq_of_beq h2
  subst e
  exact bd_dec ((bd_bind (bd_1 h1)).trans ((bd_bind (bd_1 (bd_2 h1))).trans ((bd_bind (bd_s1 (bd_2 (bd_2 h1)))).trans rfl)))
