/-! DECODING, OPCODE BY OPCODE -/
/-- a byte of a code; 256 behind its end -/
def pj_by (c : ByteArray) (p : Nat) : Nat := match c.data.toList[p]? with
  | some b => b.toNat
  | none => 256
theorem pj_u1 {c : ByteArray} {p b : Nat} (h : pj_by c p = b) (hb : b < 256) : (Reader.u1 : Decoder Nat) c p = .ok (b, p + 1) := by
  unfold pj_by at h
  cases e : c.data.toList[p]? with
  | none =>
    rw [e] at h
    have h : 256 = b := h
    omega
  | some x =>
    rw [e] at h
    have h : x.toNat = b := h
    obtain ⟨hp, hx⟩ := List.getElem?_eq_some_iff.mp e
    have hs : p < c.size := hp
    have hg : (c[p]'hs) = x := hx
    unfold Reader.u1
    show (dite (p < c.size) (fun h => (do set (p + 1); pure (c[p]'h).toNat : Decoder Nat)) (fun _ => (throw (HasTruncated.truncated p) : Decoder Nat))) c p = _
    rw [dif_pos hs]
    show Except.ok ((c[p]'hs).toNat, p + 1) = _
    rw [hg, h]
theorem pj_rb1 {α β : Type} {x : Decoder α} {f : α → Decoder β} {c : ByteArray} {p q : Nat} {a : α} (h : x c p = .ok (a, q)) : (x >>= f) c p = f a c q := by
  have e : (x >>= f) c p = (x c p >>= fun r => f r.1 c r.2) := rfl
  rw [e, h]
  rfl
theorem pj_rm1 {α β : Type} {x : Decoder α} {f : α → β} {c : ByteArray} {p q : Nat} {a : α} (h : x c p = .ok (a, q)) : (f <$> x) c p = .ok (f a, q) := by
  have e : (f <$> x) c p = (x c p >>= fun r => pure (f r.1, r.2)) := rfl
  rw [e, h]
  rfl
theorem pj_u2 {c : ByteArray} {p a b : Nat} (h : pj_by c p = a) (ha : a < 256) (h2 : pj_by c (p + 1) = b) (hb : b < 256) : (Reader.u2 : Decoder Nat) c p = .ok (a * 256 + b, p + 2) := by
  unfold Reader.u2
  rw [pj_rb1 (pj_u1 h ha), pj_rb1 (pj_u1 h2 hb)]
  rfl
theorem pj_dcd {c : ByteArray} {pc q : Nat} {i : Instr} (h : (Decoder.instr pc) c pc = .ok (i, pc + q)) : decode c pc = .ok (i, q) := by
  have e : decode c pc = ((Decoder.instr pc) c pc >>= fun r => pure (r.1, r.2 - pc)) := rfl
  rw [e, h]
  show Except.ok (i, pc + q - pc) = _
  rw [Nat.add_sub_cancel_left]
set_option maxRecDepth 100000 in
theorem pj_dc2 {c : ByteArray} {pc : Nat} (h : pj_by c pc = 2) : decode c pc = .ok ((.iconst (-1)), 1) := by
  refine pj_dcd ?_
  unfold Decoder.instr
  refine (pj_rb1 (pj_u1 h (by decide))).trans ?_
  rfl
set_option maxRecDepth 100000 in
theorem pj_dc3 {c : ByteArray} {pc : Nat} (h : pj_by c pc = 3) : decode c pc = .ok ((.iconst 0), 1) := by
  refine pj_dcd ?_
  unfold Decoder.instr
  refine (pj_rb1 (pj_u1 h (by decide))).trans ?_
  rfl
set_option maxRecDepth 100000 in
theorem pj_dc4 {c : ByteArray} {pc : Nat} (h : pj_by c pc = 4) : decode c pc = .ok ((.iconst 1), 1) := by
  refine pj_dcd ?_
  unfold Decoder.instr
  refine (pj_rb1 (pj_u1 h (by decide))).trans ?_
  rfl
set_option maxRecDepth 100000 in
theorem pj_dc5 {c : ByteArray} {pc : Nat} (h : pj_by c pc = 5) : decode c pc = .ok ((.iconst 2), 1) := by
  refine pj_dcd ?_
  unfold Decoder.instr
  refine (pj_rb1 (pj_u1 h (by decide))).trans ?_
  rfl
set_option maxRecDepth 100000 in
theorem pj_dc6 {c : ByteArray} {pc : Nat} (h : pj_by c pc = 6) : decode c pc = .ok ((.iconst 3), 1) := by
  refine pj_dcd ?_
  unfold Decoder.instr
  refine (pj_rb1 (pj_u1 h (by decide))).trans ?_
  rfl
set_option maxRecDepth 100000 in
theorem pj_dc7 {c : ByteArray} {pc : Nat} (h : pj_by c pc = 7) : decode c pc = .ok ((.iconst 4), 1) := by
  refine pj_dcd ?_
  unfold Decoder.instr
  refine (pj_rb1 (pj_u1 h (by decide))).trans ?_
  rfl
set_option maxRecDepth 100000 in
theorem pj_dc8 {c : ByteArray} {pc : Nat} (h : pj_by c pc = 8) : decode c pc = .ok ((.iconst 5), 1) := by
  refine pj_dcd ?_
  unfold Decoder.instr
  refine (pj_rb1 (pj_u1 h (by decide))).trans ?_
  rfl
set_option maxRecDepth 100000 in
theorem pj_dc9 {c : ByteArray} {pc : Nat} (h : pj_by c pc = 9) : decode c pc = .ok ((.lconst 0), 1) := by
  refine pj_dcd ?_
  unfold Decoder.instr
  refine (pj_rb1 (pj_u1 h (by decide))).trans ?_
  rfl
set_option maxRecDepth 100000 in
theorem pj_dc10 {c : ByteArray} {pc : Nat} (h : pj_by c pc = 10) : decode c pc = .ok ((.lconst 1), 1) := by
  refine pj_dcd ?_
  unfold Decoder.instr
  refine (pj_rb1 (pj_u1 h (by decide))).trans ?_
  rfl
set_option maxRecDepth 100000 in
theorem pj_dc26 {c : ByteArray} {pc : Nat} (h : pj_by c pc = 26) : decode c pc = .ok ((.iload_n 0), 1) := by
  refine pj_dcd ?_
  unfold Decoder.instr
  refine (pj_rb1 (pj_u1 h (by decide))).trans ?_
  rfl
set_option maxRecDepth 100000 in
theorem pj_dc27 {c : ByteArray} {pc : Nat} (h : pj_by c pc = 27) : decode c pc = .ok ((.iload_n 1), 1) := by
  refine pj_dcd ?_
  unfold Decoder.instr
  refine (pj_rb1 (pj_u1 h (by decide))).trans ?_
  rfl
set_option maxRecDepth 100000 in
theorem pj_dc28 {c : ByteArray} {pc : Nat} (h : pj_by c pc = 28) : decode c pc = .ok ((.iload_n 2), 1) := by
  refine pj_dcd ?_
  unfold Decoder.instr
  refine (pj_rb1 (pj_u1 h (by decide))).trans ?_
  rfl
set_option maxRecDepth 100000 in
theorem pj_dc29 {c : ByteArray} {pc : Nat} (h : pj_by c pc = 29) : decode c pc = .ok ((.iload_n 3), 1) := by
  refine pj_dcd ?_
  unfold Decoder.instr
  refine (pj_rb1 (pj_u1 h (by decide))).trans ?_
  rfl
set_option maxRecDepth 100000 in
theorem pj_dc30 {c : ByteArray} {pc : Nat} (h : pj_by c pc = 30) : decode c pc = .ok ((.lload_n 0), 1) := by
  refine pj_dcd ?_
  unfold Decoder.instr
  refine (pj_rb1 (pj_u1 h (by decide))).trans ?_
  rfl
set_option maxRecDepth 100000 in
theorem pj_dc31 {c : ByteArray} {pc : Nat} (h : pj_by c pc = 31) : decode c pc = .ok ((.lload_n 1), 1) := by
  refine pj_dcd ?_
  unfold Decoder.instr
  refine (pj_rb1 (pj_u1 h (by decide))).trans ?_
  rfl
set_option maxRecDepth 100000 in
theorem pj_dc32 {c : ByteArray} {pc : Nat} (h : pj_by c pc = 32) : decode c pc = .ok ((.lload_n 2), 1) := by
  refine pj_dcd ?_
  unfold Decoder.instr
  refine (pj_rb1 (pj_u1 h (by decide))).trans ?_
  rfl
set_option maxRecDepth 100000 in
theorem pj_dc33 {c : ByteArray} {pc : Nat} (h : pj_by c pc = 33) : decode c pc = .ok ((.lload_n 3), 1) := by
  refine pj_dcd ?_
  unfold Decoder.instr
  refine (pj_rb1 (pj_u1 h (by decide))).trans ?_
  rfl
set_option maxRecDepth 100000 in
theorem pj_dc42 {c : ByteArray} {pc : Nat} (h : pj_by c pc = 42) : decode c pc = .ok ((.aload_n 0), 1) := by
  refine pj_dcd ?_
  unfold Decoder.instr
  refine (pj_rb1 (pj_u1 h (by decide))).trans ?_
  rfl
set_option maxRecDepth 100000 in
theorem pj_dc43 {c : ByteArray} {pc : Nat} (h : pj_by c pc = 43) : decode c pc = .ok ((.aload_n 1), 1) := by
  refine pj_dcd ?_
  unfold Decoder.instr
  refine (pj_rb1 (pj_u1 h (by decide))).trans ?_
  rfl
set_option maxRecDepth 100000 in
theorem pj_dc44 {c : ByteArray} {pc : Nat} (h : pj_by c pc = 44) : decode c pc = .ok ((.aload_n 2), 1) := by
  refine pj_dcd ?_
  unfold Decoder.instr
  refine (pj_rb1 (pj_u1 h (by decide))).trans ?_
  rfl
set_option maxRecDepth 100000 in
theorem pj_dc45 {c : ByteArray} {pc : Nat} (h : pj_by c pc = 45) : decode c pc = .ok ((.aload_n 3), 1) := by
  refine pj_dcd ?_
  unfold Decoder.instr
  refine (pj_rb1 (pj_u1 h (by decide))).trans ?_
  rfl
set_option maxRecDepth 100000 in
theorem pj_dc46 {c : ByteArray} {pc : Nat} (h : pj_by c pc = 46) : decode c pc = .ok (.iaload, 1) := by
  refine pj_dcd ?_
  unfold Decoder.instr
  refine (pj_rb1 (pj_u1 h (by decide))).trans ?_
  rfl
set_option maxRecDepth 100000 in
theorem pj_dc47 {c : ByteArray} {pc : Nat} (h : pj_by c pc = 47) : decode c pc = .ok (.laload, 1) := by
  refine pj_dcd ?_
  unfold Decoder.instr
  refine (pj_rb1 (pj_u1 h (by decide))).trans ?_
  rfl
set_option maxRecDepth 100000 in
theorem pj_dc50 {c : ByteArray} {pc : Nat} (h : pj_by c pc = 50) : decode c pc = .ok (.aaload, 1) := by
  refine pj_dcd ?_
  unfold Decoder.instr
  refine (pj_rb1 (pj_u1 h (by decide))).trans ?_
  rfl
set_option maxRecDepth 100000 in
theorem pj_dc51 {c : ByteArray} {pc : Nat} (h : pj_by c pc = 51) : decode c pc = .ok (.baload, 1) := by
  refine pj_dcd ?_
  unfold Decoder.instr
  refine (pj_rb1 (pj_u1 h (by decide))).trans ?_
  rfl
set_option maxRecDepth 100000 in
theorem pj_dc59 {c : ByteArray} {pc : Nat} (h : pj_by c pc = 59) : decode c pc = .ok ((.istore_n 0), 1) := by
  refine pj_dcd ?_
  unfold Decoder.instr
  refine (pj_rb1 (pj_u1 h (by decide))).trans ?_
  rfl
set_option maxRecDepth 100000 in
theorem pj_dc60 {c : ByteArray} {pc : Nat} (h : pj_by c pc = 60) : decode c pc = .ok ((.istore_n 1), 1) := by
  refine pj_dcd ?_
  unfold Decoder.instr
  refine (pj_rb1 (pj_u1 h (by decide))).trans ?_
  rfl
set_option maxRecDepth 100000 in
theorem pj_dc61 {c : ByteArray} {pc : Nat} (h : pj_by c pc = 61) : decode c pc = .ok ((.istore_n 2), 1) := by
  refine pj_dcd ?_
  unfold Decoder.instr
  refine (pj_rb1 (pj_u1 h (by decide))).trans ?_
  rfl
set_option maxRecDepth 100000 in
theorem pj_dc62 {c : ByteArray} {pc : Nat} (h : pj_by c pc = 62) : decode c pc = .ok ((.istore_n 3), 1) := by
  refine pj_dcd ?_
  unfold Decoder.instr
  refine (pj_rb1 (pj_u1 h (by decide))).trans ?_
  rfl
set_option maxRecDepth 100000 in
theorem pj_dc63 {c : ByteArray} {pc : Nat} (h : pj_by c pc = 63) : decode c pc = .ok ((.lstore_n 0), 1) := by
  refine pj_dcd ?_
  unfold Decoder.instr
  refine (pj_rb1 (pj_u1 h (by decide))).trans ?_
  rfl
set_option maxRecDepth 100000 in
theorem pj_dc64 {c : ByteArray} {pc : Nat} (h : pj_by c pc = 64) : decode c pc = .ok ((.lstore_n 1), 1) := by
  refine pj_dcd ?_
  unfold Decoder.instr
  refine (pj_rb1 (pj_u1 h (by decide))).trans ?_
  rfl
set_option maxRecDepth 100000 in
theorem pj_dc65 {c : ByteArray} {pc : Nat} (h : pj_by c pc = 65) : decode c pc = .ok ((.lstore_n 2), 1) := by
  refine pj_dcd ?_
  unfold Decoder.instr
  refine (pj_rb1 (pj_u1 h (by decide))).trans ?_
  rfl
set_option maxRecDepth 100000 in
theorem pj_dc66 {c : ByteArray} {pc : Nat} (h : pj_by c pc = 66) : decode c pc = .ok ((.lstore_n 3), 1) := by
  refine pj_dcd ?_
  unfold Decoder.instr
  refine (pj_rb1 (pj_u1 h (by decide))).trans ?_
  rfl
set_option maxRecDepth 100000 in
theorem pj_dc75 {c : ByteArray} {pc : Nat} (h : pj_by c pc = 75) : decode c pc = .ok ((.astore_n 0), 1) := by
  refine pj_dcd ?_
  unfold Decoder.instr
  refine (pj_rb1 (pj_u1 h (by decide))).trans ?_
  rfl
set_option maxRecDepth 100000 in
theorem pj_dc76 {c : ByteArray} {pc : Nat} (h : pj_by c pc = 76) : decode c pc = .ok ((.astore_n 1), 1) := by
  refine pj_dcd ?_
  unfold Decoder.instr
  refine (pj_rb1 (pj_u1 h (by decide))).trans ?_
  rfl
set_option maxRecDepth 100000 in
theorem pj_dc77 {c : ByteArray} {pc : Nat} (h : pj_by c pc = 77) : decode c pc = .ok ((.astore_n 2), 1) := by
  refine pj_dcd ?_
  unfold Decoder.instr
  refine (pj_rb1 (pj_u1 h (by decide))).trans ?_
  rfl
set_option maxRecDepth 100000 in
theorem pj_dc78 {c : ByteArray} {pc : Nat} (h : pj_by c pc = 78) : decode c pc = .ok ((.astore_n 3), 1) := by
  refine pj_dcd ?_
  unfold Decoder.instr
  refine (pj_rb1 (pj_u1 h (by decide))).trans ?_
  rfl
set_option maxRecDepth 100000 in
theorem pj_dc79 {c : ByteArray} {pc : Nat} (h : pj_by c pc = 79) : decode c pc = .ok (.iastore, 1) := by
  refine pj_dcd ?_
  unfold Decoder.instr
  refine (pj_rb1 (pj_u1 h (by decide))).trans ?_
  rfl
set_option maxRecDepth 100000 in
theorem pj_dc80 {c : ByteArray} {pc : Nat} (h : pj_by c pc = 80) : decode c pc = .ok (.lastore, 1) := by
  refine pj_dcd ?_
  unfold Decoder.instr
  refine (pj_rb1 (pj_u1 h (by decide))).trans ?_
  rfl
set_option maxRecDepth 100000 in
theorem pj_dc83 {c : ByteArray} {pc : Nat} (h : pj_by c pc = 83) : decode c pc = .ok (.aastore, 1) := by
  refine pj_dcd ?_
  unfold Decoder.instr
  refine (pj_rb1 (pj_u1 h (by decide))).trans ?_
  rfl
set_option maxRecDepth 100000 in
theorem pj_dc84 {c : ByteArray} {pc : Nat} (h : pj_by c pc = 84) : decode c pc = .ok (.bastore, 1) := by
  refine pj_dcd ?_
  unfold Decoder.instr
  refine (pj_rb1 (pj_u1 h (by decide))).trans ?_
  rfl
set_option maxRecDepth 100000 in
theorem pj_dc87 {c : ByteArray} {pc : Nat} (h : pj_by c pc = 87) : decode c pc = .ok (.pop, 1) := by
  refine pj_dcd ?_
  unfold Decoder.instr
  refine (pj_rb1 (pj_u1 h (by decide))).trans ?_
  rfl
set_option maxRecDepth 100000 in
theorem pj_dc89 {c : ByteArray} {pc : Nat} (h : pj_by c pc = 89) : decode c pc = .ok (.dup, 1) := by
  refine pj_dcd ?_
  unfold Decoder.instr
  refine (pj_rb1 (pj_u1 h (by decide))).trans ?_
  rfl
set_option maxRecDepth 100000 in
theorem pj_dc92 {c : ByteArray} {pc : Nat} (h : pj_by c pc = 92) : decode c pc = .ok (.dup2, 1) := by
  refine pj_dcd ?_
  unfold Decoder.instr
  refine (pj_rb1 (pj_u1 h (by decide))).trans ?_
  rfl
set_option maxRecDepth 100000 in
theorem pj_dc96 {c : ByteArray} {pc : Nat} (h : pj_by c pc = 96) : decode c pc = .ok (.iadd, 1) := by
  refine pj_dcd ?_
  unfold Decoder.instr
  refine (pj_rb1 (pj_u1 h (by decide))).trans ?_
  rfl
set_option maxRecDepth 100000 in
theorem pj_dc97 {c : ByteArray} {pc : Nat} (h : pj_by c pc = 97) : decode c pc = .ok (.ladd, 1) := by
  refine pj_dcd ?_
  unfold Decoder.instr
  refine (pj_rb1 (pj_u1 h (by decide))).trans ?_
  rfl
set_option maxRecDepth 100000 in
theorem pj_dc100 {c : ByteArray} {pc : Nat} (h : pj_by c pc = 100) : decode c pc = .ok (.isub, 1) := by
  refine pj_dcd ?_
  unfold Decoder.instr
  refine (pj_rb1 (pj_u1 h (by decide))).trans ?_
  rfl
set_option maxRecDepth 100000 in
theorem pj_dc101 {c : ByteArray} {pc : Nat} (h : pj_by c pc = 101) : decode c pc = .ok (.lsub, 1) := by
  refine pj_dcd ?_
  unfold Decoder.instr
  refine (pj_rb1 (pj_u1 h (by decide))).trans ?_
  rfl
set_option maxRecDepth 100000 in
theorem pj_dc104 {c : ByteArray} {pc : Nat} (h : pj_by c pc = 104) : decode c pc = .ok (.imul, 1) := by
  refine pj_dcd ?_
  unfold Decoder.instr
  refine (pj_rb1 (pj_u1 h (by decide))).trans ?_
  rfl
set_option maxRecDepth 100000 in
theorem pj_dc105 {c : ByteArray} {pc : Nat} (h : pj_by c pc = 105) : decode c pc = .ok (.lmul, 1) := by
  refine pj_dcd ?_
  unfold Decoder.instr
  refine (pj_rb1 (pj_u1 h (by decide))).trans ?_
  rfl
set_option maxRecDepth 100000 in
theorem pj_dc108 {c : ByteArray} {pc : Nat} (h : pj_by c pc = 108) : decode c pc = .ok (.idiv, 1) := by
  refine pj_dcd ?_
  unfold Decoder.instr
  refine (pj_rb1 (pj_u1 h (by decide))).trans ?_
  rfl
set_option maxRecDepth 100000 in
theorem pj_dc109 {c : ByteArray} {pc : Nat} (h : pj_by c pc = 109) : decode c pc = .ok (.ldiv, 1) := by
  refine pj_dcd ?_
  unfold Decoder.instr
  refine (pj_rb1 (pj_u1 h (by decide))).trans ?_
  rfl
set_option maxRecDepth 100000 in
theorem pj_dc112 {c : ByteArray} {pc : Nat} (h : pj_by c pc = 112) : decode c pc = .ok (.irem, 1) := by
  refine pj_dcd ?_
  unfold Decoder.instr
  refine (pj_rb1 (pj_u1 h (by decide))).trans ?_
  rfl
set_option maxRecDepth 100000 in
theorem pj_dc113 {c : ByteArray} {pc : Nat} (h : pj_by c pc = 113) : decode c pc = .ok (.lrem, 1) := by
  refine pj_dcd ?_
  unfold Decoder.instr
  refine (pj_rb1 (pj_u1 h (by decide))).trans ?_
  rfl
set_option maxRecDepth 100000 in
theorem pj_dc116 {c : ByteArray} {pc : Nat} (h : pj_by c pc = 116) : decode c pc = .ok (.ineg, 1) := by
  refine pj_dcd ?_
  unfold Decoder.instr
  refine (pj_rb1 (pj_u1 h (by decide))).trans ?_
  rfl
set_option maxRecDepth 100000 in
theorem pj_dc120 {c : ByteArray} {pc : Nat} (h : pj_by c pc = 120) : decode c pc = .ok (.ishl, 1) := by
  refine pj_dcd ?_
  unfold Decoder.instr
  refine (pj_rb1 (pj_u1 h (by decide))).trans ?_
  rfl
set_option maxRecDepth 100000 in
theorem pj_dc122 {c : ByteArray} {pc : Nat} (h : pj_by c pc = 122) : decode c pc = .ok (.ishr, 1) := by
  refine pj_dcd ?_
  unfold Decoder.instr
  refine (pj_rb1 (pj_u1 h (by decide))).trans ?_
  rfl
set_option maxRecDepth 100000 in
theorem pj_dc124 {c : ByteArray} {pc : Nat} (h : pj_by c pc = 124) : decode c pc = .ok (.iushr, 1) := by
  refine pj_dcd ?_
  unfold Decoder.instr
  refine (pj_rb1 (pj_u1 h (by decide))).trans ?_
  rfl
set_option maxRecDepth 100000 in
theorem pj_dc126 {c : ByteArray} {pc : Nat} (h : pj_by c pc = 126) : decode c pc = .ok (.iand, 1) := by
  refine pj_dcd ?_
  unfold Decoder.instr
  refine (pj_rb1 (pj_u1 h (by decide))).trans ?_
  rfl
set_option maxRecDepth 100000 in
theorem pj_dc128 {c : ByteArray} {pc : Nat} (h : pj_by c pc = 128) : decode c pc = .ok (.ior, 1) := by
  refine pj_dcd ?_
  unfold Decoder.instr
  refine (pj_rb1 (pj_u1 h (by decide))).trans ?_
  rfl
set_option maxRecDepth 100000 in
theorem pj_dc130 {c : ByteArray} {pc : Nat} (h : pj_by c pc = 130) : decode c pc = .ok (.ixor, 1) := by
  refine pj_dcd ?_
  unfold Decoder.instr
  refine (pj_rb1 (pj_u1 h (by decide))).trans ?_
  rfl
set_option maxRecDepth 100000 in
theorem pj_dc133 {c : ByteArray} {pc : Nat} (h : pj_by c pc = 133) : decode c pc = .ok (.i2l, 1) := by
  refine pj_dcd ?_
  unfold Decoder.instr
  refine (pj_rb1 (pj_u1 h (by decide))).trans ?_
  rfl
set_option maxRecDepth 100000 in
theorem pj_dc145 {c : ByteArray} {pc : Nat} (h : pj_by c pc = 145) : decode c pc = .ok (.i2b, 1) := by
  refine pj_dcd ?_
  unfold Decoder.instr
  refine (pj_rb1 (pj_u1 h (by decide))).trans ?_
  rfl
set_option maxRecDepth 100000 in
theorem pj_dc146 {c : ByteArray} {pc : Nat} (h : pj_by c pc = 146) : decode c pc = .ok (.i2c, 1) := by
  refine pj_dcd ?_
  unfold Decoder.instr
  refine (pj_rb1 (pj_u1 h (by decide))).trans ?_
  rfl
set_option maxRecDepth 100000 in
theorem pj_dc147 {c : ByteArray} {pc : Nat} (h : pj_by c pc = 147) : decode c pc = .ok (.i2s, 1) := by
  refine pj_dcd ?_
  unfold Decoder.instr
  refine (pj_rb1 (pj_u1 h (by decide))).trans ?_
  rfl
set_option maxRecDepth 100000 in
theorem pj_dc148 {c : ByteArray} {pc : Nat} (h : pj_by c pc = 148) : decode c pc = .ok (.lcmp, 1) := by
  refine pj_dcd ?_
  unfold Decoder.instr
  refine (pj_rb1 (pj_u1 h (by decide))).trans ?_
  rfl
set_option maxRecDepth 100000 in
theorem pj_dc172 {c : ByteArray} {pc : Nat} (h : pj_by c pc = 172) : decode c pc = .ok (.ireturn, 1) := by
  refine pj_dcd ?_
  unfold Decoder.instr
  refine (pj_rb1 (pj_u1 h (by decide))).trans ?_
  rfl
set_option maxRecDepth 100000 in
theorem pj_dc173 {c : ByteArray} {pc : Nat} (h : pj_by c pc = 173) : decode c pc = .ok (.lreturn, 1) := by
  refine pj_dcd ?_
  unfold Decoder.instr
  refine (pj_rb1 (pj_u1 h (by decide))).trans ?_
  rfl
set_option maxRecDepth 100000 in
theorem pj_dc176 {c : ByteArray} {pc : Nat} (h : pj_by c pc = 176) : decode c pc = .ok (.areturn, 1) := by
  refine pj_dcd ?_
  unfold Decoder.instr
  refine (pj_rb1 (pj_u1 h (by decide))).trans ?_
  rfl
set_option maxRecDepth 100000 in
theorem pj_dc177 {c : ByteArray} {pc : Nat} (h : pj_by c pc = 177) : decode c pc = .ok (.return_, 1) := by
  refine pj_dcd ?_
  unfold Decoder.instr
  refine (pj_rb1 (pj_u1 h (by decide))).trans ?_
  rfl
set_option maxRecDepth 100000 in
theorem pj_dc190 {c : ByteArray} {pc : Nat} (h : pj_by c pc = 190) : decode c pc = .ok (.arraylength, 1) := by
  refine pj_dcd ?_
  unfold Decoder.instr
  refine (pj_rb1 (pj_u1 h (by decide))).trans ?_
  rfl
set_option maxRecDepth 100000 in
theorem pj_dc18 {c : ByteArray} {pc k : Nat} (h : pj_by c pc = 18) (h1 : pj_by c (pc + 1) = k) (hk : k < 256) : decode c pc = .ok (.ldc k, 2) := by
  refine pj_dcd ?_
  unfold Decoder.instr
  refine (pj_rb1 (pj_u1 h (by decide))).trans ?_
  refine (pj_rb1 (pj_u1 h1 hk)).trans ?_
  rfl
set_option maxRecDepth 100000 in
theorem pj_dc21 {c : ByteArray} {pc k : Nat} (h : pj_by c pc = 21) (h1 : pj_by c (pc + 1) = k) (hk : k < 256) : decode c pc = .ok (.iload k, 2) := by
  refine pj_dcd ?_
  unfold Decoder.instr
  refine (pj_rb1 (pj_u1 h (by decide))).trans ?_
  refine (pj_rb1 (pj_u1 h1 hk)).trans ?_
  rfl
set_option maxRecDepth 100000 in
theorem pj_dc22 {c : ByteArray} {pc k : Nat} (h : pj_by c pc = 22) (h1 : pj_by c (pc + 1) = k) (hk : k < 256) : decode c pc = .ok (.lload k, 2) := by
  refine pj_dcd ?_
  unfold Decoder.instr
  refine (pj_rb1 (pj_u1 h (by decide))).trans ?_
  refine (pj_rb1 (pj_u1 h1 hk)).trans ?_
  rfl
set_option maxRecDepth 100000 in
theorem pj_dc25 {c : ByteArray} {pc k : Nat} (h : pj_by c pc = 25) (h1 : pj_by c (pc + 1) = k) (hk : k < 256) : decode c pc = .ok (.aload k, 2) := by
  refine pj_dcd ?_
  unfold Decoder.instr
  refine (pj_rb1 (pj_u1 h (by decide))).trans ?_
  refine (pj_rb1 (pj_u1 h1 hk)).trans ?_
  rfl
set_option maxRecDepth 100000 in
theorem pj_dc54 {c : ByteArray} {pc k : Nat} (h : pj_by c pc = 54) (h1 : pj_by c (pc + 1) = k) (hk : k < 256) : decode c pc = .ok (.istore k, 2) := by
  refine pj_dcd ?_
  unfold Decoder.instr
  refine (pj_rb1 (pj_u1 h (by decide))).trans ?_
  refine (pj_rb1 (pj_u1 h1 hk)).trans ?_
  rfl
set_option maxRecDepth 100000 in
theorem pj_dc55 {c : ByteArray} {pc k : Nat} (h : pj_by c pc = 55) (h1 : pj_by c (pc + 1) = k) (hk : k < 256) : decode c pc = .ok (.lstore k, 2) := by
  refine pj_dcd ?_
  unfold Decoder.instr
  refine (pj_rb1 (pj_u1 h (by decide))).trans ?_
  refine (pj_rb1 (pj_u1 h1 hk)).trans ?_
  rfl
set_option maxRecDepth 100000 in
theorem pj_dc58 {c : ByteArray} {pc k : Nat} (h : pj_by c pc = 58) (h1 : pj_by c (pc + 1) = k) (hk : k < 256) : decode c pc = .ok (.astore k, 2) := by
  refine pj_dcd ?_
  unfold Decoder.instr
  refine (pj_rb1 (pj_u1 h (by decide))).trans ?_
  refine (pj_rb1 (pj_u1 h1 hk)).trans ?_
  rfl
set_option maxRecDepth 100000 in
theorem pj_dc16 {c : ByteArray} {pc k : Nat} (h : pj_by c pc = 16) (h1 : pj_by c (pc + 1) = k) (hk : k < 256) : decode c pc = .ok (.bipush (Reader.signed 8 k), 2) := by
  refine pj_dcd ?_
  unfold Decoder.instr
  refine (pj_rb1 (pj_u1 h (by decide))).trans ?_
  refine (pj_rb1 (pj_rm1 (pj_u1 h1 hk))).trans ?_
  rfl
set_option maxRecDepth 100000 in
theorem pj_dc132 {c : ByteArray} {pc k m : Nat} (h : pj_by c pc = 132) (h1 : pj_by c (pc + 1) = k) (hk : k < 256) (h2 : pj_by c (pc + 2) = m) (hm : m < 256) : decode c pc = .ok (.iinc k (Reader.signed 8 m), 3) := by
  refine pj_dcd ?_
  unfold Decoder.instr
  refine (pj_rb1 (pj_u1 h (by decide))).trans ?_
  refine (pj_rb1 (pj_u1 h1 hk)).trans ?_
  refine (pj_rb1 (pj_rm1 (pj_u1 h2 hm))).trans ?_
  rfl
set_option maxRecDepth 100000 in
theorem pj_dc19 {c : ByteArray} {pc k m : Nat} (h : pj_by c pc = 19) (h1 : pj_by c (pc + 1) = k) (hk : k < 256) (h2 : pj_by c (pc + 2) = m) (hm : m < 256) : decode c pc = .ok (.ldc_w (k * 256 + m), 3) := by
  refine pj_dcd ?_
  unfold Decoder.instr
  refine (pj_rb1 (pj_u1 h (by decide))).trans ?_
  refine (pj_rb1 (pj_u2 h1 hk h2 hm)).trans ?_
  rfl
set_option maxRecDepth 100000 in
theorem pj_dc20 {c : ByteArray} {pc k m : Nat} (h : pj_by c pc = 20) (h1 : pj_by c (pc + 1) = k) (hk : k < 256) (h2 : pj_by c (pc + 2) = m) (hm : m < 256) : decode c pc = .ok (.ldc2_w (k * 256 + m), 3) := by
  refine pj_dcd ?_
  unfold Decoder.instr
  refine (pj_rb1 (pj_u1 h (by decide))).trans ?_
  refine (pj_rb1 (pj_u2 h1 hk h2 hm)).trans ?_
  rfl
set_option maxRecDepth 100000 in
theorem pj_dc180 {c : ByteArray} {pc k m : Nat} (h : pj_by c pc = 180) (h1 : pj_by c (pc + 1) = k) (hk : k < 256) (h2 : pj_by c (pc + 2) = m) (hm : m < 256) : decode c pc = .ok (.getfield (k * 256 + m), 3) := by
  refine pj_dcd ?_
  unfold Decoder.instr
  refine (pj_rb1 (pj_u1 h (by decide))).trans ?_
  refine (pj_rb1 (pj_u2 h1 hk h2 hm)).trans ?_
  rfl
set_option maxRecDepth 100000 in
theorem pj_dc181 {c : ByteArray} {pc k m : Nat} (h : pj_by c pc = 181) (h1 : pj_by c (pc + 1) = k) (hk : k < 256) (h2 : pj_by c (pc + 2) = m) (hm : m < 256) : decode c pc = .ok (.putfield (k * 256 + m), 3) := by
  refine pj_dcd ?_
  unfold Decoder.instr
  refine (pj_rb1 (pj_u1 h (by decide))).trans ?_
  refine (pj_rb1 (pj_u2 h1 hk h2 hm)).trans ?_
  rfl
set_option maxRecDepth 100000 in
theorem pj_dc182 {c : ByteArray} {pc k m : Nat} (h : pj_by c pc = 182) (h1 : pj_by c (pc + 1) = k) (hk : k < 256) (h2 : pj_by c (pc + 2) = m) (hm : m < 256) : decode c pc = .ok (.invokevirtual (k * 256 + m), 3) := by
  refine pj_dcd ?_
  unfold Decoder.instr
  refine (pj_rb1 (pj_u1 h (by decide))).trans ?_
  refine (pj_rb1 (pj_u2 h1 hk h2 hm)).trans ?_
  rfl
set_option maxRecDepth 100000 in
theorem pj_dc183 {c : ByteArray} {pc k m : Nat} (h : pj_by c pc = 183) (h1 : pj_by c (pc + 1) = k) (hk : k < 256) (h2 : pj_by c (pc + 2) = m) (hm : m < 256) : decode c pc = .ok (.invokespecial (k * 256 + m), 3) := by
  refine pj_dcd ?_
  unfold Decoder.instr
  refine (pj_rb1 (pj_u1 h (by decide))).trans ?_
  refine (pj_rb1 (pj_u2 h1 hk h2 hm)).trans ?_
  rfl
set_option maxRecDepth 100000 in
theorem pj_dc184 {c : ByteArray} {pc k m : Nat} (h : pj_by c pc = 184) (h1 : pj_by c (pc + 1) = k) (hk : k < 256) (h2 : pj_by c (pc + 2) = m) (hm : m < 256) : decode c pc = .ok (.invokestatic (k * 256 + m), 3) := by
  refine pj_dcd ?_
  unfold Decoder.instr
  refine (pj_rb1 (pj_u1 h (by decide))).trans ?_
  refine (pj_rb1 (pj_u2 h1 hk h2 hm)).trans ?_
  rfl
set_option maxRecDepth 100000 in
theorem pj_dc187 {c : ByteArray} {pc k m : Nat} (h : pj_by c pc = 187) (h1 : pj_by c (pc + 1) = k) (hk : k < 256) (h2 : pj_by c (pc + 2) = m) (hm : m < 256) : decode c pc = .ok (.new (k * 256 + m), 3) := by
  refine pj_dcd ?_
  unfold Decoder.instr
  refine (pj_rb1 (pj_u1 h (by decide))).trans ?_
  refine (pj_rb1 (pj_u2 h1 hk h2 hm)).trans ?_
  rfl
set_option maxRecDepth 100000 in
theorem pj_dc189 {c : ByteArray} {pc k m : Nat} (h : pj_by c pc = 189) (h1 : pj_by c (pc + 1) = k) (hk : k < 256) (h2 : pj_by c (pc + 2) = m) (hm : m < 256) : decode c pc = .ok (.anewarray (k * 256 + m), 3) := by
  refine pj_dcd ?_
  unfold Decoder.instr
  refine (pj_rb1 (pj_u1 h (by decide))).trans ?_
  refine (pj_rb1 (pj_u2 h1 hk h2 hm)).trans ?_
  rfl
set_option maxRecDepth 100000 in
theorem pj_dc17 {c : ByteArray} {pc k m : Nat} (h : pj_by c pc = 17) (h1 : pj_by c (pc + 1) = k) (hk : k < 256) (h2 : pj_by c (pc + 2) = m) (hm : m < 256) : decode c pc = .ok (.sipush (Reader.signed 16 (k * 256 + m)), 3) := by
  refine pj_dcd ?_
  unfold Decoder.instr
  refine (pj_rb1 (pj_u1 h (by decide))).trans ?_
  refine (pj_rb1 (pj_rm1 (pj_u2 h1 hk h2 hm))).trans ?_
  rfl
set_option maxRecDepth 100000 in
theorem pj_dc167 {c : ByteArray} {pc k m : Nat} (h : pj_by c pc = 167) (h1 : pj_by c (pc + 1) = k) (hk : k < 256) (h2 : pj_by c (pc + 2) = m) (hm : m < 256) : decode c pc = .ok (.goto (Reader.signed 16 (k * 256 + m)), 3) := by
  refine pj_dcd ?_
  unfold Decoder.instr
  refine (pj_rb1 (pj_u1 h (by decide))).trans ?_
  refine (pj_rb1 (pj_rm1 (pj_u2 h1 hk h2 hm))).trans ?_
  rfl
set_option maxRecDepth 100000 in
theorem pj_dc153 {c : ByteArray} {pc k m : Nat} (h : pj_by c pc = 153) (h1 : pj_by c (pc + 1) = k) (hk : k < 256) (h2 : pj_by c (pc + 2) = m) (hm : m < 256) : decode c pc = .ok (.ifCond .eq (Reader.signed 16 (k * 256 + m)), 3) := by
  refine pj_dcd ?_
  unfold Decoder.instr
  refine (pj_rb1 (pj_u1 h (by decide))).trans ?_
  refine (pj_rb1 (pj_rm1 (pj_u2 h1 hk h2 hm))).trans ?_
  rfl
set_option maxRecDepth 100000 in
theorem pj_dc159 {c : ByteArray} {pc k m : Nat} (h : pj_by c pc = 159) (h1 : pj_by c (pc + 1) = k) (hk : k < 256) (h2 : pj_by c (pc + 2) = m) (hm : m < 256) : decode c pc = .ok (.if_icmp .eq (Reader.signed 16 (k * 256 + m)), 3) := by
  refine pj_dcd ?_
  unfold Decoder.instr
  refine (pj_rb1 (pj_u1 h (by decide))).trans ?_
  refine (pj_rb1 (pj_rm1 (pj_u2 h1 hk h2 hm))).trans ?_
  rfl
set_option maxRecDepth 100000 in
theorem pj_dc154 {c : ByteArray} {pc k m : Nat} (h : pj_by c pc = 154) (h1 : pj_by c (pc + 1) = k) (hk : k < 256) (h2 : pj_by c (pc + 2) = m) (hm : m < 256) : decode c pc = .ok (.ifCond .ne (Reader.signed 16 (k * 256 + m)), 3) := by
  refine pj_dcd ?_
  unfold Decoder.instr
  refine (pj_rb1 (pj_u1 h (by decide))).trans ?_
  refine (pj_rb1 (pj_rm1 (pj_u2 h1 hk h2 hm))).trans ?_
  rfl
set_option maxRecDepth 100000 in
theorem pj_dc160 {c : ByteArray} {pc k m : Nat} (h : pj_by c pc = 160) (h1 : pj_by c (pc + 1) = k) (hk : k < 256) (h2 : pj_by c (pc + 2) = m) (hm : m < 256) : decode c pc = .ok (.if_icmp .ne (Reader.signed 16 (k * 256 + m)), 3) := by
  refine pj_dcd ?_
  unfold Decoder.instr
  refine (pj_rb1 (pj_u1 h (by decide))).trans ?_
  refine (pj_rb1 (pj_rm1 (pj_u2 h1 hk h2 hm))).trans ?_
  rfl
set_option maxRecDepth 100000 in
theorem pj_dc155 {c : ByteArray} {pc k m : Nat} (h : pj_by c pc = 155) (h1 : pj_by c (pc + 1) = k) (hk : k < 256) (h2 : pj_by c (pc + 2) = m) (hm : m < 256) : decode c pc = .ok (.ifCond .lt (Reader.signed 16 (k * 256 + m)), 3) := by
  refine pj_dcd ?_
  unfold Decoder.instr
  refine (pj_rb1 (pj_u1 h (by decide))).trans ?_
  refine (pj_rb1 (pj_rm1 (pj_u2 h1 hk h2 hm))).trans ?_
  rfl
set_option maxRecDepth 100000 in
theorem pj_dc161 {c : ByteArray} {pc k m : Nat} (h : pj_by c pc = 161) (h1 : pj_by c (pc + 1) = k) (hk : k < 256) (h2 : pj_by c (pc + 2) = m) (hm : m < 256) : decode c pc = .ok (.if_icmp .lt (Reader.signed 16 (k * 256 + m)), 3) := by
  refine pj_dcd ?_
  unfold Decoder.instr
  refine (pj_rb1 (pj_u1 h (by decide))).trans ?_
  refine (pj_rb1 (pj_rm1 (pj_u2 h1 hk h2 hm))).trans ?_
  rfl
set_option maxRecDepth 100000 in
theorem pj_dc156 {c : ByteArray} {pc k m : Nat} (h : pj_by c pc = 156) (h1 : pj_by c (pc + 1) = k) (hk : k < 256) (h2 : pj_by c (pc + 2) = m) (hm : m < 256) : decode c pc = .ok (.ifCond .ge (Reader.signed 16 (k * 256 + m)), 3) := by
  refine pj_dcd ?_
  unfold Decoder.instr
  refine (pj_rb1 (pj_u1 h (by decide))).trans ?_
  refine (pj_rb1 (pj_rm1 (pj_u2 h1 hk h2 hm))).trans ?_
  rfl
set_option maxRecDepth 100000 in
theorem pj_dc162 {c : ByteArray} {pc k m : Nat} (h : pj_by c pc = 162) (h1 : pj_by c (pc + 1) = k) (hk : k < 256) (h2 : pj_by c (pc + 2) = m) (hm : m < 256) : decode c pc = .ok (.if_icmp .ge (Reader.signed 16 (k * 256 + m)), 3) := by
  refine pj_dcd ?_
  unfold Decoder.instr
  refine (pj_rb1 (pj_u1 h (by decide))).trans ?_
  refine (pj_rb1 (pj_rm1 (pj_u2 h1 hk h2 hm))).trans ?_
  rfl
set_option maxRecDepth 100000 in
theorem pj_dc157 {c : ByteArray} {pc k m : Nat} (h : pj_by c pc = 157) (h1 : pj_by c (pc + 1) = k) (hk : k < 256) (h2 : pj_by c (pc + 2) = m) (hm : m < 256) : decode c pc = .ok (.ifCond .gt (Reader.signed 16 (k * 256 + m)), 3) := by
  refine pj_dcd ?_
  unfold Decoder.instr
  refine (pj_rb1 (pj_u1 h (by decide))).trans ?_
  refine (pj_rb1 (pj_rm1 (pj_u2 h1 hk h2 hm))).trans ?_
  rfl
set_option maxRecDepth 100000 in
theorem pj_dc163 {c : ByteArray} {pc k m : Nat} (h : pj_by c pc = 163) (h1 : pj_by c (pc + 1) = k) (hk : k < 256) (h2 : pj_by c (pc + 2) = m) (hm : m < 256) : decode c pc = .ok (.if_icmp .gt (Reader.signed 16 (k * 256 + m)), 3) := by
  refine pj_dcd ?_
  unfold Decoder.instr
  refine (pj_rb1 (pj_u1 h (by decide))).trans ?_
  refine (pj_rb1 (pj_rm1 (pj_u2 h1 hk h2 hm))).trans ?_
  rfl
set_option maxRecDepth 100000 in
theorem pj_dc158 {c : ByteArray} {pc k m : Nat} (h : pj_by c pc = 158) (h1 : pj_by c (pc + 1) = k) (hk : k < 256) (h2 : pj_by c (pc + 2) = m) (hm : m < 256) : decode c pc = .ok (.ifCond .le (Reader.signed 16 (k * 256 + m)), 3) := by
  refine pj_dcd ?_
  unfold Decoder.instr
  refine (pj_rb1 (pj_u1 h (by decide))).trans ?_
  refine (pj_rb1 (pj_rm1 (pj_u2 h1 hk h2 hm))).trans ?_
  rfl
set_option maxRecDepth 100000 in
theorem pj_dc164 {c : ByteArray} {pc k m : Nat} (h : pj_by c pc = 164) (h1 : pj_by c (pc + 1) = k) (hk : k < 256) (h2 : pj_by c (pc + 2) = m) (hm : m < 256) : decode c pc = .ok (.if_icmp .le (Reader.signed 16 (k * 256 + m)), 3) := by
  refine pj_dcd ?_
  unfold Decoder.instr
  refine (pj_rb1 (pj_u1 h (by decide))).trans ?_
  refine (pj_rb1 (pj_rm1 (pj_u2 h1 hk h2 hm))).trans ?_
  rfl
def pj_d0 (c : ByteArray) (pc len b : Nat) : Bool := Nat.beq len 1 && Nat.beq (pj_by c pc) b
def pj_d1 (c : ByteArray) (pc len b k : Nat) : Bool := Nat.beq len 2 && (Nat.beq (pj_by c pc) b && (Nat.beq (pj_by c (pc + 1)) k && Nat.blt k 256))
def pj_d2 (c : ByteArray) (pc len b k : Nat) : Bool := Nat.beq len 3 && (Nat.beq (pj_by c pc) b && (Nat.blt (pj_by c (pc + 1)) 256 && (Nat.blt (pj_by c (pc + 2)) 256 && Nat.beq (pj_by c (pc + 1) * 256 + pj_by c (pc + 2)) k)))
def pj_ds (c : ByteArray) (pc len b : Nat) (k : Int) : Bool := Nat.beq len 3 && (Nat.beq (pj_by c pc) b && (Nat.blt (pj_by c (pc + 1)) 256 && (Nat.blt (pj_by c (pc + 2)) 256 && decide (Reader.signed 16 (pj_by c (pc + 1) * 256 + pj_by c (pc + 2)) = k))))
theorem pj_d0_s {c : ByteArray} {pc len b : Nat} (h : pj_d0 c pc len b = true) : len = 1 ∧ pj_by c pc = b := by
  unfold pj_d0 at h
  rw [Bool.and_eq_true] at h
  exact ⟨Nat.eq_of_beq_eq_true h.1, Nat.eq_of_beq_eq_true h.2⟩
theorem pj_d1_s {c : ByteArray} {pc len b k : Nat} (h : pj_d1 c pc len b k = true) : len = 2 ∧ pj_by c pc = b ∧ pj_by c (pc + 1) = k ∧ k < 256 := by
  unfold pj_d1 at h
  rw [Bool.and_eq_true, Bool.and_eq_true, Bool.and_eq_true] at h
  exact ⟨Nat.eq_of_beq_eq_true h.1, Nat.eq_of_beq_eq_true h.2.1, Nat.eq_of_beq_eq_true h.2.2.1, Nat.le_of_ble_eq_true h.2.2.2⟩
theorem pj_d2_s {c : ByteArray} {pc len b k : Nat} (h : pj_d2 c pc len b k = true) : len = 3 ∧ pj_by c pc = b ∧ pj_by c (pc + 1) < 256 ∧ pj_by c (pc + 2) < 256 ∧ pj_by c (pc + 1) * 256 + pj_by c (pc + 2) = k := by
  unfold pj_d2 at h
  rw [Bool.and_eq_true, Bool.and_eq_true, Bool.and_eq_true, Bool.and_eq_true] at h
  exact ⟨Nat.eq_of_beq_eq_true h.1, Nat.eq_of_beq_eq_true h.2.1, Nat.le_of_ble_eq_true h.2.2.1, Nat.le_of_ble_eq_true h.2.2.2.1, Nat.eq_of_beq_eq_true h.2.2.2.2⟩
theorem pj_ds_s {c : ByteArray} {pc len b : Nat} {k : Int} (h : pj_ds c pc len b k = true) : len = 3 ∧ pj_by c pc = b ∧ pj_by c (pc + 1) < 256 ∧ pj_by c (pc + 2) < 256 ∧ Reader.signed 16 (pj_by c (pc + 1) * 256 + pj_by c (pc + 2)) = k := by
  unfold pj_ds at h
  rw [Bool.and_eq_true, Bool.and_eq_true, Bool.and_eq_true, Bool.and_eq_true] at h
  exact ⟨Nat.eq_of_beq_eq_true h.1, Nat.eq_of_beq_eq_true h.2.1, Nat.le_of_ble_eq_true h.2.2.1, Nat.le_of_ble_eq_true h.2.2.2.1, of_decide_eq_true h.2.2.2.2⟩
/-- what lies there is decoded so -/
def pj_dq (c : ByteArray) (pc : Nat) (i : Instr) (len : Nat) : Bool := match i with
  | .iaload => pj_d0 c pc len 46
  | .laload => pj_d0 c pc len 47
  | .aaload => pj_d0 c pc len 50
  | .baload => pj_d0 c pc len 51
  | .iastore => pj_d0 c pc len 79
  | .lastore => pj_d0 c pc len 80
  | .aastore => pj_d0 c pc len 83
  | .bastore => pj_d0 c pc len 84
  | .pop => pj_d0 c pc len 87
  | .dup => pj_d0 c pc len 89
  | .dup2 => pj_d0 c pc len 92
  | .iadd => pj_d0 c pc len 96
  | .ladd => pj_d0 c pc len 97
  | .isub => pj_d0 c pc len 100
  | .lsub => pj_d0 c pc len 101
  | .imul => pj_d0 c pc len 104
  | .lmul => pj_d0 c pc len 105
  | .idiv => pj_d0 c pc len 108
  | .ldiv => pj_d0 c pc len 109
  | .irem => pj_d0 c pc len 112
  | .lrem => pj_d0 c pc len 113
  | .ineg => pj_d0 c pc len 116
  | .ishl => pj_d0 c pc len 120
  | .ishr => pj_d0 c pc len 122
  | .iushr => pj_d0 c pc len 124
  | .iand => pj_d0 c pc len 126
  | .ior => pj_d0 c pc len 128
  | .ixor => pj_d0 c pc len 130
  | .i2l => pj_d0 c pc len 133
  | .i2b => pj_d0 c pc len 145
  | .i2c => pj_d0 c pc len 146
  | .i2s => pj_d0 c pc len 147
  | .lcmp => pj_d0 c pc len 148
  | .ireturn => pj_d0 c pc len 172
  | .lreturn => pj_d0 c pc len 173
  | .areturn => pj_d0 c pc len 176
  | .return_ => pj_d0 c pc len 177
  | .arraylength => pj_d0 c pc len 190
  | .iload_n k => pj_d0 c pc len (26 + k.val)
  | .lload_n k => pj_d0 c pc len (30 + k.val)
  | .aload_n k => pj_d0 c pc len (42 + k.val)
  | .istore_n k => pj_d0 c pc len (59 + k.val)
  | .lstore_n k => pj_d0 c pc len (63 + k.val)
  | .astore_n k => pj_d0 c pc len (75 + k.val)
  | .ldc k => pj_d1 c pc len 18 k
  | .iload k => pj_d1 c pc len 21 k
  | .lload k => pj_d1 c pc len 22 k
  | .aload k => pj_d1 c pc len 25 k
  | .istore k => pj_d1 c pc len 54 k
  | .lstore k => pj_d1 c pc len 55 k
  | .astore k => pj_d1 c pc len 58 k
  | .ldc_w k => pj_d2 c pc len 19 k
  | .ldc2_w k => pj_d2 c pc len 20 k
  | .getfield k => pj_d2 c pc len 180 k
  | .putfield k => pj_d2 c pc len 181 k
  | .invokevirtual k => pj_d2 c pc len 182 k
  | .invokespecial k => pj_d2 c pc len 183 k
  | .invokestatic k => pj_d2 c pc len 184 k
  | .new k => pj_d2 c pc len 187 k
  | .anewarray k => pj_d2 c pc len 189 k
  | .sipush k => pj_ds c pc len 17 k
  | .goto k => pj_ds c pc len 167 k
  | .ifCond .eq k => pj_ds c pc len 153 k
  | .ifCond .ne k => pj_ds c pc len 154 k
  | .ifCond .lt k => pj_ds c pc len 155 k
  | .ifCond .ge k => pj_ds c pc len 156 k
  | .ifCond .gt k => pj_ds c pc len 157 k
  | .ifCond .le k => pj_ds c pc len 158 k
  | .if_icmp .eq k => pj_ds c pc len 159 k
  | .if_icmp .ne k => pj_ds c pc len 160 k
  | .if_icmp .lt k => pj_ds c pc len 161 k
  | .if_icmp .ge k => pj_ds c pc len 162 k
  | .if_icmp .gt k => pj_ds c pc len 163 k
  | .if_icmp .le k => pj_ds c pc len 164 k
  | i => decide (decode c pc = .ok (i, len))
theorem pj_dq_s {c : ByteArray} {pc len : Nat} {i : Instr} (h : pj_dq c pc i len = true) : decode c pc = .ok (i, len) := by
  unfold pj_dq at h
  split at h
  · obtain ⟨rfl, hb⟩ := pj_d0_s h
    exact pj_dc46 hb
  · obtain ⟨rfl, hb⟩ := pj_d0_s h
    exact pj_dc47 hb
  · obtain ⟨rfl, hb⟩ := pj_d0_s h
    exact pj_dc50 hb
  · obtain ⟨rfl, hb⟩ := pj_d0_s h
    exact pj_dc51 hb
  · obtain ⟨rfl, hb⟩ := pj_d0_s h
    exact pj_dc79 hb
  · obtain ⟨rfl, hb⟩ := pj_d0_s h
    exact pj_dc80 hb
  · obtain ⟨rfl, hb⟩ := pj_d0_s h
    exact pj_dc83 hb
  · obtain ⟨rfl, hb⟩ := pj_d0_s h
    exact pj_dc84 hb
  · obtain ⟨rfl, hb⟩ := pj_d0_s h
    exact pj_dc87 hb
  · obtain ⟨rfl, hb⟩ := pj_d0_s h
    exact pj_dc89 hb
  · obtain ⟨rfl, hb⟩ := pj_d0_s h
    exact pj_dc92 hb
  · obtain ⟨rfl, hb⟩ := pj_d0_s h
    exact pj_dc96 hb
  · obtain ⟨rfl, hb⟩ := pj_d0_s h
    exact pj_dc97 hb
  · obtain ⟨rfl, hb⟩ := pj_d0_s h
    exact pj_dc100 hb
  · obtain ⟨rfl, hb⟩ := pj_d0_s h
    exact pj_dc101 hb
  · obtain ⟨rfl, hb⟩ := pj_d0_s h
    exact pj_dc104 hb
  · obtain ⟨rfl, hb⟩ := pj_d0_s h
    exact pj_dc105 hb
  · obtain ⟨rfl, hb⟩ := pj_d0_s h
    exact pj_dc108 hb
  · obtain ⟨rfl, hb⟩ := pj_d0_s h
    exact pj_dc109 hb
  · obtain ⟨rfl, hb⟩ := pj_d0_s h
    exact pj_dc112 hb
  · obtain ⟨rfl, hb⟩ := pj_d0_s h
    exact pj_dc113 hb
  · obtain ⟨rfl, hb⟩ := pj_d0_s h
    exact pj_dc116 hb
  · obtain ⟨rfl, hb⟩ := pj_d0_s h
    exact pj_dc120 hb
  · obtain ⟨rfl, hb⟩ := pj_d0_s h
    exact pj_dc122 hb
  · obtain ⟨rfl, hb⟩ := pj_d0_s h
    exact pj_dc124 hb
  · obtain ⟨rfl, hb⟩ := pj_d0_s h
    exact pj_dc126 hb
  · obtain ⟨rfl, hb⟩ := pj_d0_s h
    exact pj_dc128 hb
  · obtain ⟨rfl, hb⟩ := pj_d0_s h
    exact pj_dc130 hb
  · obtain ⟨rfl, hb⟩ := pj_d0_s h
    exact pj_dc133 hb
  · obtain ⟨rfl, hb⟩ := pj_d0_s h
    exact pj_dc145 hb
  · obtain ⟨rfl, hb⟩ := pj_d0_s h
    exact pj_dc146 hb
  · obtain ⟨rfl, hb⟩ := pj_d0_s h
    exact pj_dc147 hb
  · obtain ⟨rfl, hb⟩ := pj_d0_s h
    exact pj_dc148 hb
  · obtain ⟨rfl, hb⟩ := pj_d0_s h
    exact pj_dc172 hb
  · obtain ⟨rfl, hb⟩ := pj_d0_s h
    exact pj_dc173 hb
  · obtain ⟨rfl, hb⟩ := pj_d0_s h
    exact pj_dc176 hb
  · obtain ⟨rfl, hb⟩ := pj_d0_s h
    exact pj_dc177 hb
  · obtain ⟨rfl, hb⟩ := pj_d0_s h
    exact pj_dc190 hb
  · rename_i k
    obtain ⟨rfl, hb⟩ := pj_d0_s h
    obtain ⟨k, hk⟩ := k
    match k, hk, hb with
    | 0, _, hb => exact pj_dc26 hb
    | 1, _, hb => exact pj_dc27 hb
    | 2, _, hb => exact pj_dc28 hb
    | 3, _, hb => exact pj_dc29 hb
    | q + 4, hq, _ => exact absurd hq (by omega)
  · rename_i k
    obtain ⟨rfl, hb⟩ := pj_d0_s h
    obtain ⟨k, hk⟩ := k
    match k, hk, hb with
    | 0, _, hb => exact pj_dc30 hb
    | 1, _, hb => exact pj_dc31 hb
    | 2, _, hb => exact pj_dc32 hb
    | 3, _, hb => exact pj_dc33 hb
    | q + 4, hq, _ => exact absurd hq (by omega)
  · rename_i k
    obtain ⟨rfl, hb⟩ := pj_d0_s h
    obtain ⟨k, hk⟩ := k
    match k, hk, hb with
    | 0, _, hb => exact pj_dc42 hb
    | 1, _, hb => exact pj_dc43 hb
    | 2, _, hb => exact pj_dc44 hb
    | 3, _, hb => exact pj_dc45 hb
    | q + 4, hq, _ => exact absurd hq (by omega)
  · rename_i k
    obtain ⟨rfl, hb⟩ := pj_d0_s h
    obtain ⟨k, hk⟩ := k
    match k, hk, hb with
    | 0, _, hb => exact pj_dc59 hb
    | 1, _, hb => exact pj_dc60 hb
    | 2, _, hb => exact pj_dc61 hb
    | 3, _, hb => exact pj_dc62 hb
    | q + 4, hq, _ => exact absurd hq (by omega)
  · rename_i k
    obtain ⟨rfl, hb⟩ := pj_d0_s h
    obtain ⟨k, hk⟩ := k
    match k, hk, hb with
    | 0, _, hb => exact pj_dc63 hb
    | 1, _, hb => exact pj_dc64 hb
    | 2, _, hb => exact pj_dc65 hb
    | 3, _, hb => exact pj_dc66 hb
    | q + 4, hq, _ => exact absurd hq (by omega)
  · rename_i k
    obtain ⟨rfl, hb⟩ := pj_d0_s h
    obtain ⟨k, hk⟩ := k
    match k, hk, hb with
    | 0, _, hb => exact pj_dc75 hb
    | 1, _, hb => exact pj_dc76 hb
    | 2, _, hb => exact pj_dc77 hb
    | 3, _, hb => exact pj_dc78 hb
    | q + 4, hq, _ => exact absurd hq (by omega)
  · obtain ⟨rfl, h0, h1, h2⟩ := pj_d1_s h
    exact pj_dc18 h0 h1 h2
  · obtain ⟨rfl, h0, h1, h2⟩ := pj_d1_s h
    exact pj_dc21 h0 h1 h2
  · obtain ⟨rfl, h0, h1, h2⟩ := pj_d1_s h
    exact pj_dc22 h0 h1 h2
  · obtain ⟨rfl, h0, h1, h2⟩ := pj_d1_s h
    exact pj_dc25 h0 h1 h2
  · obtain ⟨rfl, h0, h1, h2⟩ := pj_d1_s h
    exact pj_dc54 h0 h1 h2
  · obtain ⟨rfl, h0, h1, h2⟩ := pj_d1_s h
    exact pj_dc55 h0 h1 h2
  · obtain ⟨rfl, h0, h1, h2⟩ := pj_d1_s h
    exact pj_dc58 h0 h1 h2
  · obtain ⟨rfl, h0, h1, h2, rfl⟩ := pj_d2_s h
    exact pj_dc19 h0 rfl h1 rfl h2
  · obtain ⟨rfl, h0, h1, h2, rfl⟩ := pj_d2_s h
    exact pj_dc20 h0 rfl h1 rfl h2
  · obtain ⟨rfl, h0, h1, h2, rfl⟩ := pj_d2_s h
    exact pj_dc180 h0 rfl h1 rfl h2
  · obtain ⟨rfl, h0, h1, h2, rfl⟩ := pj_d2_s h
    exact pj_dc181 h0 rfl h1 rfl h2
  · obtain ⟨rfl, h0, h1, h2, rfl⟩ := pj_d2_s h
    exact pj_dc182 h0 rfl h1 rfl h2
  · obtain ⟨rfl, h0, h1, h2, rfl⟩ := pj_d2_s h
    exact pj_dc183 h0 rfl h1 rfl h2
  · obtain ⟨rfl, h0, h1, h2, rfl⟩ := pj_d2_s h
    exact pj_dc184 h0 rfl h1 rfl h2
  · obtain ⟨rfl, h0, h1, h2, rfl⟩ := pj_d2_s h
    exact pj_dc187 h0 rfl h1 rfl h2
  · obtain ⟨rfl, h0, h1, h2, rfl⟩ := pj_d2_s h
    exact pj_dc189 h0 rfl h1 rfl h2
  · obtain ⟨rfl, h0, h1, h2, rfl⟩ := pj_ds_s h
    exact pj_dc17 h0 rfl h1 rfl h2
  · obtain ⟨rfl, h0, h1, h2, rfl⟩ := pj_ds_s h
    exact pj_dc167 h0 rfl h1 rfl h2
  · obtain ⟨rfl, h0, h1, h2, rfl⟩ := pj_ds_s h
    exact pj_dc153 h0 rfl h1 rfl h2
  · obtain ⟨rfl, h0, h1, h2, rfl⟩ := pj_ds_s h
    exact pj_dc154 h0 rfl h1 rfl h2
  · obtain ⟨rfl, h0, h1, h2, rfl⟩ := pj_ds_s h
    exact pj_dc155 h0 rfl h1 rfl h2
  · obtain ⟨rfl, h0, h1, h2, rfl⟩ := pj_ds_s h
    exact pj_dc156 h0 rfl h1 rfl h2
  · obtain ⟨rfl, h0, h1, h2, rfl⟩ := pj_ds_s h
    exact pj_dc157 h0 rfl h1 rfl h2
  · obtain ⟨rfl, h0, h1, h2, rfl⟩ := pj_ds_s h
    exact pj_dc158 h0 rfl h1 rfl h2
  · obtain ⟨rfl, h0, h1, h2, rfl⟩ := pj_ds_s h
    exact pj_dc159 h0 rfl h1 rfl h2
  · obtain ⟨rfl, h0, h1, h2, rfl⟩ := pj_ds_s h
    exact pj_dc160 h0 rfl h1 rfl h2
  · obtain ⟨rfl, h0, h1, h2, rfl⟩ := pj_ds_s h
    exact pj_dc161 h0 rfl h1 rfl h2
  · obtain ⟨rfl, h0, h1, h2, rfl⟩ := pj_ds_s h
    exact pj_dc162 h0 rfl h1 rfl h2
  · obtain ⟨rfl, h0, h1, h2, rfl⟩ := pj_ds_s h
    exact pj_dc163 h0 rfl h1 rfl h2
  · obtain ⟨rfl, h0, h1, h2, rfl⟩ := pj_ds_s h
    exact pj_dc164 h0 rfl h1 rfl h2
  · exact of_decide_eq_true h
def pj_dr (c : ByteArray) (pc : Nat) (i : Instr) (len : Nat) : Bool := match i with
  | .iconst v => Nat.beq len 1 && (decide (((pj_by c pc : Nat) : Int) = v + 3) && (decide (-1 ≤ v) && decide (v ≤ 5)))
  | .bipush v => Nat.beq len 2 && (Nat.beq (pj_by c pc) 16 && (Nat.blt (pj_by c (pc + 1)) 256 && decide (Reader.signed 8 (pj_by c (pc + 1)) = v)))
  | .iinc k v => Nat.beq len 3 && (Nat.beq (pj_by c pc) 132 && (Nat.beq (pj_by c (pc + 1)) k && (Nat.blt k 256 && (Nat.blt (pj_by c (pc + 2)) 256 && decide (Reader.signed 8 (pj_by c (pc + 2)) = v)))))
  | i => pj_dq c pc i len
theorem pj_dr_s {c : ByteArray} {pc len : Nat} {i : Instr} (h : pj_dr c pc i len = true) : decode c pc = .ok (i, len) := by
  unfold pj_dr at h
  split at h
  · rename_i v
    rw [Bool.and_eq_true, Bool.and_eq_true, Bool.and_eq_true] at h
    obtain ⟨h1, h2, h3, h4⟩ := h
    have h1 := Nat.eq_of_beq_eq_true h1
    have h2 := of_decide_eq_true h2
    have h3 := of_decide_eq_true h3
    have h4 := of_decide_eq_true h4
    subst h1
    rcases (show v = -1 ∨ v = 0 ∨ v = 1 ∨ v = 2 ∨ v = 3 ∨ v = 4 ∨ v = 5 by omega) with rfl | rfl | rfl | rfl | rfl | rfl | rfl
    · exact pj_dc2 (by omega)
    · exact pj_dc3 (by omega)
    · exact pj_dc4 (by omega)
    · exact pj_dc5 (by omega)
    · exact pj_dc6 (by omega)
    · exact pj_dc7 (by omega)
    · exact pj_dc8 (by omega)
  · rename_i v
    rw [Bool.and_eq_true, Bool.and_eq_true, Bool.and_eq_true] at h
    obtain ⟨h1, h2, h3, h4⟩ := h
    have h1 := Nat.eq_of_beq_eq_true h1
    have h4 := of_decide_eq_true h4
    subst h1 h4
    exact pj_dc16 (Nat.eq_of_beq_eq_true h2) rfl (Nat.le_of_ble_eq_true h3)
  · rename_i k v
    rw [Bool.and_eq_true, Bool.and_eq_true, Bool.and_eq_true, Bool.and_eq_true, Bool.and_eq_true] at h
    obtain ⟨h1, h2, h3, h4, h5, h6⟩ := h
    have h1 := Nat.eq_of_beq_eq_true h1
    have h6 := of_decide_eq_true h6
    subst h1 h6
    exact pj_dc132 (Nat.eq_of_beq_eq_true h2) (Nat.eq_of_beq_eq_true h3) (Nat.le_of_ble_eq_true h4) rfl (Nat.le_of_ble_eq_true h5)
  · exact pj_dq_s h
