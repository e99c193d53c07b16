/-! STEPS THAT SEE THE STACK ALONE -/
def pj_bi (f : Int32 → Int32 → Int32) : List Value → Option (List Value)
  | .int y :: .int x :: r => some (.int (f x y) :: r)
  | _ => none
def pj_bl (f : Int64 → Int64 → Int64) : List Value → Option (List Value)
  | .long y :: .long x :: r => some (.long (f x y) :: r)
  | _ => none
def pj_di (f : Int32 → Int32 → Int32) : List Value → Option (List Value)
  | .int y :: .int x :: r => if y = 0 then none else some (.int (f x y) :: r)
  | _ => none
def pj_dl (f : Int64 → Int64 → Int64) : List Value → Option (List Value)
  | .long y :: .long x :: r => if y = 0 then none else some (.long (f x y) :: r)
  | _ => none
def pj_ui (f : Int32 → Int32) : List Value → Option (List Value)
  | .int x :: r => some (.int (f x) :: r)
  | _ => none
def pj_i2l : List Value → Option (List Value)
  | .int x :: r => some (.long x.toInt64 :: r)
  | _ => none
def pj_l2i : List Value → Option (List Value)
  | .long x :: r => some (.int x.toInt32 :: r)
  | _ => none
def pj_lcmp : List Value → Option (List Value)
  | .long y :: .long x :: r => some (.int (lg_cmp x y) :: r)
  | _ => none
def pj_dup : List Value → Option (List Value)
  | v :: r => if v.category = 1 then some (v :: v :: r) else none
  | _ => none
def pj_pop : List Value → Option (List Value)
  | v :: r => if v.category = 1 then some r else none
  | _ => none
def pj_dup2 : List Value → Option (List Value)
  | .int y :: x :: r => if x.category = 1 then some (.int y :: x :: .int y :: x :: r) else none
  | .long y :: r => some (.long y :: .long y :: r)
  | _ => none
theorem pj_bi_s {f : Int32 → Int32 → Int32} {S S' : List Value} (h : pj_bi f S = some S') : ∃ x y r, S = .int y :: .int x :: r ∧ S' = .int (f x y) :: r := by
  unfold pj_bi at h
  split at h
  · cases h; exact ⟨_, _, _, rfl, rfl⟩
  · cases h
theorem pj_bl_s {f : Int64 → Int64 → Int64} {S S' : List Value} (h : pj_bl f S = some S') : ∃ x y r, S = .long y :: .long x :: r ∧ S' = .long (f x y) :: r := by
  unfold pj_bl at h
  split at h
  · cases h; exact ⟨_, _, _, rfl, rfl⟩
  · cases h
theorem pj_di_s {f : Int32 → Int32 → Int32} {S S' : List Value} (h : pj_di f S = some S') : ∃ x y r, S = .int y :: .int x :: r ∧ S' = .int (f x y) :: r ∧ ¬ y = 0 := by
  unfold pj_di at h
  split at h
  · split at h
    · cases h
    · cases h; exact ⟨_, _, _, rfl, rfl, by assumption⟩
  · cases h
theorem pj_dl_s {f : Int64 → Int64 → Int64} {S S' : List Value} (h : pj_dl f S = some S') : ∃ x y r, S = .long y :: .long x :: r ∧ S' = .long (f x y) :: r ∧ ¬ y = 0 := by
  unfold pj_dl at h
  split at h
  · split at h
    · cases h
    · cases h; exact ⟨_, _, _, rfl, rfl, by assumption⟩
  · cases h
theorem pj_ui_s {f : Int32 → Int32} {S S' : List Value} (h : pj_ui f S = some S') : ∃ x r, S = .int x :: r ∧ S' = .int (f x) :: r := by
  unfold pj_ui at h
  split at h
  · cases h; exact ⟨_, _, rfl, rfl⟩
  · cases h
def pj_k (i : Instr) (S : List Value) : Option (List Value) := match i with
  | .iconst n => some (.int (Int32.ofInt n) :: S)
  | .bipush n => some (.int (Int8.ofInt n).toInt32 :: S)
  | .sipush n => some (.int (Int16.ofInt n).toInt32 :: S)
  | .lconst n => some (.long (Int64.ofNat (n : Nat)) :: S)
  | .iadd => pj_bi (fun x y => x + y) S
  | .isub => pj_bi (fun x y => x - y) S
  | .imul => pj_bi (fun x y => x * y) S
  | .iand => pj_bi (fun x y => x &&& y) S
  | .ior => pj_bi (fun x y => x ||| y) S
  | .ixor => pj_bi (fun x y => x ^^^ y) S
  | .ishl => pj_bi (fun x y => x <<< (y &&& 31)) S
  | .ishr => pj_bi (fun x y => x >>> (y &&& 31)) S
  | .iushr => pj_bi (fun x y => (x.toUInt32 >>> (y.toUInt32 &&& Int32.toUInt32 31)).toInt32) S
  | .ladd => pj_bl (fun x y => x + y) S
  | .lsub => pj_bl (fun x y => x - y) S
  | .lmul => pj_bl (fun x y => x * y) S
  | .idiv => pj_di (fun x y => x / y) S
  | .irem => pj_di (fun x y => x - x / y * y) S
  | .ldiv => pj_dl (fun x y => x / y) S
  | .lrem => pj_dl (fun x y => x - x / y * y) S
  | .ineg => pj_ui (fun x => -x) S
  | .i2b => pj_ui (fun x => x.toInt8.toInt32) S
  | .i2s => pj_ui (fun x => x.toInt16.toInt32) S
  | .i2c => pj_ui (fun x => (x.toUInt32 % 65536).toInt32) S
  | .i2l => pj_i2l S
  | .l2i => pj_l2i S
  | .lcmp => pj_lcmp S
  | .dup => pj_dup S
  | .pop => pj_pop S
  | .dup2 => pj_dup2 S
  | _ => none
/-- the length of an instruction -/
def pj_len : Instr → Nat
  | .bipush _ => 2 | .sipush _ => 3 | .iload _ => 2 | .lload _ => 2 | .aload _ => 2 | .istore _ => 2 | .lstore _ => 2 | .astore _ => 2 | .iinc _ _ => 3
  | .ifCond _ _ => 3 | .if_icmp _ _ => 3 | .goto _ => 3 | .getfield _ => 3 | .putfield _ => 3 | .new _ => 3 | .newarray _ => 2 | .anewarray _ => 3
  | .invokevirtual _ => 3 | .invokespecial _ => 3 | .invokestatic _ => 3 | .ldc _ => 2 | .ldc_w _ => 3 | .ldc2_w _ => 3 | _ => 1
section PJK
variable {p : Program} {l : Launch} {e : Env} {R : Room} {s : State} {m : MethodId} {args : Array Value} {below : List Frame} {meth : Method} {c : Code} {H : Heap} {locs : List Loc} {cells slots : Nat} {Q : State → Prop}
variable {cc : ByteArray} {pc : Nat} {ls : Array Slot}
set_option maxHeartbeats 4000000 in
theorem pj_k_snd (ad : pj_A) (hx : p.tables.exec = Jvm.exec) (hb : c.code = cc) {i : Instr} {S S' : List Value} (hd : decode cc pc = .ok (i, pj_len i)) (h : pj_k i S = some S')
    (k : W p l e R s m args below meth c H locs cells slots Q (F0 m (pc + pj_len i) ls (S'.map (pj_v ad)))) : W p l e R s m args below meth c H locs cells slots Q (F0 m pc ls (S.map (pj_v ad))) := by
  cases i
  case iconst n => cases h; exact lv_iconst hx hb hd rfl k
  case bipush n => cases h; exact lv_bipush hx hb hd rfl k
  case sipush n => cases h; exact lv_sipush hx hb hd rfl k
  case lconst n => cases h; exact lv_lconst hx hb hd rfl k
  case iadd =>
    obtain ⟨x, y, r, rfl, rfl⟩ := pj_bi_s h
    exact lv_iadd hx hb hd k
  case isub =>
    obtain ⟨x, y, r, rfl, rfl⟩ := pj_bi_s h
    exact lv_isub hx hb hd k
  case imul =>
    obtain ⟨x, y, r, rfl, rfl⟩ := pj_bi_s h
    exact lv_imul hx hb hd k
  case iand =>
    obtain ⟨x, y, r, rfl, rfl⟩ := pj_bi_s h
    exact lv_iand hx hb hd k
  case ior =>
    obtain ⟨x, y, r, rfl, rfl⟩ := pj_bi_s h
    exact lv_ior hx hb hd k
  case ixor =>
    obtain ⟨x, y, r, rfl, rfl⟩ := pj_bi_s h
    exact lv_ixor hx hb hd k
  case ishl =>
    obtain ⟨x, y, r, rfl, rfl⟩ := pj_bi_s h
    exact lv_ishl hx hb hd k
  case ishr =>
    obtain ⟨x, y, r, rfl, rfl⟩ := pj_bi_s h
    exact lv_ishr hx hb hd k
  case iushr =>
    obtain ⟨x, y, r, rfl, rfl⟩ := pj_bi_s h
    exact lv_iushr hx hb hd rfl k
  case ladd =>
    obtain ⟨x, y, r, rfl, rfl⟩ := pj_bl_s h
    exact lv_ladd hx hb hd k
  case lsub =>
    obtain ⟨x, y, r, rfl, rfl⟩ := pj_bl_s h
    exact lv_lsub hx hb hd k
  case lmul =>
    obtain ⟨x, y, r, rfl, rfl⟩ := pj_bl_s h
    exact lv_lmul hx hb hd k
  case idiv =>
    obtain ⟨x, y, r, rfl, rfl, h0⟩ := pj_di_s h
    exact lv_idiv hx hb hd h0 k
  case irem =>
    obtain ⟨x, y, r, rfl, rfl, h0⟩ := pj_di_s h
    exact lv_irem hx hb hd h0 k
  case ldiv =>
    obtain ⟨x, y, r, rfl, rfl, h0⟩ := pj_dl_s h
    exact lv_ldiv hx hb hd h0 k
  case lrem =>
    obtain ⟨x, y, r, rfl, rfl, h0⟩ := pj_dl_s h
    exact lv_lrem hx hb hd h0 k
  case ineg =>
    obtain ⟨x, r, rfl, rfl⟩ := pj_ui_s h
    exact lv_ineg hx hb hd k
  case i2b =>
    obtain ⟨x, r, rfl, rfl⟩ := pj_ui_s h
    exact lv_i2b hx hb hd rfl k
  case i2s =>
    obtain ⟨x, r, rfl, rfl⟩ := pj_ui_s h
    exact lv_i2s hx hb hd rfl k
  case i2c =>
    obtain ⟨x, r, rfl, rfl⟩ := pj_ui_s h
    exact lv_i2c hx hb hd rfl k
  case i2l =>
    have h : pj_i2l S = some S' := h
    unfold pj_i2l at h
    split at h
    · cases h; exact lv_i2l hx hb hd rfl k
    · cases h
  case l2i =>
    have h : pj_l2i S = some S' := h
    unfold pj_l2i at h
    split at h
    · cases h; exact lv_l2i hx hb hd rfl k
    · cases h
  case lcmp =>
    have h : pj_lcmp S = some S' := h
    unfold pj_lcmp at h
    split at h
    · cases h; exact W.lcmp hx hb hd k
    · cases h
  case dup =>
    have h : pj_dup S = some S' := h
    unfold pj_dup at h
    split at h
    · split at h
      · cases h; exact lv_dup hx hb hd (by rw [pj_v_cat]; assumption) k
      · cases h
    · cases h
  case pop =>
    have h : pj_pop S = some S' := h
    unfold pj_pop at h
    split at h
    · split at h
      · cases h; exact lv_pop hx hb hd (by rw [pj_v_cat]; assumption) k
      · cases h
    · cases h
  case dup2 =>
    have h : pj_dup2 S = some S' := h
    unfold pj_dup2 at h
    split at h
    · split at h
      · cases h; exact lv_dup2_11 hx hb hd rfl (by rw [pj_v_cat]; assumption) k
      · cases h
    · cases h; exact lv_dup2_2 hx hb hd rfl k
    · cases h
  all_goals cases (show (none : Option (List Value)) = some S' from h)
end PJK
/-! STEPS THAT SEE THE LOCALS -/
def pj_li (L : pj_L) (i : Nat) (S : List Value) : Option (pj_L × List Value) := match pj_ld L i with
  | some (.int x) => some (L, .int x :: S)
  | _ => none
def pj_ll (L : pj_L) (i : Nat) (S : List Value) : Option (pj_L × List Value) := match pj_ld L i with
  | some (.long x) => some (L, .long x :: S)
  | _ => none
def pj_la (L : pj_L) (i : Nat) (S : List Value) : Option (pj_L × List Value) := match pj_ld L i with
  | some (.ref x) => some (L, .ref x :: S)
  | some (.retAddr x) => some (L, .retAddr x :: S)
  | _ => none
def pj_si (nL : Nat) (L : pj_L) (i : Nat) : List Value → Option (pj_L × List Value)
  | .int x :: r => if i < nL then some (pj_st1 L i (.int x), r) else none
  | _ => none
def pj_sl (nL : Nat) (L : pj_L) (i : Nat) : List Value → Option (pj_L × List Value)
  | .long x :: r => if i + 1 < nL then some (pj_st2 L i (.long x), r) else none
  | _ => none
def pj_sa (nL : Nat) (L : pj_L) (i : Nat) : List Value → Option (pj_L × List Value)
  | .ref x :: r => if i < nL then some (pj_st1 L i (.ref x), r) else none
  | _ => none
def pj_ic (nL : Nat) (L : pj_L) (i : Nat) (n : Int) (S : List Value) : Option (pj_L × List Value) := match pj_ld L i with
  | some (.int x) => if i < nL then some (pj_st1 L i (.int (x + Int32.ofInt n)), S) else none
  | _ => none
def pj_kl (nL : Nat) (i : Instr) (L : pj_L) (S : List Value) : Option (pj_L × List Value) := match i with
  | .iload_n k => pj_li L k S
  | .iload k => pj_li L k S
  | .lload_n k => pj_ll L k S
  | .lload k => pj_ll L k S
  | .aload_n k => pj_la L k S
  | .aload k => pj_la L k S
  | .istore_n k => pj_si nL L k S
  | .istore k => pj_si nL L k S
  | .lstore_n k => pj_sl nL L k S
  | .lstore k => pj_sl nL L k S
  | .astore_n k => pj_sa nL L k S
  | .astore k => pj_sa nL L k S
  | .iinc k n => pj_ic nL L k n S
  | _ => none
theorem pj_li_s {L L' : pj_L} {i : Nat} {S S' : List Value} (h : pj_li L i S = some (L', S')) : ∃ x, pj_ld L i = some (.int x) ∧ L' = L ∧ S' = .int x :: S := by
  unfold pj_li at h
  split at h
  · cases h; exact ⟨_, by assumption, rfl, rfl⟩
  · cases h
theorem pj_ll_s {L L' : pj_L} {i : Nat} {S S' : List Value} (h : pj_ll L i S = some (L', S')) : ∃ x, pj_ld L i = some (.long x) ∧ L' = L ∧ S' = .long x :: S := by
  unfold pj_ll at h
  split at h
  · cases h; exact ⟨_, by assumption, rfl, rfl⟩
  · cases h
theorem pj_la_s (ad : pj_A) {L L' : pj_L} {i : Nat} {S S' : List Value} (h : pj_la L i S = some (L', S')) : ∃ x q, pj_ld L i = some x ∧ pj_v ad x = .ref q ∧ L' = L ∧ S' = x :: S := by
  unfold pj_la at h
  split at h
  · cases h; exact ⟨_, _, by assumption, rfl, rfl, rfl⟩
  · cases h; exact ⟨_, _, by assumption, rfl, rfl, rfl⟩
  · cases h
theorem pj_si_s {nL : Nat} {L L' : pj_L} {i : Nat} {S S' : List Value} (h : pj_si nL L i S = some (L', S')) : ∃ x, S = .int x :: S' ∧ i < nL ∧ L' = pj_st1 L i (.int x) := by
  unfold pj_si at h
  split at h
  · split at h
    · cases h; exact ⟨_, rfl, by assumption, rfl⟩
    · cases h
  · cases h
theorem pj_sl_s {nL : Nat} {L L' : pj_L} {i : Nat} {S S' : List Value} (h : pj_sl nL L i S = some (L', S')) : ∃ x, S = .long x :: S' ∧ i + 1 < nL ∧ L' = pj_st2 L i (.long x) := by
  unfold pj_sl at h
  split at h
  · split at h
    · cases h; exact ⟨_, rfl, by assumption, rfl⟩
    · cases h
  · cases h
theorem pj_sa_s {nL : Nat} {L L' : pj_L} {i : Nat} {S S' : List Value} (h : pj_sa nL L i S = some (L', S')) : ∃ x, S = .ref x :: S' ∧ i < nL ∧ L' = pj_st1 L i (.ref x) := by
  unfold pj_sa at h
  split at h
  · split at h
    · cases h; exact ⟨_, rfl, by assumption, rfl⟩
    · cases h
  · cases h
theorem pj_ic_s {nL : Nat} {L L' : pj_L} {i : Nat} {n : Int} {S S' : List Value} (h : pj_ic nL L i n S = some (L', S')) : ∃ x, pj_ld L i = some (.int x) ∧ i < nL ∧ L' = pj_st1 L i (.int (x + Int32.ofInt n)) ∧ S' = S := by
  unfold pj_ic at h
  split at h
  · split at h
    · cases h; exact ⟨_, by assumption, by assumption, rfl, rfl⟩
    · cases h
  · cases h
section PJKL
variable {p : Program} {l : Launch} {e : Env} {R : Room} {s : State} {m : MethodId} {args : Array Value} {below : List Frame} {meth : Method} {c : Code} {H : Heap} {locs : List Loc} {cells slots : Nat} {Q : State → Prop}
variable {cc : ByteArray} {pc nL : Nat} {ls : Array Slot}
set_option maxHeartbeats 4000000 in
theorem pj_kl_snd (ad : pj_A) (hx : p.tables.exec = Jvm.exec) (hb : c.code = cc) {i : Instr} {L L' : pj_L} {S S' : List Value} (hl : lv_has ls nL (pj_l ad L)) (hd : decode cc pc = .ok (i, pj_len i)) (h : pj_kl nL i L S = some (L', S'))
    (k : ∀ ls' : Array Slot, lv_has ls' nL (pj_l ad L') → W p l e R s m args below meth c H locs cells slots Q (F0 m (pc + pj_len i) ls' (S'.map (pj_v ad)))) : W p l e R s m args below meth c H locs cells slots Q (F0 m pc ls (S.map (pj_v ad))) := by
  cases i
  case aload_n j =>
    obtain ⟨x, q, g, hq, rfl, rfl⟩ := pj_la_s ad h
    have k1 := k ls hl
    rw [List.map_cons, hq] at k1
    exact lv_aload_n hx hb hd rfl (by rw [← hq]; exact pj_l_at ad hl g) k1
  case aload j =>
    obtain ⟨x, q, g, hq, rfl, rfl⟩ := pj_la_s ad h
    have k1 := k ls hl
    rw [List.map_cons, hq] at k1
    exact lv_aload hx hb hd (by rw [← hq]; exact pj_l_at ad hl g) k1
  case iload_n j =>
    obtain ⟨x, g, rfl, rfl⟩ := pj_li_s h
    exact lv_iload_n hx hb hd rfl (pj_l_at ad hl g) (k ls hl)
  case iload j =>
    obtain ⟨x, g, rfl, rfl⟩ := pj_li_s h
    exact lv_iload hx hb hd (pj_l_at ad hl g) (k ls hl)
  case lload_n j =>
    obtain ⟨x, g, rfl, rfl⟩ := pj_ll_s h
    exact lv_lload_n hx hb hd rfl (pj_l_at ad hl g) (k ls hl)
  case lload j =>
    obtain ⟨x, g, rfl, rfl⟩ := pj_ll_s h
    exact lv_lload hx hb hd (pj_l_at ad hl g) (k ls hl)
  case istore_n j =>
    obtain ⟨x, rfl, g, rfl⟩ := pj_si_s h
    exact lv_istore_n hx hb hd rfl hl g (pj_l_1 ad L j (.int x) _ rfl) k
  case istore j =>
    obtain ⟨x, rfl, g, rfl⟩ := pj_si_s h
    exact lv_istore hx hb hd hl g (pj_l_1 ad L j (.int x) _ rfl) k
  case lstore_n j =>
    obtain ⟨x, rfl, g, rfl⟩ := pj_sl_s h
    exact lv_lstore_n hx hb hd rfl hl g (pj_l_2 ad L j (.long x) _ rfl) k
  case lstore j =>
    obtain ⟨x, rfl, g, rfl⟩ := pj_sl_s h
    exact lv_lstore hx hb hd hl g (pj_l_2 ad L j (.long x) _ rfl) k
  case astore_n j =>
    obtain ⟨x, rfl, g, rfl⟩ := pj_sa_s h
    exact lv_astore_n hx hb hd rfl hl g (pj_l_1 ad L j (.ref x) _ rfl) k
  case astore j =>
    obtain ⟨x, rfl, g, rfl⟩ := pj_sa_s h
    exact lv_astore hx hb hd hl g (pj_l_1 ad L j (.ref x) _ rfl) k
  case iinc j n =>
    obtain ⟨x, g1, g2, rfl, rfl⟩ := pj_ic_s h
    obtain ⟨q, hq⟩ := pj_l_ix ad g1
    exact lv_iinc hx hb hd hl hq rfl g2 (pj_l_1 ad L j (.int (x + Int32.ofInt n)) _ rfl) k
  all_goals cases (show (none : Option (pj_L × List Value)) = some (L', S') from h)
end PJKL
/-! BRANCHES: the target stands in the table -/
def pj_c1 : Jvm.ClassFile.Cond → Int32 → Int32 → Bool
  | .eq, x, y => decide (x = y)
  | .ne, x, y => decide (¬ x = y)
  | .lt, x, y => decide (x < y)
  | .ge, x, y => decide (y ≤ x)
  | .gt, x, y => decide (y < x)
  | .le, x, y => decide (x ≤ y)

def pj_kb (i : Instr) (tgt pc : Nat) (S : List Value) : Option (Nat × List Value) := match i with
  | .goto _ => some (tgt, S)
  | .ifCond cd _ => (match S with
    | .int x :: r => some (if pj_c1 cd x 0 then tgt else pc + 3, r)
    | _ => none)
  | .if_icmp cd _ => (match S with
    | .int y :: .int x :: r => some (if pj_c1 cd x y then tgt else pc + 3, r)
    | _ => none)
  | .tableswitch dflt lo hi offs => (match S with
    | .int x :: r => if x.toInt < lo ∨ hi < x.toInt then (if 0 ≤ (pc : Int) + dflt then some (((pc : Int) + dflt).toNat, r) else none)
      else (match offs[(x.toInt - lo).toNat]? with
        | some off => if 0 ≤ (pc : Int) + off then some (((pc : Int) + off).toNat, r) else none
        | none => none)
    | _ => none)
  | .lookupswitch dflt ps => (match S with
    | .int x :: r => if 0 ≤ (pc : Int) + Op.lookupswitch.offset ps.toList dflt x.toInt then some (((pc : Int) + Op.lookupswitch.offset ps.toList dflt x.toInt).toNat, r) else none
    | _ => none)
  | _ => none
/-- what the table must hold of a branch -/
def pj_okb (i : Instr) (tgt pc : Nat) : Bool := match i with
  | .goto off => decide ((pc : Int) + off = (tgt : Int))
  | .ifCond _ off => decide ((pc : Int) + off = (tgt : Int))
  | .if_icmp _ off => decide ((pc : Int) + off = (tgt : Int))
  | .lookupswitch _ ps => (ps.toList.zip (ps.toList.drop 1)).all (fun (a, next) => a.1 < next.1)
  | _ => true
section PJKB
variable {p : Program} {l : Launch} {e : Env} {R : Room} {s : State} {m : MethodId} {args : Array Value} {below : List Frame} {meth : Method} {c : Code} {H : Heap} {locs : List Loc} {cells slots : Nat} {Q : State → Prop}
variable {cc : ByteArray} {pc tgt pc' len : Nat} {ls : Array Slot}
set_option maxHeartbeats 4000000 in
theorem pj_kb_snd (ad : pj_A) (hx : p.tables.exec = Jvm.exec) (hb : c.code = cc) {i : Instr} {S S' : List Value} (hd : decode cc pc = .ok (i, len)) (hlen : (match i with | .tableswitch .. => True | .lookupswitch .. => True | _ => len = pj_len i)) (hok : pj_okb i tgt pc = true) (h : pj_kb i tgt pc S = some (pc', S'))
    (k : W p l e R s m args below meth c H locs cells slots Q (F0 m pc' ls (S'.map (pj_v ad)))) : W p l e R s m args below meth c H locs cells slots Q (F0 m pc ls (S.map (pj_v ad))) := by
  cases i
  case goto off =>
    cases h
    have hlen : len = 3 := hlen
    subst hlen
    exact lv_goto hx hb hd (of_decide_eq_true hok) k
  case ifCond cd off =>
    have hlen : len = 3 := hlen
    subst hlen
    have ht : (pc : Int) + off = (tgt : Int) := of_decide_eq_true hok
    simp only [pj_kb] at h
    split at h
    · cases h
      cases cd
      case eq => exact lv_if_eq hx hb hd ht (fun q => by simpa only [pj_c1, q, Bool.false_eq_true, decide_true, decide_false, if_true, if_false, not_true_eq_false, not_false_eq_true, decide_not] using k) (fun q => by simpa only [pj_c1, q, Bool.false_eq_true, decide_true, decide_false, if_true, if_false, not_true_eq_false, not_false_eq_true, decide_not] using k)
      case ne => exact lv_if_ne hx hb hd ht (fun q => by simpa only [pj_c1, q, Bool.false_eq_true, decide_true, decide_false, if_true, if_false, not_true_eq_false, not_false_eq_true, decide_not] using k) (fun q => by simpa only [pj_c1, q, Bool.false_eq_true, decide_true, decide_false, if_true, if_false, not_true_eq_false, not_false_eq_true, decide_not] using k)
      case lt => exact lv_if_lt hx hb hd ht (fun q => by simpa only [pj_c1, q, Bool.false_eq_true, decide_true, decide_false, if_true, if_false, not_true_eq_false, not_false_eq_true, decide_not] using k) (fun q => by simpa only [pj_c1, q, Bool.false_eq_true, decide_true, decide_false, if_true, if_false, not_true_eq_false, not_false_eq_true, decide_not] using k)
      case ge => exact lv_if_ge hx hb hd ht (fun q => by simpa only [pj_c1, q, Bool.false_eq_true, decide_true, decide_false, if_true, if_false, not_true_eq_false, not_false_eq_true, decide_not] using k) (fun q => by simpa only [pj_c1, q, Bool.false_eq_true, decide_true, decide_false, if_true, if_false, not_true_eq_false, not_false_eq_true, decide_not] using k)
      case gt => exact lv_if_gt hx hb hd ht (fun q => by simpa only [pj_c1, q, Bool.false_eq_true, decide_true, decide_false, if_true, if_false, not_true_eq_false, not_false_eq_true, decide_not] using k) (fun q => by simpa only [pj_c1, q, Bool.false_eq_true, decide_true, decide_false, if_true, if_false, not_true_eq_false, not_false_eq_true, decide_not] using k)
      case le => exact lv_if_le hx hb hd ht (fun q => by simpa only [pj_c1, q, Bool.false_eq_true, decide_true, decide_false, if_true, if_false, not_true_eq_false, not_false_eq_true, decide_not] using k) (fun q => by simpa only [pj_c1, q, Bool.false_eq_true, decide_true, decide_false, if_true, if_false, not_true_eq_false, not_false_eq_true, decide_not] using k)
    · cases h
  case if_icmp cd off =>
    have hlen : len = 3 := hlen
    subst hlen
    have ht : (pc : Int) + off = (tgt : Int) := of_decide_eq_true hok
    simp only [pj_kb] at h
    split at h
    · cases h
      cases cd
      case eq => exact lv_icmp_eq hx hb hd ht (fun q => by simpa only [pj_c1, q, Bool.false_eq_true, decide_true, decide_false, if_true, if_false, not_true_eq_false, not_false_eq_true, decide_not] using k) (fun q => by simpa only [pj_c1, q, Bool.false_eq_true, decide_true, decide_false, if_true, if_false, not_true_eq_false, not_false_eq_true, decide_not] using k)
      case ne => exact lv_icmp_ne hx hb hd ht (fun q => by simpa only [pj_c1, q, Bool.false_eq_true, decide_true, decide_false, if_true, if_false, not_true_eq_false, not_false_eq_true, decide_not] using k) (fun q => by simpa only [pj_c1, q, Bool.false_eq_true, decide_true, decide_false, if_true, if_false, not_true_eq_false, not_false_eq_true, decide_not] using k)
      case lt => exact lv_icmp_lt hx hb hd ht (fun q => by simpa only [pj_c1, q, Bool.false_eq_true, decide_true, decide_false, if_true, if_false, not_true_eq_false, not_false_eq_true, decide_not] using k) (fun q => by simpa only [pj_c1, q, Bool.false_eq_true, decide_true, decide_false, if_true, if_false, not_true_eq_false, not_false_eq_true, decide_not] using k)
      case ge => exact lv_icmp_ge hx hb hd ht (fun q => by simpa only [pj_c1, q, Bool.false_eq_true, decide_true, decide_false, if_true, if_false, not_true_eq_false, not_false_eq_true, decide_not] using k) (fun q => by simpa only [pj_c1, q, Bool.false_eq_true, decide_true, decide_false, if_true, if_false, not_true_eq_false, not_false_eq_true, decide_not] using k)
      case gt => exact lv_icmp_gt hx hb hd ht (fun q => by simpa only [pj_c1, q, Bool.false_eq_true, decide_true, decide_false, if_true, if_false, not_true_eq_false, not_false_eq_true, decide_not] using k) (fun q => by simpa only [pj_c1, q, Bool.false_eq_true, decide_true, decide_false, if_true, if_false, not_true_eq_false, not_false_eq_true, decide_not] using k)
      case le => exact lv_icmp_le hx hb hd ht (fun q => by simpa only [pj_c1, q, Bool.false_eq_true, decide_true, decide_false, if_true, if_false, not_true_eq_false, not_false_eq_true, decide_not] using k) (fun q => by simpa only [pj_c1, q, Bool.false_eq_true, decide_true, decide_false, if_true, if_false, not_true_eq_false, not_false_eq_true, decide_not] using k)
    · cases h
  case tableswitch dflt lo hi offs =>
    simp only [pj_kb] at h
    split at h
    · split at h
      · split at h
        · cases h
          rename_i h1 h2
          exact lv_tableOut hx hb hd h1 (Int.toNat_of_nonneg h2).symm k
        · cases h
      · split at h
        · split at h
          · cases h
            rename_i h1 _ off h2 h3
            exact lv_tableIn hx hb hd (fun z => h1 (Or.inl z)) (fun z => h1 (Or.inr z)) h2 (Int.toNat_of_nonneg h3).symm k
          · cases h
        · cases h
    · cases h
  case lookupswitch dflt ps =>
    simp only [pj_kb] at h
    split at h
    · split at h
      · cases h
        rename_i h1
        exact lv_lookup hx hb hd hok rfl (Int.toNat_of_nonneg h1).symm k
      · cases h
    · cases h
  all_goals cases (show (none : Option (Nat × List Value)) = some (pc', S') from h)
end PJKB
