/-! ONE STEP -/
abbrev pj_F : Type := Nat → List Value → pj_G → Option (Option Value × pj_G × Nat × Nat)
abbrev pj_T : Type := pj_G × Nat × pj_L × List Value × Nat × Nat
def pj_rcv (kind ci : Nat) (G : pj_G) (vs : List Value) : Bool := match kind with
  | 0 => (match vs with
    | .ref a :: _ => (match pj_get G a with
      | some (.inr (c, _)) => c == ci
      | _ => false)
    | _ => false)
  | 2 => true
  | 4 => (match vs with
    | .ref _ :: _ => true
    | _ => false)
  | 8 => (match vs with
    | .retAddr k :: _ => decide (k < 16)
    | _ => false)
  | 9 => true
  | _ => false
/-- Math.max, min, abs -/
def pj_mth (kind : Nat) (S : List Value) : Option (List Value) := match kind with
  | 10 => (match S with
    | .int y :: .int x :: r => if (r.map Value.category).sum ≤ 8 then some (.int (if x < y then y else x) :: r) else none
    | _ => none)
  | 11 => (match S with
    | .int y :: .int x :: r => if (r.map Value.category).sum ≤ 8 then some (.int (if y < x then y else x) :: r) else none
    | _ => none)
  | 12 => (match S with
    | .int x :: r => if (r.map Value.category).sum ≤ 8 then some (.int (if 0 ≤ x then x else 0 - x) :: r) else none
    | _ => none)
  | _ => none
/-- the law's own helpers, which catch: name, code, locals, answer, table -/
abbrev pj_Hl : Type := MethodName × ByteArray × Nat × Option FieldType × List (Nat × Nat × Nat × Nat)
def pj_hl : List pj_Hl := [(yL_crossing, cL_crossing, 5, some .int, [(0, 10, 13, 13)]), (yL_bridge, cL_bridge, 5, some .int, [(0, 10, 13, 13)]), (yL_person, cL_person, 5, some .int, [(0, 10, 13, 13)]), (yL_row, cL_row, 4, some .int, [(0, 8, 11, 13)])]
def pj_hw (h : pj_Hl) : Jvm.Cond := .codeWith h.1 h.2.1 h.2.2.1 h.2.2.2.1 h.2.2.2.2
abbrev pj_MetH (l : Launch) (b : Nat × (Nat → Nat)) (base : Nat) (cy : Nat → ClassId) (D : va_G) (adV : Nat → Nat) (d : Nat) (h : pj_Hl) (vs : List Value) (G : pj_G) (v : Option Value) (G' : pj_G) (dc ds : Nat) : Prop :=
  Met l h.1 (pj_hw h :: pj_all) (pj_rm d dc ds) (pj_P b base cy D adV vs G) (pj_Q b base cy D v G') dc ds (fun q => base ≤ q)
def pj_inv (call : pj_F) (inf : List Nat) (G : pj_G) (S : List Value) : Option (pj_G × List Value × Nat × Nat) :=
  if inf.getD 1 0 ≤ S.length ∧ ((S.drop (inf.getD 1 0)).map Value.category).sum ≤ 8 ∧ pj_rcv (inf.getD 0 0) (inf.getD 3 0) G (S.take (inf.getD 1 0)).reverse = true then
    (match call (inf.getD 2 0) (S.take (inf.getD 1 0)).reverse G with
    | some r => some (r.2.1, r.1.toList ++ S.drop (inf.getD 1 0), r.2.2.1, r.2.2.2)
    | none => none)
  else none
def pj_oi (S : List Value) : Option (List Value) := match S with
  | .ref _ :: r => if (r.map Value.category).sum ≤ 8 then some r else none
  | _ => none
def pj_s (call : pj_F) (n0 : Nat) (xs : Nat → Int32) (nL : Nat) (inf : List Nat) (z : Int) (i : Instr) (pc : Nat) (G : pj_G) (L : pj_L) (S : List Value) : Option pj_T := match i with
  | .getfield _ => (pj_gf (inf.getD 0 0) (inf.getD 1 0) G S).map (fun r => (G, pc + 3, L, r, 0, 0))
  | .putfield _ => (pj_pf (inf.getD 0 0) (inf.getD 1 0) G S).map (fun r => (r.1, pc + 3, L, r.2, 0, 0))
  | .iaload => (match pj_sc n0 xs S with
    | some r => some (G, pc + 1, L, r, 0, 0)
    | none => (pj_rdi G S).map (fun r => (G, pc + 1, L, r, 0, 0)))
  | .baload => (pj_rdz G S).map (fun r => (G, pc + 1, L, r, 0, 0))
  | .laload => (pj_rdl G S).map (fun r => (G, pc + 1, L, r, 0, 0))
  | .aaload => (pj_rdq G S).map (fun r => (G, pc + 1, L, r, 0, 0))
  | .iastore => (pj_asi G S).map (fun r => (r.1, pc + 1, L, r.2, 0, 0))
  | .bastore => (pj_asz G S).map (fun r => (r.1, pc + 1, L, r.2, 0, 0))
  | .lastore => (pj_asl G S).map (fun r => (r.1, pc + 1, L, r.2, 0, 0))
  | .aastore => (pj_asq G S).map (fun r => (r.1, pc + 1, L, r.2, 0, 0))
  | .arraylength => (pj_aln n0 G S).map (fun r => (G, pc + 1, L, r, 0, 0))
  | .new _ => (pj_nw (inf.getD 0 0) G S).map (fun r => (r.1, pc + 3, L, r.2.1, 1, r.2.2))
  | .newarray a => (pj_na a G S).map (fun r => (r.1, pc + 2, L, r.2.1, 1, r.2.2))
  | .anewarray _ => (pj_nq G S).map (fun r => (r.1, pc + 3, L, r.2.1, 1, r.2.2))
  | .ldc _ => some (G, pc + 2, L, (if inf.getD 0 0 = 0 then Value.int (Int32.ofInt z) else Value.retAddr (inf.getD 1 0)) :: S, 0, 0)
  | .ldc_w _ => some (G, pc + 3, L, (if inf.getD 0 0 = 0 then Value.int (Int32.ofInt z) else Value.retAddr (inf.getD 1 0)) :: S, 0, 0)
  | .ldc2_w _ => some (G, pc + 3, L, Value.long (Int64.ofInt z) :: S, 0, 0)
  | .invokevirtual _ => (pj_inv call inf G S).map (fun r => (r.1, pc + 3, L, r.2.1, r.2.2.1, r.2.2.2))
  | .invokespecial _ => if inf.getD 0 0 = 6 then (pj_oi S).map (fun r => (G, pc + 3, L, r, 0, 0)) else (pj_inv call inf G S).map (fun r => (r.1, pc + 3, L, r.2.1, r.2.2.1, r.2.2.2))
  | .invokestatic _ => if inf.getD 0 0 = 7 then (pj_cp G S).map (fun r => (r.1, pc + 3, L, r.2, 0, 0)) else if 10 ≤ inf.getD 0 0 then (pj_mth (inf.getD 0 0) S).map (fun r => (G, pc + 3, L, r, 0, 0)) else (pj_inv call inf G S).map (fun r => (r.1, pc + 3, L, r.2.1, r.2.2.1, r.2.2.2))
  | .goto q => (pj_kb (.goto q) (inf.getD 0 0) pc S).map (fun r => (G, r.1, L, r.2, 0, 0))
  | .ifCond q1 q2 => (pj_kb (.ifCond q1 q2) (inf.getD 0 0) pc S).map (fun r => (G, r.1, L, r.2, 0, 0))
  | .if_icmp q1 q2 => (pj_kb (.if_icmp q1 q2) (inf.getD 0 0) pc S).map (fun r => (G, r.1, L, r.2, 0, 0))
  | .tableswitch q1 q2 q3 q4 => (pj_kb (.tableswitch q1 q2 q3 q4) (inf.getD 0 0) pc S).map (fun r => (G, r.1, L, r.2, 0, 0))
  | .lookupswitch q1 q2 => (pj_kb (.lookupswitch q1 q2) (inf.getD 0 0) pc S).map (fun r => (G, r.1, L, r.2, 0, 0))
  | .iload_n k => (pj_kl nL (.iload_n k) L S).map (fun r => (G, pc + pj_len (.iload_n k), r.1, r.2, 0, 0))
  | .iload k => (pj_kl nL (.iload k) L S).map (fun r => (G, pc + pj_len (.iload k), r.1, r.2, 0, 0))
  | .lload_n k => (pj_kl nL (.lload_n k) L S).map (fun r => (G, pc + pj_len (.lload_n k), r.1, r.2, 0, 0))
  | .lload k => (pj_kl nL (.lload k) L S).map (fun r => (G, pc + pj_len (.lload k), r.1, r.2, 0, 0))
  | .aload_n k => (pj_kl nL (.aload_n k) L S).map (fun r => (G, pc + pj_len (.aload_n k), r.1, r.2, 0, 0))
  | .aload k => (pj_kl nL (.aload k) L S).map (fun r => (G, pc + pj_len (.aload k), r.1, r.2, 0, 0))
  | .istore_n k => (pj_kl nL (.istore_n k) L S).map (fun r => (G, pc + pj_len (.istore_n k), r.1, r.2, 0, 0))
  | .istore k => (pj_kl nL (.istore k) L S).map (fun r => (G, pc + pj_len (.istore k), r.1, r.2, 0, 0))
  | .lstore_n k => (pj_kl nL (.lstore_n k) L S).map (fun r => (G, pc + pj_len (.lstore_n k), r.1, r.2, 0, 0))
  | .lstore k => (pj_kl nL (.lstore k) L S).map (fun r => (G, pc + pj_len (.lstore k), r.1, r.2, 0, 0))
  | .astore_n k => (pj_kl nL (.astore_n k) L S).map (fun r => (G, pc + pj_len (.astore_n k), r.1, r.2, 0, 0))
  | .astore k => (pj_kl nL (.astore k) L S).map (fun r => (G, pc + pj_len (.astore k), r.1, r.2, 0, 0))
  | .iinc k q => (pj_kl nL (.iinc k q) L S).map (fun r => (G, pc + 3, r.1, r.2, 0, 0))
  | i => (pj_k i S).map (fun r => (G, pc + pj_len i, L, r, 0, 0))
def pj_okv (P : List pj_M) (own : String) (idx : Nat) (inf : List Nat) : Bool := match P[inf.getD 2 0]? with
  | none => false
  | some M => decide (1 ≤ inf.getD 1 0) && pj_okM M (inf.getD 1 0 - 1) && pj_wd (M.2.2.2.2.1.getD 2 0) (.instanceMethod M.1) && pj_wd (M.2.2.2.2.1.getD 3 0) (.selects M.1.cls M.1 M.1) &&
    ((decide (inf.getD 0 0 = 0) && ((pj_lnk (inf.getD 4 0) own idx M.1 || pj_lnkN (inf.getD 4 0) own idx M.1) && decide ((pj_cls[inf.getD 3 0]?).map (fun q => q.1) = some M.1.cls))) ||
     (decide (inf.getD 0 0 = 8) && (pj_lnk (inf.getD 4 0) own idx M.1 && decide ("java/lang/String" = M.1.cls))))
def pj_oks (P : List pj_M) (own : String) (idx : Nat) (inf : List Nat) : Bool := if inf.getD 0 0 = 7 then pj_lnk (inf.getD 4 0) own idx arraycopyName && pj_wd (inf.getD 5 0) (.native arraycopyName) && pj_wd (inf.getD 6 0) (.static arraycopyName) && pj_wd (inf.getD 7 0) (.initialized "java/lang/System") else if inf.getD 0 0 = 10 then pj_lnk (inf.getD 4 0) own idx Lib.Math.max.name && pj_wd (inf.getD 5 0) (.static Lib.Math.max.name) && pj_wd (inf.getD 6 0) (.initialized "java/lang/Math") && pj_wd (inf.getD 7 0) (.code Lib.Math.max.name Lib.Math.max.code 2 (some .int))
  else if inf.getD 0 0 = 11 then pj_lnk (inf.getD 4 0) own idx Lib.Math.min.name && pj_wd (inf.getD 5 0) (.static Lib.Math.min.name) && pj_wd (inf.getD 6 0) (.initialized "java/lang/Math") && pj_wd (inf.getD 7 0) (.code Lib.Math.min.name Lib.Math.min.code 2 (some .int))
  else if inf.getD 0 0 = 12 then pj_lnk (inf.getD 4 0) own idx Lib.Math.abs.name && pj_wd (inf.getD 5 0) (.static Lib.Math.abs.name) && pj_wd (inf.getD 6 0) (.initialized "java/lang/Math") && pj_wd (inf.getD 7 0) (.code Lib.Math.abs.name Lib.Math.abs.code 1 (some .int))
  else if inf.getD 0 0 = 9 then (match pj_hl[inf.getD 2 0 - 1000]? with
    | none => false
    | some h => decide (1000 ≤ inf.getD 2 0) && pj_lnk (inf.getD 4 0) own idx h.1 && pj_wd (inf.getD 5 0) (.static h.1) && pj_wd (inf.getD 6 0) (.initialized h.1.cls) && pj_wd (inf.getD 7 0) (pj_hw h) && (decide (h.1.cls ≠ "java/lang/invoke/MethodHandle") && decide (h.1.cls ≠ "java/lang/invoke/VarHandle")) && decide ((parseMethodDescriptor h.1.desc).map (fun d => d.parameters.length) = some (inf.getD 1 0)) && decide (h.2.2.1 ≤ 45))
  else (match P[inf.getD 2 0]? with
  | none => false
  | some M => decide (inf.getD 0 0 = 2) && pj_okM M (inf.getD 1 0) && pj_wd (M.2.2.2.2.1.getD 2 0) (.static M.1) && (pj_lnk (inf.getD 4 0) own idx M.1 || pj_lnkN (inf.getD 4 0) own idx M.1))
def pj_okc (P : List pj_M) (own : String) (idx : Nat) (inf : List Nat) : Bool := if inf.getD 0 0 = 6 then pj_lnk (inf.getD 4 0) own idx Lib.objectInit && pj_wd (inf.getD 5 0) (.instanceMethod Lib.objectInit) && pj_wd (inf.getD 6 0) (.code Lib.objectInit ⟨#[0xb1]⟩ 1 none) else (match P[inf.getD 2 0]? with
  | none => false
  | some M => decide (inf.getD 0 0 = 4) && decide (1 ≤ inf.getD 1 0) && pj_okM M (inf.getD 1 0 - 1) && pj_wd (M.2.2.2.2.1.getD 2 0) (.instanceMethod M.1) && decide (M.1.name = "<init>") && decide (M.2.2.2.1 = none) && (pj_lnk (inf.getD 4 0) own idx M.1 || pj_lnkN (inf.getD 4 0) own idx M.1))
def pj_ok (P : List pj_M) (own : String) (ini : Bool) (pc : Nat) (i : Instr) (len : Nat) (inf : List Nat) (z : Int) : Bool := match i with
  | .getfield idx => decide (len = 3) && pj_okf own idx (inf.getD 0 0) (inf.getD 1 0) (inf.getD 2 0)
  | .putfield idx => decide (len = 3) && pj_okf own idx (inf.getD 0 0) (inf.getD 1 0) (inf.getD 2 0) && pj_okp own ini idx (inf.getD 0 0) (inf.getD 1 0) (inf.getD 2 0)
  | .new idx => decide (len = 3) && pj_okn own idx (inf.getD 0 0) (inf.getD 1 0) (inf.getD 2 0) (inf.getD 3 0)
  | .newarray a => decide (len = 2) && pj_wd (inf.getD 0 0) (.arrayClass (newarray.typeOf a))
  | .anewarray idx => decide (len = 3) && pj_wd (inf.getD 0 0) (.classLink own idx RX8) && pj_wd (inf.getD 1 0) (.arrayOver (.object RX8))
  | .ldc idx => decide (len = 2) && (if inf.getD 0 0 = 0 then pj_wd (inf.getD 1 0) (.constant own idx (Int32.ofInt z)) else decide ((pj_strs[inf.getD 1 0]?).map (fun q => (q.1, q.2.1)) = some (own, idx)))
  | .ldc_w idx => decide (len = 3) && (if inf.getD 0 0 = 0 then pj_wd (inf.getD 1 0) (.constant own idx (Int32.ofInt z)) else decide ((pj_strs[inf.getD 1 0]?).map (fun q => (q.1, q.2.1)) = some (own, idx)))
  | .ldc2_w idx => decide (len = 3) && pj_wd (inf.getD 1 0) (.constantLong own idx (Int64.ofInt z))
  | .invokevirtual idx => decide (len = 3) && pj_okv P own idx inf
  | .invokespecial idx => decide (len = 3) && pj_okc P own idx inf
  | .invokestatic idx => decide (len = 3) && pj_oks P own idx inf
  | .tableswitch .. => true
  | .lookupswitch q1 q2 => pj_okb (.lookupswitch q1 q2) 0 pc
  | .goto q => decide (len = 3) && pj_okb (.goto q) (inf.getD 0 0) pc
  | .ifCond q1 q2 => decide (len = 3) && pj_okb (.ifCond q1 q2) (inf.getD 0 0) pc
  | .if_icmp q1 q2 => decide (len = 3) && pj_okb (.if_icmp q1 q2) (inf.getD 0 0) pc
  | i => decide (len = pj_len i)
theorem pj_map {α β : Type} {x : Option α} {f : α → β} {y : β} (h : x.map f = some y) : ∃ a, x = some a ∧ f a = y := Option.map_eq_some_iff.mp h
theorem pj_take (n : Nat) (S : List Value) : S = (S.take n).reverse.reverse ++ S.drop n := by rw [List.reverse_reverse, List.take_append_drop]
theorem pj_inv_s {call : pj_F} {inf : List Nat} {G G' : pj_G} {S S' : List Value} {dc ds : Nat} (h : pj_inv call inf G S = some (G', S', dc, ds)) : ∃ (vs rest : List Value) (v : Option Value), S = vs.reverse ++ rest ∧ vs.length = inf.getD 1 0 ∧ (rest.map Value.category).sum ≤ 8 ∧ pj_rcv (inf.getD 0 0) (inf.getD 3 0) G vs = true ∧ call (inf.getD 2 0) vs G = some (v, G', dc, ds) ∧ S' = v.toList ++ rest := by
  unfold pj_inv at h
  split at h
  · rename_i hg
    obtain ⟨h1, h2, h3⟩ := hg
    split at h
    · rename_i r hr
      cases h
      refine ⟨(S.take (inf.getD 1 0)).reverse, S.drop (inf.getD 1 0), r.1, pj_take _ S, ?_, h2, h3, hr, rfl⟩
      rw [List.length_reverse, List.length_take]
      exact Nat.min_eq_left h1
    · cases h
  · cases h
section PJS
variable {p : Program} {l : Launch} {e : Env} {R : Room} {s : State} {m : MethodId} {args : Array Value} {below : List Frame} {meth : Method} {c : Code} {H : Heap} {locs : List Loc} {cells slots : Nat} {Q : State → Prop}
variable {cc : ByteArray} {pc nL : Nat} {ls : Array Slot} {b : Nat × (Nat → Nat)} {base : Nat} {cy : Nat → ClassId} {D : va_G} {G G' : pj_G} {S S' : List Value} {own : String} {dc ds d : Nat} {n0 : Nat} {xs : Nat → Int32} {adV : Nat → Nat} {L L' : pj_L} {pc' : Nat}
theorem pj_s_k {i : Instr} (hx : p.tables.exec = Jvm.exec) (hb : c.code = cc) (hlv : lv_has ls nL (pj_l (pj_ad b base) L)) {len : Nat} (hd : decode cc pc = .ok (i, len)) (hok : decide (len = pj_len i) = true) (h : (pj_k i S).map (fun r => (G, pc + pj_len i, L, r, 0, 0)) = some (G', pc', L', S', dc, ds))
    (kk : ∀ ls' : Array Slot, lv_has ls' nL (pj_l (pj_ad b base) L') → pj_N p l e R s m args below meth c Q b base cy D ls' (cells + dc) (slots + ds) G' pc' S') : pj_N p l e R s m args below meth c Q b base cy D ls cells slots G pc S := by
  obtain ⟨r, h1, h2⟩ := pj_map h
  cases h2
  have hl := of_decide_eq_true hok
  subst hl
  intro H locs hP hS
  exact pj_k_snd (pj_ad b base) hx hb hd h1 (kk ls hlv H locs hP hS)
theorem pj_s_l {i : Instr} (hx : p.tables.exec = Jvm.exec) (hb : c.code = cc) (hlv : lv_has ls nL (pj_l (pj_ad b base) L)) {len : Nat} (hd : decode cc pc = .ok (i, len)) (hok : decide (len = pj_len i) = true) (h : (pj_kl nL i L S).map (fun r => (G, pc + pj_len i, r.1, r.2, 0, 0)) = some (G', pc', L', S', dc, ds))
    (kk : ∀ ls' : Array Slot, lv_has ls' nL (pj_l (pj_ad b base) L') → pj_N p l e R s m args below meth c Q b base cy D ls' (cells + dc) (slots + ds) G' pc' S') : pj_N p l e R s m args below meth c Q b base cy D ls cells slots G pc S := by
  obtain ⟨r, h1, h2⟩ := pj_map h
  cases h2
  have hl := of_decide_eq_true hok
  subst hl
  intro H locs hP hS
  exact pj_kl_snd (pj_ad b base) hx hb hlv hd h1 (fun ls' hl' => kk ls' hl' H locs hP hS)
theorem pj_s_b {i : Instr} {tgt len : Nat} (hx : p.tables.exec = Jvm.exec) (hb : c.code = cc) (hlv : lv_has ls nL (pj_l (pj_ad b base) L)) (hd : decode cc pc = .ok (i, len)) (hlen : (match i with | .tableswitch .. => True | .lookupswitch .. => True | _ => len = pj_len i)) (hok : pj_okb i tgt pc = true) (h : (pj_kb i tgt pc S).map (fun r => (G, r.1, L, r.2, 0, 0)) = some (G', pc', L', S', dc, ds))
    (kk : ∀ ls' : Array Slot, lv_has ls' nL (pj_l (pj_ad b base) L') → pj_N p l e R s m args below meth c Q b base cy D ls' (cells + dc) (slots + ds) G' pc' S') : pj_N p l e R s m args below meth c Q b base cy D ls cells slots G pc S := by
  obtain ⟨⟨r1, r2⟩, h1, h2⟩ := pj_map h
  cases h2
  intro H locs hP hS
  exact pj_kb_snd (pj_ad b base) hx hb hd hlen hok h1 (kk ls hlv H locs hP hS)
theorem pj_okv_lt {P : List pj_M} {own : String} {idx : Nat} {inf : List Nat} (h : pj_okv P own idx inf = true) (hPl : P.length ≤ 1000) : inf.getD 2 0 < 1000 := by
  unfold pj_okv at h
  split at h
  · cases h
  · rename_i M9 hM9
    exact Nat.lt_of_lt_of_le (List.getElem?_eq_some_iff.mp hM9).1 hPl
theorem pj_iH {h : pj_Hl} {vs rest : List Value} {v : Option Value} {idx pl p1 p2 p3 : Nat} (hC : pj_Cx p s m args c cc nL ls own b base cy D n0 xs adV) (hex : G.2 = true → s.heap.size + cells = base + G.1.length)
    (hM : pj_MetH l b base cy D adV d h vs G v G' dc ds) (hl : pj_lnk pl own idx h.1 = true) (hst : pj_wd p1 (.static h.1) = true) (hin : pj_wd p2 (.initialized h.1.cls) = true) (hcw : pj_wd p3 (pj_hw h) = true) (hy : h.1.cls ≠ "java/lang/invoke/MethodHandle" ∧ h.1.cls ≠ "java/lang/invoke/VarHandle") (hn : (parseMethodDescriptor h.1.desc).map (fun d => d.parameters.length) = some vs.length) (hmx : h.2.2.1 ≤ 45)
    (hd : decode cc pc = .ok (.invokestatic idx, 3)) (hf : d + 1 ≤ R.frames) (hlo : 64 * (d + 1) ≤ R.locals) (hc : cells + dc ≤ R.cells) (hs : slots + ds ≤ R.slots) (hW : (rest.map Value.category).sum ≤ 8)
    (kk : pj_N p l e R s m args below meth c Q b base cy D ls (cells + dc) (slots + ds) G' (pc + 3) (v.toList ++ rest)) : pj_N p l e R s m args below meth c Q b base cy D ls cells slots G pc (vs.reverse ++ rest) := by
  obtain ⟨hS0, hK, hO, hbs, hls⟩ := hC
  have hts := hS0.2.2.2.2
  intro H locs hP hS
  refine pj_exact (fun hz => ?_)
  have hstk : (vs.reverse ++ rest).map (pj_v (pj_ad b base)) = (vs.map (pj_v (pj_ad b base))).reverse ++ rest.map (pj_v (pj_ad b base)) := by simp
  rw [hstk]
  have hpre := pj_pre (vs := vs) hK hO hbs hP hS hz hex
  have hwarm : ∀ w ∈ pj_hw h :: pj_all, ∀ (a' : Array Value) (U : State), s.WarmedH U.vm → w.before a' U = true := by
    intro w hw a' U hW9
    have h1 : w ∈ pj_all := by
      rcases List.mem_cons.mp hw with rfl | h9
      · exact pj_wd_in hcw
      · exact h9
    exact pj_stb_warm (List.mem_filter.mp h1).2 hW9 (hts w h1)
  exact pj_after (vx_runSW (hh := h.2.2.2.2) (bytes := h.2.1) (maxL := h.2.2.1) (ret := h.2.2.2.1) (As := vs.map (pj_v (pj_ad b base))) (rest := rest.map (pj_v (pj_ad b base))) hS0 hM ⟨⟨rfl, rfl, hf, by show 8 + (h.2.2.1 + 11) + 64 * d ≤ R.locals; omega, hwarm, List.mem_cons_self⟩, hts _ (pj_wd_in hcw), hts _ (pj_wd_in hin), hy, fun sig hsg => by rw [hsg] at hn; exact (Option.some.inj hn).symm, hts _ (pj_wd_in hl), hts _ (pj_wd_in hst)⟩ ⟨pj_P_blind, hpre⟩ rfl (by rw [List.length_map]) hls rfl (lv_room (by rw [pj_cats]; exact hW)) hd ⟨hc, hs⟩) hS kk
set_option maxHeartbeats 8000000 in
theorem pj_s_snd {call : pj_F} {P : List pj_M} {ini : Bool} {i : Instr} {len : Nat} {inf : List Nat} {z : Int}
    (hC0 : (p.tables.exec = Jvm.exec ∧ c.code = cc ∧ c.maxLocals = nL ∧ s.vm.findClass own = some m.cls ∧ ∀ w ∈ pj_all, w.before args s = true) ∧ va_K D vwCl (pj_tys cy) s ∧ pj_O b base n0 xs adV s s.heap ∧ base ≤ s.heap.size) (hini : ini = true → meth.name = "<init>") (hlv : lv_has ls nL (pj_l (pj_ad b base) L)) (hex : G.2 = true → s.heap.size + cells = base + G.1.length)
    (hPl : P.length ≤ 1000) (hcall : ∀ (mi : Nat) (vs : List Value) (G : pj_G) (v : Option Value) (G' : pj_G) (dc ds : Nat), mi < 1000 → call mi vs G = some (v, G', dc, ds) → ∃ M, P[mi]? = some M ∧ pj_Met l b base cy D adV d M vs G v G' dc ds)
    (hcallH : ∀ (j : Nat) (vs : List Value) (G : pj_G) (v : Option Value) (G' : pj_G) (dc ds : Nat), call (1000 + j) vs G = some (v, G', dc, ds) → ∃ h, pj_hl[j]? = some h ∧ pj_MetH l b base cy D adV d h vs G v G' dc ds)
    (hd : decode cc pc = .ok (i, len)) (hok : pj_ok P own ini pc i len inf z = true) (h : pj_s call n0 xs nL inf z i pc G L S = some (G', pc', L', S', dc, ds)) (hf : d + 1 ≤ R.frames) (hlo : 64 * (d + 1) ≤ R.locals) (hc : cells + dc ≤ R.cells) (hs : slots + ds ≤ R.slots)
    (kk : ∀ ls' : Array Slot, lv_has ls' nL (pj_l (pj_ad b base) L') → pj_N p l e R s m args below meth c Q b base cy D ls' (cells + dc) (slots + ds) G' pc' S') : pj_N p l e R s m args below meth c Q b base cy D ls cells slots G pc S := by
  obtain ⟨⟨hx, hb, hml, hown, hts⟩, hK, hO, hbs⟩ := hC0
  have hC : pj_Cx p s m args c cc nL ls own b base cy D n0 xs adV := ⟨⟨hx, hb, hml, hown, hts⟩, hK, hO, hbs, hlv.1⟩
  have hbl : b.1 < s.heap.size := Nat.lt_of_lt_of_le hO.1.2 hbs
  cases i
  case getfield idx =>
    simp only [pj_ok, Bool.and_eq_true, decide_eq_true_eq] at hok
    obtain ⟨rfl, hok⟩ := hok
    obtain ⟨r, h1, h2⟩ := pj_map h
    cases h2
    exact pj_gf_snd hx hb hts hown hK hok hd h1 (kk ls hlv)
  case putfield idx =>
    simp only [pj_ok, Bool.and_eq_true, decide_eq_true_eq] at hok
    obtain ⟨⟨rfl, hok⟩, hok2⟩ := hok
    obtain ⟨⟨r1, r2⟩, h1, h2⟩ := pj_map h
    cases h2
    exact pj_pf_snd hx hb hts hown hK hini hok hok2 hd h1 (kk ls hlv)
  case iaload =>
    have hl : len = 1 := of_decide_eq_true hok
    subst hl
    simp only [pj_s] at h
    split at h
    · rename_i r hr
      cases h
      exact pj_sc_snd hx hb hO.1.1 hbl hO.1.2 hd hr (kk ls hlv)
    · obtain ⟨r, h1, h2⟩ := pj_map h
      cases h2
      exact pj_rdi_snd hx hb hK hd h1 (kk ls hlv)
  case baload =>
    have hl : len = 1 := of_decide_eq_true hok
    subst hl
    obtain ⟨r, h1, h2⟩ := pj_map h
    cases h2
    exact pj_rdz_snd hx hb hK hd h1 (kk ls hlv)
  case laload =>
    have hl : len = 1 := of_decide_eq_true hok
    subst hl
    obtain ⟨r, h1, h2⟩ := pj_map h
    cases h2
    exact pj_rdl_snd hx hb hK hd h1 (kk ls hlv)
  case aaload =>
    have hl : len = 1 := of_decide_eq_true hok
    subst hl
    obtain ⟨r, h1, h2⟩ := pj_map h
    cases h2
    exact pj_rdq_snd hx hb hK hd h1 (kk ls hlv)
  case iastore =>
    have hl : len = 1 := of_decide_eq_true hok
    subst hl
    obtain ⟨⟨r1, r2⟩, h1, h2⟩ := pj_map h
    cases h2
    exact pj_asi_snd hx hb hK hd h1 (kk ls hlv)
  case bastore =>
    have hl : len = 1 := of_decide_eq_true hok
    subst hl
    obtain ⟨⟨r1, r2⟩, h1, h2⟩ := pj_map h
    cases h2
    exact pj_asz_snd hx hb hK hd h1 (kk ls hlv)
  case lastore =>
    have hl : len = 1 := of_decide_eq_true hok
    subst hl
    obtain ⟨⟨r1, r2⟩, h1, h2⟩ := pj_map h
    cases h2
    exact pj_asl_snd hx hb hK hd h1 (kk ls hlv)
  case aastore =>
    have hl : len = 1 := of_decide_eq_true hok
    subst hl
    obtain ⟨⟨r1, r2⟩, h1, h2⟩ := pj_map h
    cases h2
    exact pj_asq_snd hx hb hK hd h1 (kk ls hlv)
  case arraylength =>
    have hl : len = 1 := of_decide_eq_true hok
    subst hl
    obtain ⟨r, h1, h2⟩ := pj_map h
    cases h2
    exact pj_aln_snd hx hb hK hO.1.1 hbl hO.1.2 hd h1 (kk ls hlv)
  case new idx =>
    simp only [pj_ok, Bool.and_eq_true, decide_eq_true_eq] at hok
    obtain ⟨rfl, hok⟩ := hok
    obtain ⟨⟨r1, r2, r3⟩, h1, h2⟩ := pj_map h
    cases h2
    exact pj_nw_snd hx hb hts hown hK hbs hex hok hd h1 hc hs (kk ls hlv)
  case newarray a =>
    simp only [pj_ok, Bool.and_eq_true, decide_eq_true_eq] at hok
    obtain ⟨rfl, hok⟩ := hok
    obtain ⟨⟨r1, r2, r3⟩, h1, h2⟩ := pj_map h
    cases h2
    exact pj_na_snd hx hb hts hK hbs hex hok hd h1 hc hs (kk ls hlv)
  case anewarray idx =>
    simp only [pj_ok, Bool.and_eq_true, decide_eq_true_eq] at hok
    obtain ⟨⟨rfl, hok⟩, hok2⟩ := hok
    obtain ⟨⟨r1, r2, r3⟩, h1, h2⟩ := pj_map h
    cases h2
    exact pj_nq_snd hx hb hts hown hK hbs hex hok hok2 hd h1 hc hs (kk ls hlv)
  case ldc idx =>
    simp only [pj_ok, Bool.and_eq_true, decide_eq_true_eq] at hok
    obtain ⟨rfl, hok⟩ := hok
    cases h
    intro H locs hP hS
    have k1 := kk ls hlv H locs hP hS
    by_cases h0 : inf.getD 0 0 = 0
    · rw [if_pos h0] at hok k1
      exact lv_ldc hx hb hown (hts _ (pj_wd_in hok)) hd k1
    · rw [if_neg h0] at hok k1
      obtain ⟨q, hq, he⟩ := Option.map_eq_some_iff.mp (of_decide_eq_true hok)
      have hr := (hO.2.1 _ q hq).1
      rw [show q.1 = own from congrArg Prod.fst he, show q.2.1 = idx from congrArg Prod.snd he] at hr
      exact va_ldcS hx hb hown hr hd k1
  case ldc_w idx =>
    simp only [pj_ok, Bool.and_eq_true, decide_eq_true_eq] at hok
    obtain ⟨rfl, hok⟩ := hok
    cases h
    intro H locs hP hS
    have k1 := kk ls hlv H locs hP hS
    by_cases h0 : inf.getD 0 0 = 0
    · rw [if_pos h0] at hok k1
      exact lv_ldcw hx hb hown (hts _ (pj_wd_in hok)) hd k1
    · rw [if_neg h0] at hok k1
      obtain ⟨q, hq, he⟩ := Option.map_eq_some_iff.mp (of_decide_eq_true hok)
      have hr := (hO.2.1 _ q hq).1
      rw [show q.1 = own from congrArg Prod.fst he, show q.2.1 = idx from congrArg Prod.snd he] at hr
      intro T hT X
      obtain ⟨t, a1, b1⟩ := k1 T hT X
      exact ⟨t, X.ldcStringW hx hown (text := q.2.2) (a := b.2 (inf.getD 1 0)) hr.1 hr.2 (g := F0 m pc ls (S.map (pj_v (pj_ad b base)))) rfl (by rw [hb]; exact hd) t a1, b1⟩
  case ldc2_w idx =>
    simp only [pj_ok, Bool.and_eq_true, decide_eq_true_eq] at hok
    obtain ⟨rfl, hok⟩ := hok
    cases h
    intro H locs hP hS
    exact lv_ldc2 hx hb hown (hts _ (pj_wd_in hok)) hd (kk ls hlv H locs hP hS)
  case invokevirtual idx =>
    simp only [pj_ok, Bool.and_eq_true, decide_eq_true_eq] at hok
    obtain ⟨rfl, hok⟩ := hok
    obtain ⟨⟨r1, r2, r3, r4⟩, h1, h2⟩ := pj_map h
    cases h2
    obtain ⟨vs, rest, v, rfl, hn, hW, hrc, hcl, rfl⟩ := pj_inv_s h1
    have hlt := pj_okv_lt hok hPl
    obtain ⟨M, hM, hMet⟩ := hcall _ _ _ _ _ _ _ hlt hcl
    unfold pj_okv at hok
    rw [hM] at hok
    simp only [Bool.and_eq_true, Bool.or_eq_true, decide_eq_true_eq] at hok
    obtain ⟨⟨⟨⟨o1, o2⟩, o3⟩, o4⟩, o5⟩ := hok
    rcases o5 with ⟨z0, o6, o7⟩ | ⟨z0, o6, o7⟩
    · rw [z0] at hrc
      simp only [pj_rcv] at hrc
      split at hrc
      · rename_i a us
        split at hrc
        · rename_i ci fs hg
          have hci : ci = inf.getD 3 0 := by simpa using hrc
          obtain ⟨q, hq, hqe⟩ := Option.map_eq_some_iff.mp o7
          have hus : us.length = inf.getD 1 0 - 1 := by rw [← hn, List.length_cons]; rfl
          exact pj_iV hC hex hMet hg (by rw [hci]; exact hq) hqe (by rw [hus]; exact o2) o3 o4 o6 hd hf hlo hc hs hW (kk ls hlv)
        · cases hrc
      · cases hrc
    · rw [z0] at hrc
      simp only [pj_rcv] at hrc
      split at hrc
      · rename_i k us
        have hk : k < 16 := of_decide_eq_true hrc
        have hus : us.length = inf.getD 1 0 - 1 := by rw [← hn, List.length_cons]; rfl
        have hg : ∃ q, pj_strs[k]? = some q := ⟨_, List.getElem?_eq_getElem (show k < pj_strs.length from hk)⟩
        obtain ⟨q, hg⟩ := hg
        exact pj_iT hC hex hMet hg o7 (by rw [hus]; exact o2) o3 o4 o6 hd hf hlo hc hs hW (kk ls hlv)
      · cases hrc
  case invokespecial idx =>
    simp only [pj_ok, Bool.and_eq_true, decide_eq_true_eq] at hok
    obtain ⟨rfl, hok⟩ := hok
    simp only [pj_s] at h
    unfold pj_okc at hok
    by_cases h6 : inf.getD 0 0 = 6
    · rw [if_pos h6] at h hok
      simp only [Bool.and_eq_true] at hok
      obtain ⟨⟨o1, o2⟩, o3⟩ := hok
      obtain ⟨r, h1, h2⟩ := pj_map h
      cases h2
      unfold pj_oi at h1
      split at h1
      · split at h1
        · cases h1
          exact pj_iO hC o1 o2 o3 hd (by omega) (by omega) (by assumption) (kk ls hlv)
        · cases h1
      · cases h1
    · rw [if_neg h6] at h hok
      obtain ⟨⟨r1, r2, r3, r4⟩, h1, h2⟩ := pj_map h
      cases h2
      obtain ⟨vs, rest, v, rfl, hn, hW, hrc, hcl, rfl⟩ := pj_inv_s h1
      have hlt : inf.getD 2 0 < 1000 := by
        split at hok
        · cases hok
        · rename_i M9 hM9
          exact Nat.lt_of_lt_of_le (List.getElem?_eq_some_iff.mp hM9).1 hPl
      obtain ⟨M, hM, hMet⟩ := hcall _ _ _ _ _ _ _ hlt hcl
      rw [hM] at hok
      simp only [Bool.and_eq_true, Bool.or_eq_true, decide_eq_true_eq] at hok
      obtain ⟨⟨⟨⟨⟨⟨z0, o1⟩, o2⟩, o3⟩, o4⟩, o5⟩, o6⟩ := hok
      rw [z0] at hrc
      simp only [pj_rcv] at hrc
      split at hrc
      · rename_i a us
        have hus : us.length = inf.getD 1 0 - 1 := by rw [← hn, List.length_cons]; rfl
        exact pj_iI hC hex hMet o5 (by rw [hus]; exact o2) o3 o4 o6 hd hf hlo hc hs hW (kk ls hlv)
      · cases hrc
  case invokestatic idx =>
    simp only [pj_ok, Bool.and_eq_true, decide_eq_true_eq] at hok
    obtain ⟨rfl, hok⟩ := hok
    simp only [pj_s] at h
    unfold pj_oks at hok
    by_cases h7 : inf.getD 0 0 = 7
    · rw [if_pos h7] at h hok
      simp only [Bool.and_eq_true] at hok
      obtain ⟨⟨⟨o1, o2⟩, o3⟩, o4⟩ := hok
      obtain ⟨⟨r1, r2⟩, h1, h2⟩ := pj_map h
      cases h2
      exact pj_iA hC o1 o2 o3 o4 hd (by omega) (by omega) h1 (kk ls hlv)
    · rw [if_neg h7] at h hok
      by_cases h10 : 10 ≤ inf.getD 0 0
      · rw [if_pos h10] at h
        obtain ⟨r, h1, h2⟩ := pj_map h
        cases h2
        intro H locs hP hS
        have k1 := kk ls hlv H locs hP hS
        have hcc : cells ≤ R.cells := hc
        have hss : slots ≤ R.slots := hs
        by_cases q10 : inf.getD 0 0 = 10
        · rw [if_pos q10] at hok
          rw [q10] at h1
          simp only [Bool.and_eq_true] at hok
          obtain ⟨⟨⟨o1, o2⟩, o3⟩, o4⟩ := hok
          simp only [pj_mth] at h1
          split at h1
          · split at h1
            · rename_i hsum
              cases h1
              exact va_mmax hx hb (hml.trans hlv.1.symm) hown (hts _ (pj_wd_in o1)) (hts _ (pj_wd_in o2)) (hts _ (pj_wd_in o3)) (hts _ (pj_wd_in o4)) (by omega) (by rw [pj_cats]; omega) hcc hss hd k1
            · cases h1
          · cases h1
        · rw [if_neg q10] at hok
          by_cases q11 : inf.getD 0 0 = 11
          · rw [if_pos q11] at hok
            rw [q11] at h1
            simp only [Bool.and_eq_true] at hok
            obtain ⟨⟨⟨o1, o2⟩, o3⟩, o4⟩ := hok
            simp only [pj_mth] at h1
            split at h1
            · split at h1
              · rename_i hsum
                cases h1
                exact va_mmin hx hb (hml.trans hlv.1.symm) hown (hts _ (pj_wd_in o1)) (hts _ (pj_wd_in o2)) (hts _ (pj_wd_in o3)) (hts _ (pj_wd_in o4)) (by omega) (by rw [pj_cats]; omega) hcc hss hd k1
              · cases h1
            · cases h1
          · rw [if_neg q11] at hok
            by_cases q12 : inf.getD 0 0 = 12
            · rw [if_pos q12] at hok
              rw [q12] at h1
              simp only [Bool.and_eq_true] at hok
              obtain ⟨⟨⟨o1, o2⟩, o3⟩, o4⟩ := hok
              simp only [pj_mth] at h1
              split at h1
              · split at h1
                · rename_i hsum
                  cases h1
                  exact va_mabs hx hb (hml.trans hlv.1.symm) hown (hts _ (pj_wd_in o1)) (hts _ (pj_wd_in o2)) (hts _ (pj_wd_in o3)) (hts _ (pj_wd_in o4)) (by omega) (by rw [pj_cats]; omega) hcc hss hd k1
                · cases h1
              · cases h1
            · exact absurd h1 (by
                unfold pj_mth
                split
                · exact absurd (by assumption) q10
                · exact absurd (by assumption) q11
                · exact absurd (by assumption) q12
                · simp)
      · rw [if_neg h10] at h
        rw [if_neg (by omega), if_neg (by omega), if_neg (by omega)] at hok
        obtain ⟨⟨r1, r2, r3, r4⟩, h1, h2⟩ := pj_map h
        cases h2
        obtain ⟨vs, rest, v, rfl, hn, hW, hrc, hcl, rfl⟩ := pj_inv_s h1
        by_cases q9 : inf.getD 0 0 = 9
        · rw [if_pos q9] at hok
          split at hok
          · cases hok
          · rename_i hh hj
            simp only [Bool.and_eq_true, decide_eq_true_eq] at hok
            obtain ⟨⟨⟨⟨⟨⟨⟨o0, o1⟩, o2⟩, o3⟩, o4⟩, o5⟩, o6⟩, o7⟩ := hok
            have e1 : inf.getD 2 0 = 1000 + (inf.getD 2 0 - 1000) := by omega
            rw [e1] at hcl
            obtain ⟨h9, hj9, hMet⟩ := hcallH _ _ _ _ _ _ _ hcl
            cases hj.symm.trans hj9
            exact pj_iH hC hex hMet o1 o2 o3 o4 o5 (by rw [hn]; exact o6) o7 hd hf hlo hc hs hW (kk ls hlv)
        · rw [if_neg q9] at hok
          have hlt : inf.getD 2 0 < 1000 := by
            split at hok
            · cases hok
            · rename_i M9 hM9
              exact Nat.lt_of_lt_of_le (List.getElem?_eq_some_iff.mp hM9).1 hPl
          obtain ⟨M, hM, hMet⟩ := hcall _ _ _ _ _ _ _ hlt hcl
          rw [hM] at hok
          simp only [Bool.and_eq_true, Bool.or_eq_true, decide_eq_true_eq] at hok
          obtain ⟨⟨⟨-, o2⟩, o3⟩, o6⟩ := hok
          exact pj_iS hC hex hMet (by rw [hn]; exact o2) o3 o6 hd hf hlo hc hs hW (kk ls hlv)
  case goto q =>
    simp only [pj_ok, Bool.and_eq_true, decide_eq_true_eq] at hok
    exact pj_s_b hx hb hlv hd hok.1 hok.2 h kk
  case ifCond q1 q2 =>
    simp only [pj_ok, Bool.and_eq_true, decide_eq_true_eq] at hok
    exact pj_s_b hx hb hlv hd hok.1 hok.2 h kk
  case if_icmp q1 q2 =>
    simp only [pj_ok, Bool.and_eq_true, decide_eq_true_eq] at hok
    exact pj_s_b hx hb hlv hd hok.1 hok.2 h kk
  case tableswitch q1 q2 q3 q4 =>
    exact pj_s_b hx hb hlv hd trivial rfl h kk
  case lookupswitch q1 q2 =>
    exact pj_s_b hx hb hlv hd trivial hok h kk
  case iload_n k =>
    exact pj_s_l hx hb hlv hd hok h kk
  case iload k =>
    exact pj_s_l hx hb hlv hd hok h kk
  case lload_n k =>
    exact pj_s_l hx hb hlv hd hok h kk
  case lload k =>
    exact pj_s_l hx hb hlv hd hok h kk
  case aload_n k =>
    exact pj_s_l hx hb hlv hd hok h kk
  case aload k =>
    exact pj_s_l hx hb hlv hd hok h kk
  case istore_n k =>
    exact pj_s_l hx hb hlv hd hok h kk
  case istore k =>
    exact pj_s_l hx hb hlv hd hok h kk
  case lstore_n k =>
    exact pj_s_l hx hb hlv hd hok h kk
  case lstore k =>
    exact pj_s_l hx hb hlv hd hok h kk
  case astore_n k =>
    exact pj_s_l hx hb hlv hd hok h kk
  case astore k =>
    exact pj_s_l hx hb hlv hd hok h kk
  case iinc k q =>
    exact pj_s_l hx hb hlv hd hok h kk
  all_goals exact pj_s_k hx hb hlv hd hok h kk
end PJS
