/-! CALLS, BY THEIR KIND: 0 virtual, 1 virtual of a nest mate, 2 static, 3 static of a nest mate, 4 constructor, 5 constructor of a nest mate, 6 Object's, 7 arraycopy, 8 virtual of a String -/
theorem pj_cats (ad : pj_A) (r : List Value) : ((r.map (pj_v ad)).map fun v => v.category).sum = (r.map Value.category).sum := by
  rw [List.map_map]
  congr 1
  exact List.map_congr_left (fun v _ => pj_v_cat ad v)
section PJI
variable {p : Program} {l : Launch} {e : Env} {R : Room} {s : State} {m : MethodId} {args : Array Value} {below : List Frame} {meth : Method} {c : Code} {H : Heap} {locs : List Loc} {cells slots : Nat} {Q : State → Prop}
variable {cc : ByteArray} {pc nL : Nat} {ls : Array Slot} {b : Nat × (Nat → Nat)} {base : Nat} {cy : Nat → ClassId} {D : va_G} {G G' : pj_G} {S S' : List Value} {own : String} {dc ds d : Nat} {n0 : Nat} {xs : Nat → Int32} {adV : Nat → Nat}
def pj_lnk (pos : Nat) (own : String) (idx : Nat) (y : MethodName) : Bool := pj_wd pos (.methodLink own idx y)
def pj_lnkN (pos : Nat) (own : String) (idx : Nat) (y : MethodName) : Bool := pj_wd pos (.methodLinkNest own idx y pj_host)
/-- the fixed things of a walk -/
abbrev pj_Cx (p : Program) (s : State) (m : MethodId) (args : Array Value) (c : Code) (cc : ByteArray) (nL : Nat) (ls : Array Slot) (own : String) (b : Nat × (Nat → Nat)) (base : Nat) (cy : Nat → ClassId) (D : va_G) (n0 : Nat) (xs : Nat → Int32) (adV : Nat → Nat) : Prop :=
  (p.tables.exec = Jvm.exec ∧ c.code = cc ∧ c.maxLocals = nL ∧ s.vm.findClass own = some m.cls ∧ ∀ w ∈ pj_all, w.before args s = true) ∧ va_K D vwCl (pj_tys cy) s ∧ pj_O b base n0 xs adV s s.heap ∧ base ≤ s.heap.size ∧ ls.size = nL
theorem pj_iV {M : pj_M} {us rest : List Value} {v : Option Value} {a idx ci pl : Nat} {fs : List Value} {q : String × u_T × Nat × (Nat → FieldType)} (hC : pj_Cx p s m args c cc nL ls own b base cy D n0 xs adV) (hex : G.2 = true → s.heap.size + cells = base + G.1.length)
    (hM : pj_Met l b base cy D adV d M (.ref a :: us) G v G' dc ds) (hg : pj_get G a = some (.inr (ci, fs))) (hq : pj_cls[ci]? = some q) (hqn : q.1 = M.1.cls) (hokM : pj_okM M us.length = true) (hin : pj_wd (M.2.2.2.2.1.getD 2 0) (.instanceMethod M.1) = true) (hse : pj_wd (M.2.2.2.2.1.getD 3 0) (.selects M.1.cls M.1 M.1) = true)
    (hl : pj_lnk pl own idx M.1 = true ∨ pj_lnkN pl own idx M.1 = true) (hd : decode cc pc = .ok (.invokevirtual idx, 3)) (hf : d + 1 ≤ R.frames) (hlo : 64 * (d + 1) ≤ R.locals) (hc : cells + dc ≤ R.cells) (hs : slots + ds ≤ R.slots) (hW : (rest.map Value.category).sum ≤ 8)
    (kk : pj_N p l e R s m args below meth c Q b base cy D ls (cells + dc) (slots + ds) G' (pc + 3) (v.toList ++ rest)) : pj_N p l e R s m args below meth c Q b base cy D ls cells slots G pc ((Value.ref a :: us).reverse ++ rest) := by
  obtain ⟨hS0, hK, hO, hbs, hls⟩ := hC
  have hts := hS0.2.2.2.2
  intro H locs hP hS
  refine pj_exact (fun hz => ?_)
  have hstk : ((Value.ref a :: us).reverse ++ rest).map (pj_v (pj_ad b base)) = (us.map (pj_v (pj_ad b base))).reverse ++ Value.ref ((pj_ad b base).1 a) :: rest.map (pj_v (pj_ad b base)) := by simp [pj_v]
  rw [hstk]
  obtain ⟨i, -, hi⟩ := pj_at (b := b) (base := base) (cy := cy) hg
  have hrc := va_recv hK hP (pj_cls_1 hq) hi
  rw [show (q.1, q.2.1, q.2.2.1).1 = M.1.cls from hqn] at hrc
  obtain ⟨⟨k1, k2, k3, k4, k5, k6⟩, k7, k8, k9, k10⟩ := pj_okM_s (R := R) (d := d) (dc := dc) (ds := ds) hokM hts hf hlo
  have hpre := pj_pre (vs := .ref a :: us) hK hO hbs hP hS hz hex
  rcases hl with hl | hl
  · exact pj_after (va_runV (As := us.map (pj_v (pj_ad b base))) (rest := rest.map (pj_v (pj_ad b base))) hS0 hM ⟨⟨k1, k2, k3, k4, k5, k6, k7, k8, k9, k10, hts _ (pj_wd_in hl)⟩, hts _ (pj_wd_in hin), hts _ (pj_wd_in hse)⟩ ⟨pj_P_blind, hrc, hpre⟩ rfl (by rw [List.length_map]) hls rfl (lv_room (by rw [pj_cats]; exact hW)) hd ⟨hc, hs⟩) hS kk
  · exact pj_after (va_runVN (As := us.map (pj_v (pj_ad b base))) (rest := rest.map (pj_v (pj_ad b base))) hS0 hM ⟨⟨⟨k1, k2, k3, k4, k5, k6⟩, k7, k8, k9, k10, hts _ (pj_wd_in hl)⟩, hts _ (pj_wd_in hin), hts _ (pj_wd_in hse)⟩ ⟨pj_P_blind, hrc, hpre⟩ rfl (by rw [List.length_map]) hls rfl (lv_room (by rw [pj_cats]; exact hW)) hd ⟨hc, hs⟩) hS kk
theorem pj_iT {M : pj_M} {us rest : List Value} {v : Option Value} {k idx pl : Nat} {q : String × Nat × String} (hC : pj_Cx p s m args c cc nL ls own b base cy D n0 xs adV) (hex : G.2 = true → s.heap.size + cells = base + G.1.length)
    (hM : pj_Met l b base cy D adV d M (.retAddr k :: us) G v G' dc ds) (hg : pj_strs[k]? = some q) (hqn : "java/lang/String" = M.1.cls) (hokM : pj_okM M us.length = true) (hin : pj_wd (M.2.2.2.2.1.getD 2 0) (.instanceMethod M.1) = true) (hse : pj_wd (M.2.2.2.2.1.getD 3 0) (.selects M.1.cls M.1 M.1) = true)
    (hl : pj_lnk pl own idx M.1 = true) (hd : decode cc pc = .ok (.invokevirtual idx, 3)) (hf : d + 1 ≤ R.frames) (hlo : 64 * (d + 1) ≤ R.locals) (hc : cells + dc ≤ R.cells) (hs : slots + ds ≤ R.slots) (hW : (rest.map Value.category).sum ≤ 8)
    (kk : pj_N p l e R s m args below meth c Q b base cy D ls (cells + dc) (slots + ds) G' (pc + 3) (v.toList ++ rest)) : pj_N p l e R s m args below meth c Q b base cy D ls cells slots G pc ((Value.retAddr k :: us).reverse ++ rest) := by
  obtain ⟨hS0, hK, hO, hbs, hls⟩ := hC
  have hts := hS0.2.2.2.2
  intro H locs hP hS
  refine pj_exact (fun hz => ?_)
  have hstk : ((Value.retAddr k :: us).reverse ++ rest).map (pj_v (pj_ad b base)) = (us.map (pj_v (pj_ad b base))).reverse ++ Value.ref ((pj_ad b base).2 k) :: rest.map (pj_v (pj_ad b base)) := by simp [pj_v]
  rw [hstk]
  have hrc : ∃ cell : Cell, H[b.2 k]? = some cell ∧ cell.vm.isStatics = false ∧ s.vm.findClass "java/lang/String" = some cell.cls := by
    obtain ⟨cell, h1, h2, h3, -⟩ := (hO.2.1 k q hg).2.1.kept (H1 := H) hS.2.1
    exact ⟨cell, h1, h2, h3⟩
  rw [hqn] at hrc
  obtain ⟨⟨k1, k2, k3, k4, k5, k6⟩, k7, k8, k9, k10⟩ := pj_okM_s (R := R) (d := d) (dc := dc) (ds := ds) hokM hts hf hlo
  have hpre := pj_pre (vs := .retAddr k :: us) hK hO hbs hP hS hz hex
  exact pj_after (va_runV (As := us.map (pj_v (pj_ad b base))) (rest := rest.map (pj_v (pj_ad b base))) hS0 hM ⟨⟨k1, k2, k3, k4, k5, k6, k7, k8, k9, k10, hts _ (pj_wd_in hl)⟩, hts _ (pj_wd_in hin), hts _ (pj_wd_in hse)⟩ ⟨pj_P_blind, hrc, hpre⟩ rfl (by rw [List.length_map]) hls rfl (lv_room (by rw [pj_cats]; exact hW)) hd ⟨hc, hs⟩) hS kk
theorem pj_iS {M : pj_M} {vs rest : List Value} {v : Option Value} {idx pl : Nat} (hC : pj_Cx p s m args c cc nL ls own b base cy D n0 xs adV) (hex : G.2 = true → s.heap.size + cells = base + G.1.length)
    (hM : pj_Met l b base cy D adV d M vs G v G' dc ds) (hokM : pj_okM M vs.length = true) (hst : pj_wd (M.2.2.2.2.1.getD 2 0) (.static M.1) = true)
    (hl : pj_lnk pl own idx M.1 = true ∨ pj_lnkN pl own idx M.1 = true) (hd : decode cc pc = .ok (.invokestatic idx, 3)) (hf : d + 1 ≤ R.frames) (hlo : 64 * (d + 1) ≤ R.locals) (hc : cells + dc ≤ R.cells) (hs : slots + ds ≤ R.slots) (hW : (rest.map Value.category).sum ≤ 8)
    (kk : pj_N p l e R s m args below meth c Q b base cy D ls (cells + dc) (slots + ds) G' (pc + 3) (v.toList ++ rest)) : pj_N p l e R s m args below meth c Q b base cy D ls cells slots G pc (vs.reverse ++ rest) := by
  obtain ⟨hS0, hK, hO, hbs, hls⟩ := hC
  have hts := hS0.2.2.2.2
  intro H locs hP hS
  refine pj_exact (fun hz => ?_)
  have hstk : (vs.reverse ++ rest).map (pj_v (pj_ad b base)) = (vs.map (pj_v (pj_ad b base))).reverse ++ rest.map (pj_v (pj_ad b base)) := by simp
  rw [hstk]
  obtain ⟨⟨k1, k2, k3, k4, k5, k6⟩, k7, k8, k9, k10⟩ := pj_okM_s (R := R) (d := d) (dc := dc) (ds := ds) hokM hts hf hlo
  have hpre := pj_pre (vs := vs) hK hO hbs hP hS hz hex
  rcases hl with hl | hl
  · exact pj_after (va_runS (As := vs.map (pj_v (pj_ad b base))) (rest := rest.map (pj_v (pj_ad b base))) hS0 hM ⟨⟨k1, k2, k3, k4, k5, k6, k7, k8, k9, k10, hts _ (pj_wd_in hl)⟩, hts _ (pj_wd_in hst)⟩ ⟨pj_P_blind, hpre⟩ rfl (by rw [List.length_map]) hls rfl (lv_room (by rw [pj_cats]; exact hW)) hd ⟨hc, hs⟩) hS kk
  · exact pj_after (va_runSN (As := vs.map (pj_v (pj_ad b base))) (rest := rest.map (pj_v (pj_ad b base))) hS0 hM ⟨⟨⟨k1, k2, k3, k4, k5, k6⟩, k7, k8, k9, k10, hts _ (pj_wd_in hl)⟩, hts _ (pj_wd_in hst), trivial⟩ ⟨pj_P_blind, hpre⟩ rfl (by rw [List.length_map]) hls rfl (lv_room (by rw [pj_cats]; exact hW)) hd ⟨hc, hs⟩) hS kk
theorem pj_iI {M : pj_M} {us rest : List Value} {v : Option Value} {a idx pl : Nat} (hC : pj_Cx p s m args c cc nL ls own b base cy D n0 xs adV) (hex : G.2 = true → s.heap.size + cells = base + G.1.length)
    (hM : pj_Met l b base cy D adV d M (.ref a :: us) G v G' dc ds) (hret : M.2.2.2.1 = none) (hokM : pj_okM M us.length = true) (hin : pj_wd (M.2.2.2.2.1.getD 2 0) (.instanceMethod M.1) = true) (hnm : M.1.name = "<init>")
    (hl : pj_lnk pl own idx M.1 = true ∨ pj_lnkN pl own idx M.1 = true) (hd : decode cc pc = .ok (.invokespecial idx, 3)) (hf : d + 1 ≤ R.frames) (hlo : 64 * (d + 1) ≤ R.locals) (hc : cells + dc ≤ R.cells) (hs : slots + ds ≤ R.slots) (hW : (rest.map Value.category).sum ≤ 8)
    (kk : pj_N p l e R s m args below meth c Q b base cy D ls (cells + dc) (slots + ds) G' (pc + 3) (v.toList ++ rest)) : pj_N p l e R s m args below meth c Q b base cy D ls cells slots G pc ((Value.ref a :: us).reverse ++ rest) := by
  obtain ⟨hS0, hK, hO, hbs, hls⟩ := hC
  have hts := hS0.2.2.2.2
  intro H locs hP hS
  refine pj_exact (fun hz => ?_)
  have hstk : ((Value.ref a :: us).reverse ++ rest).map (pj_v (pj_ad b base)) = (us.map (pj_v (pj_ad b base))).reverse ++ Value.ref ((pj_ad b base).1 a) :: rest.map (pj_v (pj_ad b base)) := by simp [pj_v]
  rw [hstk]
  obtain ⟨⟨k1, k2, k3, k4, k5, k6⟩, k7, k8, k9, k10⟩ := pj_okM_s (R := R) (d := d) (dc := dc) (ds := ds) hokM hts hf hlo
  have hpre := pj_pre (vs := .ref a :: us) hK hO hbs hP hS hz hex
  have hM' : Met l M.1 (pj_ws M.1 M.2.1 M.2.2.1 none) (pj_rm d dc ds) (pj_P b base cy D adV (.ref a :: us) G) (pj_Q b base cy D v G') dc ds (fun q => base ≤ q) := by
    have h := hM
    unfold pj_Met at h
    rw [hret] at h
    exact h
  rw [hret] at k5 k6 k7
  rcases hl with hl | hl
  · exact pj_after (va_runI (As := us.map (pj_v (pj_ad b base))) (rest := rest.map (pj_v (pj_ad b base))) hS0 hM' ⟨⟨k1, k2, k3, k4, k5, k6, k7, k8, k9, k10, hts _ (pj_wd_in hl)⟩, hnm, hts _ (pj_wd_in hin)⟩ ⟨pj_P_blind, hpre⟩ rfl (by rw [List.length_map]) hls rfl (lv_room (by rw [pj_cats]; exact hW)) hd ⟨hc, hs⟩) hS kk
  · exact pj_after (va_runIN (As := us.map (pj_v (pj_ad b base))) (rest := rest.map (pj_v (pj_ad b base))) hS0 hM' ⟨⟨⟨k1, k2, k3, k4, k5, k6⟩, k7, k8, k9, k10, hts _ (pj_wd_in hl)⟩, hnm, hts _ (pj_wd_in hin)⟩ ⟨pj_P_blind, hpre⟩ rfl (by rw [List.length_map]) hls rfl (lv_room (by rw [pj_cats]; exact hW)) hd ⟨hc, hs⟩) hS kk
theorem pj_iO {rest : List Value} {a idx pl p1 p2 : Nat} (hC : pj_Cx p s m args c cc nL ls own b base cy D n0 xs adV) (hl : pj_lnk pl own idx Lib.objectInit = true) (hin : pj_wd p1 (.instanceMethod Lib.objectInit) = true) (hco : pj_wd p2 (.code Lib.objectInit ⟨#[0xb1]⟩ 1 none) = true) (hd : decode cc pc = .ok (.invokespecial idx, 3)) (hf : 1 ≤ R.frames) (hlo : 64 ≤ R.locals) (hW : (rest.map Value.category).sum ≤ 8)
    (kk : pj_N p l e R s m args below meth c Q b base cy D ls cells slots G (pc + 3) rest) : pj_N p l e R s m args below meth c Q b base cy D ls cells slots G pc (.ref a :: rest) := by
  obtain ⟨⟨hx, hb, hml, hown, hts⟩, hK, hO, hbs, hls⟩ := hC
  intro H locs hP hS
  refine W.objInit hx hb hown (hts _ (pj_wd_in hl)) (hts _ (pj_wd_in hin)) (hts _ (pj_wd_in hco)) rfl (by rw [hml]; exact hls) rfl hd hf ?_ (kk H locs hP hS)
  have h1 : 2 * (F0 m pc ls (rest.map (pj_v (pj_ad b base)))).monitorRoom + ((rest.map (pj_v (pj_ad b base))).map fun v => v.category).sum ≤ 8 := lv_room (by rw [pj_cats]; exact hW)
  have h2 : 2 * (F0 m pc ls ((Value.ref a :: rest).map (pj_v (pj_ad b base)))).monitorRoom + ((rest.map (pj_v (pj_ad b base))).map fun v => v.category).sum ≤ 8 := h1
  omega
/-- arraycopy of ints -/
def pj_cp (G : pj_G) : List Value → Option (pj_G × List Value)
  | .int n :: .int dp :: .ref a1 :: .int sp :: .ref a0 :: r => (match pj_get G a0, pj_get G a1 with
    | some (.inl (k0, n0, .inl f)), some (.inl (k1, n1, .inl g)) => if k0 = 0 ∧ k1 = 0 ∧ ¬ sp < 0 ∧ ¬ dp < 0 ∧ ¬ n < 0 ∧ sp.toNatClampNeg + n.toNatClampNeg ≤ n0 ∧ dp.toNatClampNeg + n.toNatClampNeg ≤ n1 ∧ (r.map Value.category).sum ≤ 8 then some (pj_put G a1 (.inl (0, n1, .inl (va_cpy f g sp.toNatClampNeg dp.toNatClampNeg n.toNatClampNeg))), r) else none
    | _, _ => none)
  | _ => none
theorem pj_iA {idx pl p1 p2 p3 : Nat} (hC : pj_Cx p s m args c cc nL ls own b base cy D n0 xs adV) (hl : pj_lnk pl own idx arraycopyName = true) (h1 : pj_wd p1 (.native arraycopyName) = true) (h2 : pj_wd p2 (.static arraycopyName) = true) (h3 : pj_wd p3 (.initialized "java/lang/System") = true) (hd : decode cc pc = .ok (.invokestatic idx, 3)) (hf : 1 ≤ R.frames) (hlo : 64 ≤ R.locals) (h : pj_cp G S = some (G', S'))
    (kk : pj_N p l e R s m args below meth c Q b base cy D ls cells slots G' (pc + 3) S') : pj_N p l e R s m args below meth c Q b base cy D ls cells slots G pc S := by
  obtain ⟨⟨hx, hb, hml, hown, hts⟩, hK, hO, hbs, hls⟩ := hC
  intro H locs hP hS
  unfold pj_cp at h
  split at h
  · split at h
    · split at h
      · rename_i g0 g1 hg
        obtain ⟨rfl, rfl, q1, q2, q3, q4, q5, q6⟩ := hg
        cases h
        obtain ⟨i0, rfl, hi0⟩ := pj_at (b := b) (base := base) (cy := cy) g0
        obtain ⟨i1, rfl, hi1⟩ := pj_at (b := b) (base := base) (cy := cy) g1
        refine va_copyi (ty := .int) hx hb (hml.trans hls.symm) hown (hts _ (pj_wd_in hl)) (hts _ (pj_wd_in h1)) (hts _ (pj_wd_in h2)) (hts _ (pj_wd_in h3)) hK hP (pj_D b base cy G.1) hS i0 i1 0 0 hi0 hi1 rfl rfl rfl q1 q2 q3 q4 q5 (fun _ _ => rfl) hf ?_ hd (fun H1 locs1 hP1 _ hS1 => kk H1 locs1 (pj_set (b := b) (base := base) (cy := cy) (G := G) (i := i1) _ ▸ hP1) hS1)
        rw [pj_cats]
        have e1 : nativeFrameWords "java/lang/System" "arraycopy" 5 = 7 := by decide +kernel
        rw [e1]
        omega
      · cases h
    · cases h
  · cases h
end PJI
