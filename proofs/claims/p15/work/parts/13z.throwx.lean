def pj_nse : String := "java/util/NoSuchElementException"
def pj_nms : List String := ["java/lang/RuntimeException", "java/lang/Exception"]
def pj_XC (b : Nat × (Nat → Nat)) (base : Nat) (cy : Nat → ClassId) (D : va_G) (G : pj_G) : String → State → State → Prop := fun E st t => E = pj_nse ∧ va_P D vwCl (pj_w (pj_ad b base) cy 0 G.1) t.heap ∧ va_F (fun q => base ≤ q) st t
section PJCT
variable {p : Program} {l : Launch} {e : Env} {R : Room} {s : State} {m : MethodId} {args : Array Value} {below : List Frame} {meth : Method} {c : Code} {W0 : State} {locs : List Loc} {cells slots : Nat}
set_option maxHeartbeats 4000000 in
/-- the constructor of an exception with a text, traces off, where its first link has an index of its own; then the throw -/
theorem pj_ctorX (X : Stand p l e R s m args below meth c W0 locs cells slots) (hexec : p.tables.exec = Jvm.exec) (htr : e.platform.stackTraces = false) {own cls : String} {names : List String} {ic ix : Nat} {rx : ByteArray}
    (x0 : decode rx 0 = .ok (.aload_n 0, 1)) (x1 : decode rx 1 = .ok (.aload_n 1, 1)) (x2 : decode rx 2 = .ok (.invokespecial ix, 3)) (x5 : decode rx 5 = .ok (.return_, 1))
    (hown : s.vm.findClass own = some m.cls) (hcls : Bundle.fit cls = true) (hnames : ∀ n ∈ names, Bundle.fit n = true)
    (h : ∀ w ∈ Bundle.ownAtomsX own ic cls ix rx names, w.before args s = true) (hlocs : locs = [])
    {a : Addr} {cX : ClassId} {kX : Class} (hfoundX : s.vm.findClass cls = some cX) (hkX : s.vm.classes[cX]? = some kX) (hcell : W0.heap[a]? = some (freshCell cX kX)) (hnew : s.heap.size ≤ a) {sa : Addr}
    {g : JFrame} (hg : g.method = m) (hsize : g.locals.size = c.maxLocals) (hlocked : g.locked = none) (hentered : g.entered = []) {rest : List Value} (hstack : g.stack = .ref sa :: .ref a :: .ref a :: rest)
    (hd6 : decode c.code g.pc = .ok (.invokespecial ic, 3)) (hd9 : decode c.code (g.pc + 3) = .ok (.athrow, 1)) (hout : ∀ x ∈ c.exceptionTable.toList, covers x (g.pc + 3) = false)
    (hRf : names.length + 3 < R.frames) (hRl : 2 * g.monitorRoom + ((Value.ref a :: rest).map fun v => v.category).sum + (13 * (names.length + 1) + 42) ≤ R.locals) (hlocks : meth.locks = false) :
    ∃ U : State, Steps p.tables e below (W0.setTop g) U ∧ U.status = .running ∧ Ended U below (.threw a) ∧ s.WarmedH U.vm ∧ s.sameButNew ({ U with vm := s.vm } : State) [] cells slots ∧ ∃ ce, U.heap[a]? = some ce ∧ s.vm.findClass cls = some ce.cls ∧ ce.vm = .none := by
  subst hlocs
  have q1 : e.platform.frameOwnsMonitors = true := by rw [X.admits.platform]
  have q2 : e.platform.finalization = false := by rw [X.admits.platform]
  have q3 : e.platform.magicAccessors = ({} : Platform).magicAccessors := by rw [X.admits.platform]
  have hw : ∀ x, x ∈ Bundle.ownAtomsX own ic cls ix rx names → x.holds args s none s [] = true := fun x hx => h x hx
  obtain ⟨T, Z0, L, -, Y⟩ := ThrowableC.of_atoms (args := args) q1 q2 q3 (fun x hx => h x (by simp [Bundle.ownAtomsX, hx]))
  obtain ⟨Z, M, LZ, LM, hnZ⟩ := Init0T.ofS_atoms (args := args) q3 L Y (fun x hx => h x (by simp [Bundle.ownAtomsX, hx]))
  obtain ⟨P1, Ps, hlen, L1, hL, hP1, k1, k2⟩ := Bundle.chainSX (args := args) q3 hnZ x0 x1 x2 x5 names cls hcls hnames (fun x hx => h x (by simp [Bundle.ownAtomsX, hx]))
  have hfd : s.vm.findClass cls = some P1.m.cls := findClass_of_methodNamed hP1
  cases Option.some.inj (hfoundX.symm.trans hfd)
  obtain ⟨c1, kX', hc1, hk, hord, -, -, hn6⟩ := Cond.instantiable_spec (hw (.instantiable cls 6) (by simp [Bundle.ownAtomsX]))
  cases Option.some.inj (hc1.symm.trans hfd)
  cases Option.some.inj (hkX.symm.trans hk)
  have hs0 : selectMethod e.platform s.vm P1.m.cls T.fill0 = .method T.fill0 := by
    obtain ⟨c2, r2, m2, g1, g2, g3, g4, -⟩ := Cond.selects_spec (hw (.selects cls Bundle.tFill0 Bundle.tFill0) (by simp [Bundle.ownAtomsX]))
    cases Option.some.inj (g1.symm.trans hfd)
    cases Option.some.inj (g2.symm.trans (State.methodFound?_of_named Y.fill0 (by decide)))
    cases Option.some.inj (g3.symm.trans Y.fill0)
    rw [Launch.admits_selectMethod X.admits]; exact g4
  have hsF : selectMethod e.platform s.vm P1.m.cls T.fill = .method T.fill := by
    obtain ⟨c2, r2, m2, g1, g2, g3, g4, -⟩ := Cond.selects_spec (hw (.selects cls Bundle.tFill Bundle.tFill) (by simp [Bundle.ownAtomsX]))
    cases Option.some.inj (g1.symm.trans hfd)
    cases Option.some.inj (g2.symm.trans (State.methodFound?_of_named Y.fill (by decide)))
    cases Option.some.inj (g3.symm.trans Y.fill)
    rw [Launch.admits_selectMethod X.admits]; exact g4
  obtain ⟨cS0, hcS0, hiss⟩ := Y.statics
  obtain ⟨u0, hu0⟩ := Cond.staticRefV Y.unassigned L.unassignedStatic L.statics hcS0 hiss (hw (.isRef (.static Bundle.tN "UNASSIGNED_STACK" Bundle.steD)) (by simp [Bundle.ownAtomsX]))
  obtain ⟨u1, hu1⟩ := Cond.staticRefV Y.sentinel L.sentinelStatic L.statics hcS0 hiss (hw (.isRef (.static Bundle.tN "SUPPRESSED_SENTINEL" Bundle.listD)) (by simp [Bundle.ownAtomsX]))
  obtain ⟨ciB, iB, fB, b1, b2, b3, b4, -, b5, b6, b7⟩ := Cond.ownField (t := .object "java/lang/Object") Y.found L.cls (by decide +kernel) (hw (.fieldLink Bundle.tN 198 Bundle.tN "backtrace" "Ljava/lang/Object;") (by simp [Bundle.ownAtomsX])) (hw (.lays Bundle.tN Bundle.tN "backtrace" "Ljava/lang/Object;") (by simp [Bundle.ownAtomsX])) e.platform q3
  obtain ⟨cS, hcS', heS, -, hkeep⟩ := X.same.2.2.2.2.2 T.aS cS0 hcS0
  have hcS : W0.heap[T.aS]? = some cS := hcS'
  have hkS : cS.vm ≠ .unknown := by
    rw [heS]
    intro hu
    rw [show cS0.vm = .unknown from hu] at hiss
    cases hiss
  have hneS : T.aS ≠ a := Nat.ne_of_lt (Nat.lt_of_lt_of_le (Array.getElem?_eq_some_iff.mp hcS0).1 hnew)
  obtain ⟨iM, hfM⟩ := Y.msg
  obtain ⟨tyC, dC, hdC, hnC⟩ := Cond.laysAt hfd hk Y.cause (hw (.lays cls Bundle.tN "cause" "Ljava/lang/Throwable;") (by simp [Bundle.ownAtomsX]))
  obtain ⟨tyS, dS, hdS, hnS⟩ := Cond.laysAt hfd hk Y.stack (hw (.lays cls Bundle.tN "stackTrace" Bundle.steD) (by simp [Bundle.ownAtomsX]))
  obtain ⟨tyP, dP, hdP, hnP⟩ := Cond.laysAt hfd hk Y.supp (hw (.lays cls Bundle.tN "suppressedExceptions" Bundle.listD) (by simp [Bundle.ownAtomsX]))
  obtain ⟨tyM, dM, hdM, hnM⟩ := Cond.laysAt hfd hk hfM (hw (.lays cls Bundle.tN "detailMessage" "Ljava/lang/String;") (by simp [Bundle.ownAtomsX]))
  obtain ⟨tyB, dB, hdB, hnB⟩ := Cond.laysAt hfd hk b7 (hw (.lays cls Bundle.tN "backtrace" "Ljava/lang/Object;") (by simp [Bundle.ownAtomsX]))
  have bC := Cond.laysApart hdB hdC hnB hnC (by rw [b5, Y.causeName]; decide)
  have bS := Cond.laysApart hdB hdS hnB hnS (by rw [b5, Y.stackName]; decide)
  have bP := Cond.laysApart hdB hdP hnB hnP (by rw [b5, Y.suppName]; decide)
  have hskip : SkipFacts T e.platform s (fun u => u) u0 ((preparedCellV T.toThrowableT (freshCell P1.m.cls kX) a u0 u1).withEntry W0.cur) := by
    refine ⟨{ ci198 := ciB, i198 := iB, fBack := fB }, ⟨b1, b2, b3, b4⟩, ?_, fun _ _ => rfl⟩
    have hz := fresh_default (c := P1.m.cls) tyB
    rw [b6] at hz
    simpa [preparedCellV, Cell.setSlot, Cell.withEntry, Array.getElem?_setIfInBounds, bC, bS, bP, bC.symm, bS.symm, bP.symm, defaultValue] using hz
  obtain ⟨tm, mC, cC, kC, vm1, hn1, -, -, -, -, -, -, -, hW1, st1⟩ := Steps.initColdS (tb := p.tables) (e := e) (below := below) (s := s) (U := W0) X.here hexec X.warmed q3 hown (t := Bundle.initS cls) rfl rfl (Bundle.fit_spec hcls).2
    (hw (.methodLink own ic (Bundle.initS cls)) (by simp [Bundle.ownAtomsX])) (h (.instanceMethod (Bundle.initS cls)) (by cases names <;> simp [Bundle.ownAtomsX, Bundle.chainSAtomsX, Bundle.passSAtoms])) (bytes := rx) (maxL := 2) (h (.code (Bundle.initS cls) rx 2 none) (by cases names <;> simp [Bundle.ownAtomsX, Bundle.chainSAtomsX, Bundle.passSAtoms]))
    (f := g) hg (a := a) (msg := .ref sa) (rest := .ref a :: rest) hstack hd6
  cases Option.some.inj (hn1.symm.trans hP1)
  have X1 := X.noted hW1
  obtain ⟨vm2, X2, st2⟩ := X1.ctorMessageOffV hexec (g := { g with stack := .ref a :: rest }) hg hsize T L Z LZ M LM (P1 :: Ps)
    (fun P hP => by rcases List.mem_cons.mp hP with rfl | hP; exact L1; exact hL P hP) ⟨k1, k2⟩ (u0 := u0) (sen := u1) (self := a) (show (Value.ref sa).isRef = true from rfl) (cell := freshCell P1.m.cls kX) (cellS := cS)
    hcell (fun _ => by simp) (by simp) rfl rfl hs0 hsF hcS hneS hkS (by rw [hkeep _ (List.not_mem_nil)]; exact hu0) (by rw [hkeep _ (List.not_mem_nil)]; exact hu1)
    (Takes.of_laid hk hord tyC (by rw [Y.causeType]; rfl)) (Takes.of_laid hk hord tyS (by rw [Y.stackType]; exact fits_refV_array _ u0)) (Takes.of_laid hk hord tyP (by rw [Y.suppType]; exact fits_refV_object _ u1))
    (Takes.of_laid hk hord tyM (by rw [Y.msgType]; exact fits_refV_object _ ⟨.ref sa, rfl⟩)) Y.objLocals hskip htr [] hd6
    (by simp only [List.length_cons, hlen]; omega) (by simp only [List.length_cons, hlen]; exact hRl)
  obtain ⟨hwalk, hrun, hend, hWU, hsame⟩ := X2.athrowLeaves hexec (g := { g with stack := .ref a :: rest, pc := g.pc + 3 }) hg hlocked hentered hout (a := a) (rest := rest) rfl hd9
  have hlt : a < ((W0.setVm vm1).setVm vm2).heap.size := (Array.getElem?_eq_some_iff.mp hcell).1
  have hU := heapAt_setCell_self (s := (W0.setVm vm1).setVm vm2) (plainBareV T.toThrowableT (freshCell P1.m.cls kX) a u0 u1 (.ref sa)) hlt
  refine ⟨_, st1 _ (fun acts => ?_), hrun, hend, hWU, hsame.weaken (fun y hy hlt' => ?_) (Nat.le_refl _) (Nat.le_refl _), _, hU, hfd, rfl⟩
  · rw [doInvoke_state]
    exact st2 _ hwalk
  · exfalso
    have hb : y.base = a := by
      simp only [List.nil_append, List.mem_cons, List.not_mem_nil, or_false] at hy
      rcases hy with rfl | rfl | rfl | rfl | rfl <;> rfl
    rw [hb] at hlt'
    exact Nat.not_lt.mpr hnew hlt'
end PJCT
def pj_atX (own : String) (ic : Nat) (X : String) (ix : Nat) (rx : ByteArray) (names : List String) : List Cond := (Bundle.ownAtomsX own ic X ix rx names).filter vx_no
section PJTX
variable {p : Program} {l : Launch} {e : Env} {R : Room} {s : State} {m : MethodId} {args : Array Value} {below : List Frame} {meth : Method} {c : Code} {H : Heap} {locs : List Loc} {cells slots : Nat} {ls : Array Slot} {rest : List Value} {Qc : Array Value → State → Outcome → State → Prop} {XC : String → State → State → Prop} {free : Nat → Prop}
set_option maxHeartbeats 4000000 in
/-- 'throw new E("text")', the text by a short or a wide index -/
theorem pj_throwX {cc : ByteArray} {pc q : Nat} (hexec : p.tables.exec = Jvm.exec) (hb : c.code = cc) (hl : l.stackTraces = false) {own cls text : String} {names : List String} {ik is ic ix mc ms sa : Nat} {rx : ByteArray} {A : Nat → Prop}
    (x0 : decode rx 0 = .ok (.aload_n 0, 1)) (x1 : decode rx 1 = .ok (.aload_n 1, 1)) (x2 : decode rx 2 = .ok (.invokespecial ix, 3)) (x5 : decode rx 5 = .ok (.return_, 1))
    (hown : s.vm.findClass own = some m.cls) (hcls : Bundle.fit cls = true) (hnames : ∀ n ∈ names, Bundle.fit n = true)
    (hk : (Cond.classLink own ik cls).before args s = true) (hini : (Cond.initialized cls).before args s = true) (hstr : vk_R own is text sa s) (hat : ∀ w ∈ pj_atX own ic cls ix rx names, w.before args s = true)
    (hgood : ∀ w ∈ Cond.classLink own ik cls :: Cond.initialized cls :: pj_atX own ic cls ix rx names, vx_ot w = true)
    (hU : vx_Zq Bundle.tN "UNASSIGNED_STACK" Bundle.steD A s s.heap) (hN : vx_Zq Bundle.tN "SUPPRESSED_SENTINEL" Bundle.listD A s s.heap) (hS : va_S A s.heap H locs) (hsize : ls.size = c.maxLocals)
    (d0 : decode cc pc = .ok (.new ik, 3)) (d3 : decode cc (pc + 3) = .ok (.dup, 1)) (d4 : (decode cc (pc + 4) = .ok (.ldc is, 2) ∧ q = pc + 6) ∨ (decode cc (pc + 4) = .ok (.ldc_w is, 3) ∧ q = pc + 7)) (d6 : decode cc q = .ok (.invokespecial ic, 3)) (d9 : decode cc (q + 3) = .ok (.athrow, 1))
    (hout : ∀ x ∈ c.exceptionTable.toList, covers x (q + 3) = false)
    (hRf : names.length + 3 < R.frames) (hRl : (rest.map fun v => v.category).sum + (13 * (names.length + 1) + 43) ≤ R.locals) (hRc : cells + 1 ≤ R.cells) (hRs : slots + 6 ≤ R.slots) (hlocks : meth.locks = false)
    (hx : ∀ t : State, s.vm.Alike t.vm → H.size ≤ t.heap.size → (∀ q : Nat, q < H.size → t.heap[q]? = H[q]?) → XC cls s t)
    (hf : ∀ z ∈ locs, free z.base) (hc : cells + 1 ≤ mc) (hs : slots + 6 ≤ ms) :
    W p l e R s m args below meth c H locs cells slots (vx_MQ below Qc XC args s mc ms free) (F0 m pc ls rest) := by
  intro T hT X
  have htr : e.platform.stackTraces = false := (show e.platform.stackTraces = l.stackTraces by rw [X.admits.platform]).trans hl
  have Y := vx_rebase X (R' := { frames := R.frames, locals := R.locals, cells := 1, slots := 6 }) (Nat.le_refl _) (Nat.le_refl _) hRc hRs
  obtain ⟨s2, hA⟩ : ∃ z, z = (T.setVm s.vm).setFrames (.invoking m args :: below) := ⟨_, rfl⟩
  rw [← hA] at Y
  have hvm : s2.vm = s.vm := by rw [hA]; rfl
  have hhp : s2.heap = H := by rw [hA]; exact hT
  have hW0 : s.WarmedH s2.vm := by rw [hvm]; exact State.WarmedH.refl s
  have g0 : ∀ w ∈ Cond.classLink own ik cls :: Cond.initialized cls :: pj_atX own ic cls ix rx names, w.before args s = true → w.before args s2 = true := fun w hw hb => vx_ot_at hW0 hvm.symm (hgood w hw) hb
  have hU2 : vx_Zq Bundle.tN "UNASSIGNED_STACK" Bundle.steD A s2 s2.heap := by rw [hhp]; exact vx_Zq.moved hW0.alike (hU.kept hS.2.1)
  have hN2 : vx_Zq Bundle.tN "SUPPRESSED_SENTINEL" Bundle.listD A s2 s2.heap := by rw [hhp]; exact vx_Zq.moved hW0.alike (hN.kept hS.2.1)
  have h : ∀ w ∈ Bundle.ownAtomsX own ic cls ix rx names, w.before args s2 = true := vx_own (fun w hw => g0 w (List.mem_cons_of_mem _ (List.mem_cons_of_mem _ hw)) (hat w hw)) (vx_isRefq hU2.1) (vx_isRefq hN2.1) hU2.2.word hN2.2.word
  have hown2 : s2.vm.findClass own = some m.cls := by rw [hvm]; exact hown
  obtain ⟨vm1, cX, kX, hfX, hkX, -, -, X1, st1⟩ := Y.newCold hexec (own := own) (C := cls) (index := ik) (n := 6) hown2 (g0 _ List.mem_cons_self hk) (h _ (by simp [Bundle.ownAtomsX])) (g0 _ (List.mem_cons_of_mem _ List.mem_cons_self) hini)
    (g := F0 m pc ls rest) rfl (by rw [hb]; exact d0) (Nat.le_refl _) (Nat.le_refl _)
  generalize hT1 : (T.setVm vm1).pushCell { cls := cX, slots := kX.instanceTypes.map defaultValue, vm := .none } = T1 at X1 st1
  have hcat : (Value.ref T.heap.size).category = 1 := rfl
  have hcA : T1.heap[T.heap.size]? = some (freshCell cX kX) := by rw [← hT1]; exact State.heap_pushCell_size _ _
  have d3' : decode c.code (pc + 3) = .ok (.dup, 1) := by rw [hb]; exact d3
  have hstr2 : vk_R own is text sa s2 := vk_R.warm hW0 hstr
  obtain ⟨U, hst, hrun, hend, hW, hsame, ce, hce, hcl0, hcv⟩ := pj_ctorX X1 hexec htr (own := own) (cls := cls) (names := names) (ic := ic) x0 x1 x2 x5 hown2 hcls hnames h rfl hfX hkX hcA (by rw [hhp, hT]; exact Nat.le_refl _) (sa := sa)
    (g := { method := m, pc := q, locals := ls, stack := .ref sa :: .ref T.heap.size :: .ref T.heap.size :: rest, locked := none }) rfl hsize rfl rfl (rest := rest) rfl
    (by rw [hb]; exact d6) (by rw [hb]; exact d9) hout hRf (by
      have e0 : (({ method := m, pc := q, locals := ls, stack := .ref sa :: .ref T.heap.size :: .ref T.heap.size :: rest, locked := none } : JFrame)).monitorRoom = 0 := rfl
      rw [e0]
      simp only [List.map_cons, List.sum_cons, hcat]
      omega) hlocks
  obtain ⟨f1, f2⟩ := vx_frame hsame
  rw [hhp] at f1 f2
  have hWs : s.WarmedH U.vm := State.WarmedH.trans hW0 hW
  have hcl : s.vm.findClass cls = some ce.cls := by rw [← hvm]; exact hcl0
  have hall : s.sameButNew ({ U with vm := s.vm } : State) locs mc ms := by
    subst hA
    obtain ⟨e1, e2⟩ := hsame
    rw [State.setFrames_setFrames] at e1
    have h2 : (T.setVm s.vm).sameButNew ({ U with vm := s.vm } : State) [] (0 + 1) (0 + 6) := ⟨e1, e2⟩
    have h3 := X.same.trans h2
    rw [List.append_nil] at h3
    exact h3.mono hc hs
  refine ⟨U, ?_, .threw T.heap.size, hrun, hend, Or.inr ⟨T.heap.size, rfl, cls, ce, locs, hx U hWs.alike f1 (fun q hq => f2 q hq (fun z hz => nomatch hz)), hce, hcv, hcl, hWs, hall, hf⟩⟩
  refine st1 _ ?_
  show Steps p.tables e below (T1.setTop { method := m, pc := pc + 3, locals := ls, stack := .ref T.heap.size :: rest, locked := none }) _
  jvm_step X1.here [X1.here.top, hexec, d3', Value.category]
  rcases d4 with ⟨d4, rfl⟩ | ⟨d4, rfl⟩
  · exact X1.ldcString hexec (own := own) (text := text) (index := is) (a := sa) hown2 hstr2.1 hstr2.2
      (g := { method := m, pc := pc + 4, locals := ls, stack := .ref T.heap.size :: .ref T.heap.size :: rest, locked := none }) rfl (by rw [hb]; exact d4) _ hst
  · exact X1.ldcStringW hexec (own := own) (text := text) (index := is) (a := sa) hown2 hstr2.1 hstr2.2
      (g := { method := m, pc := pc + 4, locals := ls, stack := .ref T.heap.size :: .ref T.heap.size :: rest, locked := none }) rfl (by rw [hb]; exact d4) _ hst
end PJTX
theorem pj_rx0 : decode prog_30_method_4_code 0 = .ok (.aload_n 0, 1) := by decide +kernel
theorem pj_rx1 : decode prog_30_method_4_code 1 = .ok (.aload_n 1, 1) := by decide +kernel
theorem pj_rx2 : decode prog_30_method_4_code 2 = .ok (.invokespecial 13, 3) := by decide +kernel
theorem pj_rx5 : decode prog_30_method_4_code 5 = .ok (.return_, 1) := by decide +kernel
set_option maxRecDepth 100000 in
theorem pj_atn1 : ∀ w ∈ pj_atX "BridgesAreLent" 149 pj_nse 13 prog_30_method_4_code pj_nms, w ∈ lw_tbl := by decide +kernel
set_option maxRecDepth 100000 in
theorem pj_atn2 : ∀ w ∈ Cond.classLink "BridgesAreLent" 145 pj_nse :: Cond.initialized pj_nse :: pj_atX "BridgesAreLent" 149 pj_nse 13 prog_30_method_4_code pj_nms, vx_ot w = true := by decide +kernel
set_option maxRecDepth 100000 in
theorem pj_atn3 : ∀ w ∈ pj_atX "BridgesAreLent" 149 pj_nse 13 prog_30_method_4_code pj_nms, pj_stb w = true := by decide +kernel
theorem pj_atw2 : Jvm.Cond.classLink "BridgesAreLent" 145 pj_nse ∈ pj_all ∧ Jvm.Cond.initialized pj_nse ∈ pj_all ∧ vx_ot (Jvm.Cond.classLink "BridgesAreLent" 145 pj_nse) = true ∧ vx_ot (Jvm.Cond.initialized pj_nse) = true := by decide +kernel
theorem pj_atn : ∀ w ∈ Cond.classLink "BridgesAreLent" 145 pj_nse :: Cond.initialized pj_nse :: pj_atX "BridgesAreLent" 149 pj_nse 13 prog_30_method_4_code pj_nms, w ∈ pj_all := by
  intro w hw
  rcases List.mem_cons.mp hw with rfl | hw
  · exact pj_atw2.1
  · rcases List.mem_cons.mp hw with rfl | hw
    · exact pj_atw2.2.1
    · exact List.mem_filter.mpr ⟨pj_atn1 w hw, pj_atn3 w hw⟩
theorem pj_fit1 : Bundle.fit pj_nse = true := by decide +kernel
theorem pj_fit2 : ∀ n ∈ pj_nms, Bundle.fit n = true := by decide +kernel
section PJTE
variable {p : Program} {l : Launch} {e : Env} {R : Room} {s : State} {m : MethodId} {args : Array Value} {below : List Frame} {meth : Method} {c : Code}
variable {b : Nat × (Nat → Nat)} {base : Nat} {cy : Nat → ClassId} {D : va_G} {n0 : Nat} {xs : Nat → Int32} {adV : Nat → Nat}
theorem pj_thrE {cc : ByteArray} {G : pj_G} {k tp q is : Nat} {tx : String} {ls : Array Slot} {H : Heap} {locs : List Loc} (hl : l.stackTraces = false) (hx : p.tables.exec = Jvm.exec) (hb : c.code = cc) (hts : ∀ w ∈ Cond.classLink "BridgesAreLent" 145 pj_nse :: Cond.initialized pj_nse :: pj_atX "BridgesAreLent" 149 pj_nse 13 prog_30_method_4_code pj_nms, w.before args s = true) (hown : s.vm.findClass "BridgesAreLent" = some m.cls) (hO : pj_O b base n0 xs adV s s.heap) (htab : ∀ x ∈ c.exceptionTable.toList, False) (hlocks : meth.locks = false) (hstr : pj_strs[k]? = some ("BridgesAreLent", is, tx))
    (hRf : 9 ≤ R.frames) (hRl : 128 ≤ R.locals) (hRc : 1 ≤ R.cells) (hRs : 6 ≤ R.slots) (hsize : ls.size = c.maxLocals)
    (d0 : decode cc tp = .ok (.new 145, 3)) (d3 : decode cc (tp + 3) = .ok (.dup, 1)) (d4 : (decode cc (tp + 4) = .ok (.ldc is, 2) ∧ q = tp + 6) ∨ (decode cc (tp + 4) = .ok (.ldc_w is, 3) ∧ q = tp + 7)) (d6 : decode cc q = .ok (.invokespecial 149, 3)) (d9 : decode cc (q + 3) = .ok (.athrow, 1))
    (hP1 : va_P D vwCl (pj_w (pj_ad b base) cy 0 G.1) H) (hS1 : va_S (fun q => base ≤ q) s.heap H locs) :
    W p l e R s m args below meth c H locs 0 0 (vx_MQ below (fun _ _ _ _ => False) (pj_XC b base cy D G) args s 1 6 (fun q => base ≤ q)) (F0 m tp ls []) := by
  refine pj_throwX hx hb hl pj_rx0 pj_rx1 pj_rx2 pj_rx5 hown pj_fit1 pj_fit2 (hts _ List.mem_cons_self) (hts _ (List.mem_cons_of_mem _ List.mem_cons_self)) (hO.2.1 k _ hstr).1 (fun w hw => hts w (List.mem_cons_of_mem _ (List.mem_cons_of_mem _ hw))) pj_atn2 hO.2.2.2.1 hO.2.2.2.2.1 hS1 hsize d0 d3 d4 d6 d9 (fun x hx => (htab x hx).elim) (show 5 < R.frames by omega) (show 0 + (13 * 3 + 43) ≤ R.locals by omega) (by omega) (by omega) hlocks ?_ (fun z hz => hS1.2.2 z hz) (Nat.le_refl _) (Nat.le_refl _)
  intro t _ h1 h2
  exact ⟨rfl, hP1.kept (fun k q hk => h2 _ (hP1 k q hk).lt), Nat.le_trans hS1.1 h1, fun q hq hn => (h2 q (Nat.lt_of_lt_of_le hq hS1.1)).trans (hS1.2.1 q hq hn)⟩
end PJTE
