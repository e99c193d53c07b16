/-! CONTRACTS OF THE PURE MACHINE'S METHODS, CALLS -/
def pj_P (b : Nat × (Nat → Nat)) (base : Nat) (cy : Nat → ClassId) (D : va_G) (adV : Nat → Nat) (vs : List Value) (G : pj_G) : Array Value → State → Prop := fun a U =>
  a = (vs.map (pj_v (pj_ad b base))).toArray ∧ va_P D vwCl (pj_w (pj_ad b base) cy 0 G.1) U.heap ∧ va_K D vwCl (pj_tys cy) U ∧ (base ≤ U.heap.size ∧ (G.2 = true → U.heap.size = base + G.1.length)) ∧ pj_O b base 0 pj_x0 adV U U.heap
def pj_Q (b : Nat × (Nat → Nat)) (base : Nat) (cy : Nat → ClassId) (D : va_G) (v : Option Value) (G : pj_G) : Array Value → State → Outcome → State → Prop := fun _ st oc t =>
  oc = .returned (v.map (pj_v (pj_ad b base))) ∧ va_P D vwCl (pj_w (pj_ad b base) cy 0 G.1) t.heap ∧ va_F (fun q => base ≤ q) st t
theorem pj_P_blind {b : Nat × (Nat → Nat)} {base : Nat} {cy : Nat → ClassId} {D : va_G} {adV : Nat → Nat} {vs : List Value} {G : pj_G} : FrameBlind (pj_P b base cy D adV vs G) := by
  intro a U g mk h
  obtain ⟨h1, h2, h3, h4, h5⟩ := h
  exact ⟨h1, h2, va_K.moved (u := U) (U := U.calling g mk a) (Vm.Alike.refl U.vm) h3, h4, pj_O_moved (s := U) (U := U.calling g mk a) (State.WarmedH.refl U) h5⟩
section PJC
variable {p : Program} {l : Launch} {e : Env} {R : Room} {s : State} {m : MethodId} {args : Array Value} {below : List Frame} {meth : Method} {c : Code} {H : Heap} {locs : List Loc} {cells slots : Nat} {Q : State → Prop}
variable {cc : ByteArray} {pc : Nat} {ls : Array Slot} {b : Nat × (Nat → Nat)} {base : Nat} {cy : Nat → ClassId} {D : va_G} {G G' : pj_G} {S S' : List Value} {own : String} {dc ds : Nat}
/-- a world holds at least its cells -/
theorem pj_low {σ : List pj_C} (hP : va_P D vwCl (pj_w (pj_ad b base) cy 0 σ) H) (hz : base ≤ H.size) : base + σ.length ≤ H.size := by
  cases hσ : σ.length with
  | zero => omega
  | succ n =>
    have hi : n < σ.length := by omega
    have h1 : (pj_w (pj_ad b base) cy 0 σ)[n]? = some ((pj_ad b base).1 (0 + n + 1), pj_e (pj_ad b base) cy σ[n]) := by
      rw [pj_w_get, List.getElem?_eq_getElem hi]
      rfl
    have h2 : base + (0 + n) < H.size := (hP _ _ h1).lt
    omega
/-- behind a call -/
theorem pj_after {rest : List Value} {a : Array Value} {v : Option Value} {st0 : List Value} (hr : va_Run p l e R s m args below meth c H locs cells slots dc ds (F0 m pc ls st0) (rest.map (pj_v (pj_ad b base))) (pj_Q b base cy D v G' a) (fun q => base ≤ q)) (hS : va_S (fun q => base ≤ q) s.heap H locs)
    (kk : pj_N p l e R s m args below meth c Q b base cy D ls (cells + dc) (slots + ds) G' (pc + 3) (v.toList ++ rest)) : W p l e R s m args below meth c H locs cells slots Q (F0 m pc ls st0) := by
  intro T hT X
  obtain ⟨v', st₀, t, T', L, h0, X', hL, e1, e2, ⟨hv, hp, hz, hk⟩, st⟩ := hr T hT X
  have hv' : v' = v.map (pj_v (pj_ad b base)) := Outcome.returned.inj hv
  subst hv'
  rw [h0] at hz hk
  have hS' : va_S (fun q => base ≤ q) s.heap T'.heap (locs ++ L) := ⟨Nat.le_trans hS.1 (by rw [e1]; exact hz), fun q h1 h2 => by rw [e1, hk q (Nat.lt_of_lt_of_le h1 hS.1) h2]; exact hS.2.1 q h1 h2, fun q hq => by
      rcases List.mem_append.mp hq with h | h
      · exact hS.2.2 q h
      · exact hL q h⟩
  have k1 := kk T'.heap (locs ++ L) (by rw [e1]; exact hp) hS'
  have e3 : (v.toList ++ rest).map (pj_v (pj_ad b base)) = (v.map (pj_v (pj_ad b base))).toList ++ rest.map (pj_v (pj_ad b base)) := by cases v <;> simp
  rw [e3] at k1
  obtain ⟨t2, a1, b1⟩ := k1 T' rfl X'
  exact ⟨t2, st t2 a1, b1⟩
/-- what holds ahead of a call -/
theorem pj_pre {n0 : Nat} {xs : Nat → Int32} {adV : Nat → Nat} {vs : List Value} (hK : va_K D vwCl (pj_tys cy) s) (hO : pj_O b base n0 xs adV s s.heap) (hbs : base ≤ s.heap.size) (hP : va_P D vwCl (pj_w (pj_ad b base) cy 0 G.1) H) (hS : va_S (fun q => base ≤ q) s.heap H locs) (hz : H.size ≤ s.heap.size + cells) (hex : G.2 = true → s.heap.size + cells = base + G.1.length) :
    ∀ U : State, U.heap = H → s.WarmedH U.vm → pj_P b base cy D adV vs G (vs.map (pj_v (pj_ad b base))).toArray U := by
  intro U hU hW
  have hz2 : base ≤ H.size := Nat.le_trans hbs hS.1
  refine ⟨rfl, by rw [hU]; exact hP, va_K.moved hW.alike hK, ⟨by rw [hU]; exact hz2, fun h => ?_⟩, ?_⟩
  · have h1 := hex h
    have h2 := pj_low hP hz2
    rw [hU]
    omega
  · rw [hU]
    exact pj_O_moved hW (pj_O_kept (pj_O_0 hO) hbs (fun a h1 h2 => hS.2.1 a h1 h2))
/-- the words of a callee, all of them steady -/
def pj_ws (y : MethodName) (bytes : ByteArray) (maxL : Nat) (ret : Option FieldType) : List Jvm.Cond := Jvm.Cond.code y bytes maxL ret :: pj_all
theorem pj_warm {y : MethodName} {bytes : ByteArray} {maxL : Nat} {ret : Option FieldType} (hts : ∀ w ∈ pj_all, w.before args s = true) (hc : Jvm.Cond.code y bytes maxL ret ∈ pj_all) : ∀ w ∈ pj_ws y bytes maxL ret, ∀ (a' : Array Value) (U : State), s.WarmedH U.vm → w.before a' U = true := by
  intro w hw a' U hW
  have h1 : w ∈ pj_all := by
    rcases List.mem_cons.mp hw with rfl | h
    · exact hc
    · exact h
  exact pj_stb_warm (List.mem_filter.mp h1).2 hW (hts w h1)
def pj_rm (d dc ds : Nat) : Room := { frames := d, cells := dc, slots := ds, locals := 64 * d }
/-- method tables: name, code, locals, answer; places of its words: code, initialized, instanceMethod or static, selects; instructions -/
abbrev pj_I : Type := Nat × Instr × Nat × List Nat × Int
abbrev pj_M : Type := MethodName × ByteArray × Nat × Option FieldType × List Nat × List pj_I
/-- the contract of a method at a depth -/
abbrev pj_Met (l : Launch) (b : Nat × (Nat → Nat)) (base : Nat) (cy : Nat → ClassId) (D : va_G) (adV : Nat → Nat) (d : Nat) (M : pj_M) (vs : List Value) (G : pj_G) (v : Option Value) (G' : pj_G) (dc ds : Nat) : Prop :=
  Met l M.1 (pj_ws M.1 M.2.1 M.2.2.1 M.2.2.2.1) (pj_rm d dc ds) (pj_P b base cy D adV vs G) (pj_Q b base cy D v G') dc ds (fun q => base ≤ q)
/-- what a method's row must hold, however it is called -/
def pj_okM (M : pj_M) (n : Nat) : Bool := pj_wd (M.2.2.2.2.1.getD 0 0) (.code M.1 M.2.1 M.2.2.1 M.2.2.2.1) && pj_wd (M.2.2.2.2.1.getD 1 0) (.initialized M.1.cls) && (decide (M.1.cls ≠ "java/lang/invoke/MethodHandle") && decide (M.1.cls ≠ "java/lang/invoke/VarHandle")) && decide ((parseMethodDescriptor M.1.desc).map (fun d => d.parameters.length) = some n) && decide (M.2.2.1 ≤ 45)
theorem pj_okM_s {M : pj_M} {n d dc ds : Nat} (h : pj_okM M n = true) (hts : ∀ w ∈ pj_all, w.before args s = true) (hf : d + 1 ≤ R.frames) (hl : 64 * (d + 1) ≤ R.locals) :
    ((pj_rm d dc ds).cells = dc ∧ (pj_rm d dc ds).slots = ds ∧ (pj_rm d dc ds).frames + 1 ≤ R.frames ∧ 8 + (M.2.2.1 + 11) + (pj_rm d dc ds).locals ≤ R.locals ∧ (∀ w ∈ pj_ws M.1 M.2.1 M.2.2.1 M.2.2.2.1, ∀ (a' : Array Value) (U : State), s.WarmedH U.vm → w.before a' U = true) ∧ Jvm.Cond.code M.1 M.2.1 M.2.2.1 M.2.2.2.1 ∈ pj_ws M.1 M.2.1 M.2.2.1 M.2.2.2.1) ∧ (Jvm.Cond.code M.1 M.2.1 M.2.2.1 M.2.2.2.1).before args s = true ∧ (Jvm.Cond.initialized M.1.cls).before args s = true ∧ (M.1.cls ≠ "java/lang/invoke/MethodHandle" ∧ M.1.cls ≠ "java/lang/invoke/VarHandle") ∧ (∀ sig, parseMethodDescriptor M.1.desc = some sig → n = sig.parameters.length) := by
  simp only [pj_okM, Bool.and_eq_true, decide_eq_true_eq] at h
  obtain ⟨⟨⟨⟨w1, w2⟩, h3⟩, h4⟩, h5⟩ := h
  refine ⟨⟨rfl, rfl, hf, ?_, pj_warm hts (pj_wd_in w1), List.mem_cons_self⟩, hts _ (pj_wd_in w1), hts _ (pj_wd_in w2), h3, fun sig hs => ?_⟩
  · show 8 + (M.2.2.1 + 11) + 64 * d ≤ R.locals
    omega
  · rw [hs] at h4
    exact (Option.some.inj h4).symm
end PJC
