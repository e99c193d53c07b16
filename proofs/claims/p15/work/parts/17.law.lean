/-! THE CLAIM OUT OF ONE WALK OF THE LAW'S BODY. Your part is whole_start (and what it stands on); all else here is the same for every law, but numbers. -/
def R_law : String := "BridgesAreLentLaw"
def lw_P (b : Addr) (xs : List Int32) (args : Array Value) (s : State) : Prop := args = #[.ref b] ∧ s.IntsAt b xs ∧ xs.length ≤ 2560 ∧ (Jvm.Cond.and given_1 narrow_1).before args s = true
def lw_Q (_ : Array Value) (s : State) (o : Outcome) (t : State) : Prop := o = .returned (some (.int 1)) ∧ Framed s o t [] 601024 7293034
def lw_Z (below : List Frame) (a : Array Value) (s : State) : State → Prop := fun t => ∃ o, t.status = .running ∧ Ended t below o ∧ lw_Q a s o t
/-- the law's own end, with 1 on the stack, nothing written that was there before, its room as the claim has it -/
theorem lw_ret {p : Program} {l : Launch} {e : Env} {s : State} {m : MethodId} {below : List Frame} {meth : Method} {c : Code} {b : Nat} (hx : p.tables.exec = Jvm.exec) (hb : c.code = code) (hr : meth.sig.returnType = ret) (hlocks : meth.locks = false) {pc : Nat} {H : Heap} {ls : Array Slot} (hdg : decode code pc = .ok (.ireturn, 1)) : W p l e room_1 s m #[Value.ref b] below meth c H [] 601024 7293034 (lw_Z below #[Value.ref b] s) (F0 m pc ls [.int 1]) := by
  intro T hT X
  obtain ⟨fs, hret, hrun, hended, hW, hframe⟩ := X.leave (v := some (.int 1)) (hlocks := hlocks) (fun h => by rw [hr] at h; cases h)
  have hmeth' : T.vm.method? m = some meth := X.method'
  refine ⟨T.setFrames fs, ?_, .returned (some (.int 1)), hrun, hended, rfl, ⟨_, rfl⟩, hW, hframe⟩
  jvm_step X.here [X.here.top, hx, hb, hdg, hmeth', hr, ret, narrow_b1]
  (try refine ⟨rfl, ?_⟩); (try refine ⟨rfl, ?_⟩)
  first | (intro acts; rw [hret _ acts rfl rfl rfl]) | rw [hret _ _ rfl rfl rfl]
  exact Steps.refl _
/-- what holds at the law's entry: the machine, the code, the tables' words (any of lw_tbl by 'hts w (by decide +kernel)'), the script of L ints xs at the cell b, what the Statement gives of the start (any of its parts by flat_of_before) -/
def lw_At (p : Program) (s : State) (m : MethodId) (meth : Method) (c : Code) (b L : Nat) (xs : Nat → Int32) : Prop :=
  p.tables.exec = Jvm.exec ∧ c.code = code ∧ meth.sig.returnType = ret ∧ c.maxLocals = 8 ∧ s.vm.findClass R_law = some m.cls ∧ (∀ w ∈ lw_tbl, w.before #[Value.ref b] s = true) ∧ va_X b L xs s s.heap ∧ b < s.heap.size ∧ meth.locks = false ∧ (Jvm.Cond.and given_1 narrow_1).before #[Value.ref b] s = true

/-- the law's calls of its helpers: where the callee throws -/
def pj_hx0 (f a : Nat) (p0 p1 : Int32) (G : pj_G) : Prop := (∃ fs, pj_get G a = some (.inr (11, fs))) ∧ ∃ L', pj_to (pj_exec pj_prog pj_nat f 998) 0 pj_x0 pj_m123 20 f (G, 0, lv_args 0 [.ref a, .int p0, .int p1], [], 0, 0) = some (G, 20, L', [], 0, 0)
def pj_hx1 (f a : Nat) (p0 p1 : Int32) (G : pj_G) : Prop := (∃ fs, pj_get G a = some (.inr (11, fs))) ∧ ∃ L', pj_to (pj_exec pj_prog pj_nat f 998) 0 pj_x0 pj_m124 20 f (G, 0, lv_args 0 [.ref a, .int p0, .int p1], [], 0, 0) = some (G, 20, L', [], 0, 0)
def pj_hx2 (f a : Nat) (p0 p1 : Int32) (G : pj_G) : Prop := (∃ fs, pj_get G a = some (.inr (11, fs))) ∧ ∃ L', pj_to (pj_exec pj_prog pj_nat f 998) 0 pj_x0 pj_m125 20 f (G, 0, lv_args 0 [.ref a, .int p0, .int p1], [], 0, 0) = some (G, 20, L', [], 0, 0)
def pj_hx3 (f a : Nat) (p0 : Int32) (G : pj_G) : Prop := (∃ fs, pj_get G a = some (.inr (11, fs))) ∧ ∃ L', pj_to (pj_exec pj_prog pj_nat f 998) 0 pj_x0 pj_m160 15 f (G, 0, lv_args 0 [.ref a, .int p0], [], 0, 0) = some (G, 15, L', [], 0, 0)
noncomputable def pj_hcl (f j : Nat) (vs : List Value) (G : pj_G) : pj_V := match j with
  | 0 => (match vs with
    | [.ref a, .int p0, .int p1, .ref _] => @ite pj_V (pj_hx0 f a p0 p1 G) (Classical.propDecidable _) (some (some (.int 1), (G.1, false), 1, 6)) none
    | _ => none)
  | 1 => (match vs with
    | [.ref a, .int p0, .int p1, .ref _] => @ite pj_V (pj_hx1 f a p0 p1 G) (Classical.propDecidable _) (some (some (.int 1), (G.1, false), 1, 6)) none
    | _ => none)
  | 2 => (match vs with
    | [.ref a, .int p0, .int p1, .ref _] => @ite pj_V (pj_hx2 f a p0 p1 G) (Classical.propDecidable _) (some (some (.int 1), (G.1, false), 1, 6)) none
    | _ => none)
  | 3 => (match vs with
    | [.ref a, .int p0, .ref _] => @ite pj_V (pj_hx3 f a p0 G) (Classical.propDecidable _) (some (some (.int 1), (G.1, false), 1, 6)) none
    | _ => none)
  | _ => none
noncomputable def pj_lc (f : Nat) : pj_F := fun mi vs G => if mi < 1000 then pj_exec pj_prog pj_nat f 1000 mi vs G else pj_hcl f (mi - 1000) vs G
theorem pj_lc_hi (f j : Nat) (vs : List Value) (G : pj_G) : pj_lc f (1000 + j) vs G = pj_hcl f j vs G := by
  unfold pj_lc
  rw [if_neg (by omega), Nat.add_sub_cancel_left]
theorem pj_lc_lo {f mi : Nat} (h : mi < 1000) (vs : List Value) (G : pj_G) : pj_lc f mi vs G = pj_exec pj_prog pj_nat f 1000 mi vs G := if_pos h
theorem pj_hcl_s {f j : Nat} {vs : List Value} {G G' : pj_G} {v : Option Value} {dc ds : Nat} (h : pj_hcl f j vs G = some (v, G', dc, ds)) : v = some (.int 1) ∧ G' = (G.1, false) ∧ dc = 1 ∧ ds = 6 ∧ ((j = 0 ∧ ∃ a o p0 p1, vs = [.ref a, .int p0, .int p1, .ref o] ∧ pj_hx0 f a p0 p1 G) ∨ (j = 1 ∧ ∃ a o p0 p1, vs = [.ref a, .int p0, .int p1, .ref o] ∧ pj_hx1 f a p0 p1 G) ∨ (j = 2 ∧ ∃ a o p0 p1, vs = [.ref a, .int p0, .int p1, .ref o] ∧ pj_hx2 f a p0 p1 G) ∨ (j = 3 ∧ ∃ a o p0, vs = [.ref a, .int p0, .ref o] ∧ pj_hx3 f a p0 G)) := by
  unfold pj_hcl at h
  split at h
  · split at h
    · rename_i a p0 p1 o
      by_cases hh : pj_hx0 f a p0 p1 G
      · rw [if_pos hh] at h
        cases h
        exact ⟨rfl, rfl, rfl, rfl, Or.inl ⟨rfl, a, o, p0, p1, rfl, hh⟩⟩
      · rw [if_neg hh] at h
        cases h
    · cases h
  · split at h
    · rename_i a p0 p1 o
      by_cases hh : pj_hx1 f a p0 p1 G
      · rw [if_pos hh] at h
        cases h
        exact ⟨rfl, rfl, rfl, rfl, Or.inr (Or.inl ⟨rfl, a, o, p0, p1, rfl, hh⟩)⟩
      · rw [if_neg hh] at h
        cases h
    · cases h
  · split at h
    · rename_i a p0 p1 o
      by_cases hh : pj_hx2 f a p0 p1 G
      · rw [if_pos hh] at h
        cases h
        exact ⟨rfl, rfl, rfl, rfl, Or.inr (Or.inr (Or.inl ⟨rfl, a, o, p0, p1, rfl, hh⟩))⟩
      · rw [if_neg hh] at h
        cases h
    · cases h
  · split at h
    · rename_i a p0 o
      by_cases hh : pj_hx3 f a p0 G
      · rw [if_pos hh] at h
        cases h
        exact ⟨rfl, rfl, rfl, rfl, Or.inr (Or.inr (Or.inr (⟨rfl, a, o, p0, rfl, hh⟩)))⟩
      · rw [if_neg hh] at h
        cases h
    · cases h
  · cases h
theorem pj_lc_gd (f : Nat) (mi : Nat) (vs : List Value) (G : pj_G) (v : Option Value) (G' : pj_G) (dc ds : Nat) (h : pj_lc f mi vs G = some (v, G', dc, ds)) : pj_gd G G' dc := by
  by_cases hm : mi < 1000
  · rw [pj_lc_lo hm] at h
    exact pj_exec_gd pj_nat_gd 1000 mi vs G v G' dc ds h
  · have e1 : mi = 1000 + (mi - 1000) := by omega
    rw [e1, pj_lc_hi] at h
    obtain ⟨-, rfl, -, -, -⟩ := pj_hcl_s h
    intro z
    cases z
theorem pj_prog_len : pj_prog.length ≤ 1000 := by decide +kernel
theorem pj_flags {l : Launch} (hfl : l.flags = flags0) : l.stackTraces = false := by
  unfold Launch.stackTraces
  rw [hfl]
  decide +kernel
set_option maxHeartbeats 4000000 in
/-- THE LAW out of its pure run -/
theorem pj_law_snd {p : Program} {e : Env} {s : State} {m : MethodId} {below : List Frame} {meth : Method} {c : Code} (l : Launch) (hfl : l.flags = flags0) {b L : Nat} {xs : Nat → Int32} (C0 : lw_At p s m meth c b L xs) {f : Nat} {G' : pj_G} {mc ms : Nat} (hrun : pj_run (pj_lc f) (L + 1) xs pj_law f (([], true), 0, [(0, .ref 0)], [], 0, 0) = some (some (.int 1), G', mc, ms)) (hmc : mc ≤ 601024) (hms : ms ≤ 7293034) :
    W p l e room_1 s m #[Value.ref b] below meth c s.heap [] 0 0 (lw_Z below #[Value.ref b] s) (entryFrame m ([Value.ref b] : List Value).toArray 8) := by
  obtain ⟨hx, hb, hr, hml, hown, hts, hX, hbl, hlocks, hgv⟩ := C0
  obtain ⟨D, cy, hK⟩ := pj_startK hts
  obtain ⟨sk, adV, hO⟩ := pj_startO hts hgv hX hbl
  have hts' : ∀ w ∈ pj_all, w.before #[Value.ref b] s = true := fun w hw => hts w (List.mem_filter.mp hw).1
  have hl0 := lv_entry ([.ref b]) (n := 8) (Nat.le_of_ble_eq_true rfl)
  rw [lg_entry_eq]
  generalize (lg_sl ([.ref b]) ++ List.replicate (8 - (lg_sl ([.ref b])).length) Slot.unset).toArray = ls at hl0 ⊢
  have hl1 : lv_has ls 8 (pj_l (pj_ad (b, sk) s.heap.size) [(0, .ref 0)]) := hl0
  have hst := pj_flags hfl
  have key := pj_run_snd (p := p) (l := l) (e := e) (R := room_1) (s := s) (m := m) (args := #[Value.ref b]) (below := below) (meth := meth) (c := c) (Q := lw_Z below #[Value.ref b] s) (b := (b, sk)) (base := s.heap.size) (cy := cy) (D := D) (n0 := L + 1) (xs := xs) (adV := adV) (d := 1000) (call := pj_lc f) (P := pj_prog) (M := pj_law) (nL := 8) (v := some (.int 1)) (G' := G') (mc := mc) (ms := ms) rfl pj_law_ok ⟨⟨hx, hb, hml, hown, hts'⟩, hK, hO, Nat.le_refl _⟩ (fun z => absurd z (by decide)) pj_prog_len
    (fun mi vs G v G2 dc ds hm h => by
      rw [pj_lc_lo hm] at h
      exact pj_exec_snd pj_prog_len pj_prog_ok pj_nat_gd pj_nat_met 1000 mi vs G v G2 dc ds h)
    (fun j vs G v G2 dc ds h => by
      rw [pj_lc_hi] at h
      obtain ⟨rfl, rfl, rfl, rfl, hh⟩ := pj_hcl_s h
      rcases hh with ⟨rfl, a, o, p0, p1, rfl, ⟨fs, hg⟩, L9, hr9⟩ | ⟨rfl, a, o, p0, p1, rfl, ⟨fs, hg⟩, L9, hr9⟩ | ⟨rfl, a, o, p0, p1, rfl, ⟨fs, hg⟩, L9, hr9⟩ | ⟨rfl, a, o, p0, rfl, ⟨fs, hg⟩, L9, hr9⟩
      · exact ⟨_, rfl, pj_hp0 (d := 998) hst pj_nat_gd pj_nat_met (by decide) hg hr9⟩
      · exact ⟨_, rfl, pj_hp1 (d := 998) hst pj_nat_gd pj_nat_met (by decide) hg hr9⟩
      · exact ⟨_, rfl, pj_hp2 (d := 998) hst pj_nat_gd pj_nat_met (by decide) hg hr9⟩
      · exact ⟨_, rfl, pj_hp3 (d := 998) hst pj_nat_gd pj_nat_met (by decide) hg hr9⟩)
    (pj_lc_gd f) (by decide) (by decide) hmc hms ?_ f _ hrun (fun _ => rfl) ls hl1
  · exact key s.heap [] (fun k q h => by simp [pj_w] at h) va_S.rf
  · intro pc i L2 S ls2 hdg hrt hl2 H locs hP1 hS1
    cases i
    case ireturn =>
      have hr3 : pj_rt (some .boolean) .ireturn S = some (some (Value.int 1)) := hrt
      simp only [pj_rt] at hr3
      split at hr3
      · split at hr3
        · cases hr3
          refine va_forget (fun q hq => hS1.2.2 q hq) ?_
          refine W.widen (k := 601024) (n := 7293034) hmc hms ?_
          exact lw_ret hx hb hr hlocks hdg
        · cases hr3
      · cases hr3
    case lreturn =>
      simp only [pj_rt] at hrt
      split at hrt
      · cases hrt
      · cases hrt
    case areturn =>
      simp only [pj_rt] at hrt
      split at hrt
      · cases hrt
      · cases hrt
      · cases hrt
    case return_ =>
      simp only [pj_rt] at hrt
      split at hrt
      · cases hrt
      · cases hrt
    all_goals cases (show (none : Option (Option Value)) = some (some (Value.int 1)) from hrt)
