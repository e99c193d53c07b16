section PJHQ
variable {l : Launch} {b : Nat × (Nat → Nat)} {base : Nat} {cy : Nat → ClassId} {D : va_G} {adV : Nat → Nat} {d : Nat}
/-- a helper whose callee throws nothing -/
theorem pj_hq {bi : pj_F} {f : Nat} {M : pj_M} {hh : List (Nat × Nat × Nat × Nat)} {vs : List Value} {G G' : pj_G} {v : Option Value} {dc ds : Nat} (hokR : pj_okR pj_prog M = true) (hret : M.2.2.2.1 = some .int) (hlen : (lg_sl vs).length ≤ M.2.2.1) (hni : M.1.name ≠ "<init>") (hbg : ∀ (mi : Nat) (vs : List Value) (G : pj_G) (v : Option Value) (G' : pj_G) (dc ds : Nat), bi mi vs G = some (v, G', dc, ds) → pj_gd G G' dc)
    (hbi : ∀ (d mi : Nat) (vs : List Value) (G : pj_G) (v : Option Value) (G' : pj_G) (dc ds : Nat) (M : pj_M), 12 ≤ d → pj_prog[mi]? = some M → bi mi vs G = some (v, G', dc, ds) → pj_Met l b base cy D adV (d + 1) M vs G v G' dc ds)
    (hrun : pj_run (pj_exec pj_prog bi f d) 0 pj_x0 M f (G, 0, lv_args 0 vs, [], 0, 0) = some (v, G', dc, ds)) : pj_MetH l b base cy D adV (d + 1) (M.1, M.2.1, M.2.2.1, M.2.2.2.1, hh) vs G v G' dc ds := by
  have hpl : plainName M.1.cls = true := by
    have h9 := hokR
    simp only [pj_okR, Bool.and_eq_true] at h9
    exact h9.1
  refine va_MetW (hh := hh) (cc := M.2.1) (maxL := M.2.2.1) (ret := M.2.2.2.1) hpl rfl ?_
  intro p e s m args below meth c s₁ B hml hv
  obtain ⟨rfl, hP0, hK, ⟨hbs, hexG⟩, hO⟩ := hv
  have hx := B.exec
  have hb := B.bytes
  have hr := B.returns
  have hts0 := atoms_spec (ws := pj_hw (M.1, M.2.1, M.2.2.1, M.2.2.2.1, hh) :: pj_all) B.pre
  have hts : ∀ w ∈ pj_all, w.before (vs.map (pj_v (pj_ad b base))).toArray s = true := fun w hw => hts0 w (List.mem_cons_of_mem _ hw)
  have hown : s.vm.findClass M.1.cls = some m.cls := findClass_of_methodNamed B.named
  have hlocks := B.notSynchronized
  have hl := lv_entry (vs.map (pj_v (pj_ad b base))) (n := M.2.2.1) (by rw [pj_sl_len]; exact hlen)
  rw [lg_entry_eq]
  generalize (lg_sl (vs.map (pj_v (pj_ad b base))) ++ List.replicate (M.2.2.1 - (lg_sl (vs.map (pj_v (pj_ad b base)))).length) Slot.unset).toArray = ls at hl ⊢
  rw [pj_args] at hl
  have key := pj_run_snd (p := p) (l := l) (e := e) (R := (headSpec (pj_hw (M.1, M.2.1, M.2.2.1, M.2.2.2.1, hh) :: pj_all) (pj_rm (d + 1) dc ds)).room) (s := s) (m := m) (args := (vs.map (pj_v (pj_ad b base))).toArray) (below := below) (meth := meth) (c := c) (Q := MQ below (pj_Q b base cy D v G') (vs.map (pj_v (pj_ad b base))).toArray s dc ds (fun q => base ≤ q)) (n0 := 0) (xs := pj_x0) (adV := adV) (d := d) (P := pj_prog) (M := M) (v := v) (G' := G') (mc := dc) (ms := ds) rfl hokR ⟨⟨hx, hb, hml, hown, hts⟩, hK, hO, hbs⟩ (fun z => absurd z hni) pj_prog_len (fun mi vs G v G2 dc2 ds2 _ => pj_exec_snd pj_prog_len pj_prog_ok hbg hbi d mi vs G v G2 dc2 ds2) (fun j vs2 G2 v2 G3 dc2 ds2 h9 => by
    obtain ⟨M9, hM9, -⟩ := pj_exec_snd pj_prog_len pj_prog_ok hbg hbi d _ _ _ _ _ _ _ h9
    have := (List.getElem?_eq_some_iff.mp hM9).1
    have := pj_prog_len
    omega) (pj_exec_gd hbg d) (Nat.le_refl _) (Nat.le_refl _) (Nat.le_refl _) (Nat.le_refl _) ?_ f _ hrun (fun z => by have := hexG z; show s.heap.size + 0 = base + G.1.length; omega) ls hl
  · exact key s.heap [] hP0 va_S.rf
  · intro pc i L S ls2 hdg hrt hl2 H locs hP1 hS1
    rw [hret] at hrt
    cases i
    case ireturn =>
      simp only [pj_rt] at hrt
      split at hrt
      · rename_i x
        cases hrt
        exact W.iret (v := x) hx hb (hr.trans hret) (fun t ht _ => ⟨rfl, by rw [ht]; exact hP1, hS1.F ht⟩) hS1.2.2 hdg
      · cases hrt
    case lreturn =>
      simp only [pj_rt] at hrt
      cases hrt
    case areturn =>
      simp only [pj_rt] at hrt
      cases hrt
    case return_ =>
      simp only [pj_rt] at hrt
      cases hrt
    all_goals cases (show (none : Option (Option Value)) = some v from hrt)
end PJHQ
def pj_hb0 : pj_M := (yL_crossing, cL_crossing, 5, some .int, [0, 0, 0, 0], [(0, .aload_n 3, 1, [], 0), (1, .iconst 0, 1, [], 0), (2, .aload_n 0, 1, [], 0), (3, .iload_n 1, 1, [], 0), (4, .iload_n 2, 1, [], 0), (5, .invokevirtual 7, 3, [0, 3, 123, 11, 1279], 0), (8, .i2l, 1, [], 0), (9, .lastore, 1, [], 0), (10, .goto 7, 3, [17], 0), (13, .astore 4, 2, [], 0), (15, .iconst 1, 1, [], 0), (16, .ireturn, 1, [], 0), (17, .iconst 0, 1, [], 0), (18, .ireturn, 1, [], 0)])
theorem pj_hbok0 : pj_okR pj_prog pj_hb0 = true := by decide +kernel
def pj_hb1 : pj_M := (yL_bridge, cL_bridge, 5, some .int, [0, 0, 0, 0], [(0, .aload_n 3, 1, [], 0), (1, .iconst 0, 1, [], 0), (2, .aload_n 0, 1, [], 0), (3, .iload_n 1, 1, [], 0), (4, .iload_n 2, 1, [], 0), (5, .invokevirtual 15, 3, [0, 3, 124, 11, 1353], 0), (8, .i2l, 1, [], 0), (9, .lastore, 1, [], 0), (10, .goto 7, 3, [17], 0), (13, .astore 4, 2, [], 0), (15, .iconst 1, 1, [], 0), (16, .ireturn, 1, [], 0), (17, .iconst 0, 1, [], 0), (18, .ireturn, 1, [], 0)])
theorem pj_hbok1 : pj_okR pj_prog pj_hb1 = true := by decide +kernel
def pj_hb2 : pj_M := (yL_person, cL_person, 5, some .int, [0, 0, 0, 0], [(0, .aload_n 3, 1, [], 0), (1, .iconst 0, 1, [], 0), (2, .aload_n 0, 1, [], 0), (3, .iload_n 1, 1, [], 0), (4, .iload_n 2, 1, [], 0), (5, .invokevirtual 18, 3, [0, 3, 125, 11, 1361], 0), (8, .i2l, 1, [], 0), (9, .lastore, 1, [], 0), (10, .goto 7, 3, [17], 0), (13, .astore 4, 2, [], 0), (15, .iconst 1, 1, [], 0), (16, .ireturn, 1, [], 0), (17, .iconst 0, 1, [], 0), (18, .ireturn, 1, [], 0)])
theorem pj_hbok2 : pj_okR pj_prog pj_hb2 = true := by decide +kernel
def pj_hb3 : pj_M := (yL_row, cL_row, 4, some .int, [0, 0, 0, 0], [(0, .aload_n 2, 1, [], 0), (1, .iconst 0, 1, [], 0), (2, .aload_n 0, 1, [], 0), (3, .iload_n 1, 1, [], 0), (4, .invokevirtual 21, 3, [0, 2, 160, 11, 1369], 0), (7, .lastore, 1, [], 0), (8, .goto 6, 3, [14], 0), (11, .astore_n 3, 1, [], 0), (12, .iconst 1, 1, [], 0), (13, .ireturn, 1, [], 0), (14, .iconst 0, 1, [], 0), (15, .ireturn, 1, [], 0)])
theorem pj_hbok3 : pj_okR pj_prog pj_hb3 = true := by decide +kernel
noncomputable def pj_hrn (f j : Nat) (vs : List Value) (G : pj_G) : pj_V := match [pj_hb0, pj_hb1, pj_hb2, pj_hb3][j]? with
  | some M => if (lg_sl vs).length ≤ M.2.2.1 then pj_run (pj_exec pj_prog pj_nat f 999) 0 pj_x0 M f (G, 0, lv_args 0 vs, [], 0, 0) else none
  | none => none
/-- a helper: what it throws, or what it answers, at any fuel -/
noncomputable def pj_hz (j : Nat) (vs : List Value) (G : pj_G) : pj_V := @ite pj_V (∃ f r, pj_hcl f j vs G = some r) (Classical.propDecidable _) (some (some (.int 1), (G.1, false), 1, 6)) (@dite pj_V (∃ r f, pj_hrn f j vs G = some r) (Classical.propDecidable _) (fun h => some (Classical.choose h)) (fun _ => none))
noncomputable def pj_lz (f : Nat) : pj_F := fun mi vs G => if mi < 1000 then pj_exec pj_prog pj_nat f 1000 mi vs G else pj_hz (mi - 1000) vs G
theorem pj_hz_s {j : Nat} {vs : List Value} {G : pj_G} {r : Option Value × pj_G × Nat × Nat} (h : pj_hz j vs G = some r) : (∃ f, pj_hcl f j vs G = some r) ∨ (∃ f, pj_hrn f j vs G = some r) := by
  unfold pj_hz at h
  by_cases h1 : ∃ f r, pj_hcl f j vs G = some r
  · rw [if_pos h1] at h
    obtain ⟨f, r2, h2⟩ := h1
    obtain ⟨v, G', dc, ds⟩ := r2
    have h3 := pj_hcl_s h2
    obtain ⟨rfl, rfl, rfl, rfl, -⟩ := h3
    exact Or.inl ⟨f, h2.trans h⟩
  · rw [if_neg h1] at h
    by_cases h4 : ∃ r f, pj_hrn f j vs G = some r
    · rw [dif_pos h4] at h
      obtain ⟨f, hf⟩ := Classical.choose_spec h4
      exact Or.inr ⟨f, hf.trans h⟩
    · rw [dif_neg h4] at h
      cases h
theorem pj_hz_t {f j : Nat} {vs : List Value} {G : pj_G} {r : Option Value × pj_G × Nat × Nat} (h : pj_hcl f j vs G = some r) : pj_hz j vs G = some (some (.int 1), (G.1, false), 1, 6) := by
  unfold pj_hz
  exact if_pos ⟨f, r, h⟩
theorem pj_hrn_le {f g j : Nat} {vs : List Value} {G : pj_G} {r : Option Value × pj_G × Nat × Nat} (hfg : f ≤ g) (h : pj_hrn f j vs G = some r) : pj_hrn g j vs G = some r := by
  unfold pj_hrn at h ⊢
  split at h
  · rename_i M hM
    split at h
    · rename_i hl
      exact (if_pos hl).trans (pj_run_le (pj_exec_le hfg 999 999 (Nat.le_refl _)) (Or.inl ⟨rfl, rfl⟩) f g _ _ hfg h)
    · cases h
  · cases h
theorem pj_hz_r {f j : Nat} {vs : List Value} {G : pj_G} {r : Option Value × pj_G × Nat × Nat} (h : pj_hrn f j vs G = some r) : pj_hz j vs G = some r ∨ pj_hz j vs G = some (some (.int 1), (G.1, false), 1, 6) := by
  by_cases h1 : ∃ f r, pj_hcl f j vs G = some r
  · obtain ⟨f1, r1, h1⟩ := h1
    exact Or.inr (pj_hz_t h1)
  · refine Or.inl ?_
    unfold pj_hz
    rw [if_neg h1, dif_pos ⟨r, f, h⟩]
    have hc := Classical.choose_spec (⟨r, f, h⟩ : ∃ r f, pj_hrn f j vs G = some r)
    obtain ⟨f2, h2⟩ := hc
    have a1 := pj_hrn_le (Nat.le_max_left f f2) h
    have a2 := pj_hrn_le (Nat.le_max_right f f2) h2
    rw [a1] at a2
    exact a2.symm
theorem pj_lz_lo {f mi : Nat} (h : mi < 1000) (vs : List Value) (G : pj_G) : pj_lz f mi vs G = pj_exec pj_prog pj_nat f 1000 mi vs G := if_pos h
theorem pj_lz_hi (f j : Nat) (vs : List Value) (G : pj_G) : pj_lz f (1000 + j) vs G = pj_hz j vs G := by
  unfold pj_lz
  rw [if_neg (by omega), Nat.add_sub_cancel_left]
theorem pj_lz_le {f g : Nat} (hfg : f ≤ g) : pj_sub (pj_lz f) (pj_lz g) := fun mi vs G r h => by
  by_cases hm : mi < 1000
  · rw [pj_lz_lo hm] at h ⊢
    exact pj_exec_le hfg 1000 1000 (Nat.le_refl _) _ _ _ _ h
  · have e1 : mi = 1000 + (mi - 1000) := by omega
    rw [e1, pj_lz_hi] at h ⊢
    exact h
theorem pj_lz_mon : pj_mon pj_lz := fun _ _ h => pj_lz_le h
theorem pj_E_lz {d mi : Nat} {vs : List Value} {G : pj_G} {r : Option Value × pj_G × Nat × Nat} (hd : d ≤ 1000) (hm : mi < 1000) (h : pj_E (pj_cx d) mi vs G r) : pj_E pj_lz mi vs G r := by
  obtain ⟨f, h⟩ := h
  exact ⟨f, (pj_lz_lo hm vs G).trans (pj_exec_le (Nat.le_refl f) d 1000 hd _ _ _ _ h)⟩
theorem pj_lz_gd (f : Nat) (mi : Nat) (vs : List Value) (G : pj_G) (v : Option Value) (G' : pj_G) (dc ds : Nat) (h : pj_lz f mi vs G = some (v, G', dc, ds)) : pj_gd G G' dc := by
  by_cases hm : mi < 1000
  · rw [pj_lz_lo hm] at h
    exact pj_exec_gd pj_nat_gd 1000 mi vs G v G' dc ds h
  · have e1 : mi = 1000 + (mi - 1000) := by omega
    rw [e1, pj_lz_hi] at h
    rcases pj_hz_s h with ⟨f2, h2⟩ | ⟨f2, h2⟩
    · obtain ⟨-, rfl, -, -, -⟩ := pj_hcl_s h2
      intro z
      cases z
    · unfold pj_hrn at h2
      split at h2
      · split at h2
        · have := pj_run_gd (pj_exec_gd pj_nat_gd 999) f2 _ h2
          exact this
        · cases h2
      · cases h2
theorem pj_hrn_s {f j : Nat} {vs : List Value} {G : pj_G} {r : Option Value × pj_G × Nat × Nat} (h : pj_hrn f j vs G = some r) : ∃ M hh, pj_hl[j]? = some (M.1, M.2.1, M.2.2.1, M.2.2.2.1, hh) ∧ pj_okR pj_prog M = true ∧ M.2.2.2.1 = some .int ∧ M.1.name ≠ "<init>" ∧ (lg_sl vs).length ≤ M.2.2.1 ∧ pj_run (pj_exec pj_prog pj_nat f 999) 0 pj_x0 M f (G, 0, lv_args 0 vs, [], 0, 0) = some r := by
  unfold pj_hrn at h
  split at h
  · rename_i M hM
    split at h
    · rename_i hl
      match j, hM with
      | 0, hM => cases hM; exact ⟨pj_hb0, _, rfl, pj_hbok0, rfl, by decide, hl, h⟩
      | 1, hM => cases hM; exact ⟨pj_hb1, _, rfl, pj_hbok1, rfl, by decide, hl, h⟩
      | 2, hM => cases hM; exact ⟨pj_hb2, _, rfl, pj_hbok2, rfl, by decide, hl, h⟩
      | 3, hM => cases hM; exact ⟨pj_hb3, _, rfl, pj_hbok3, rfl, by decide, hl, h⟩
      | n + 4, hM => cases hM
    · cases h
  · cases h
set_option maxHeartbeats 4000000 in
/-- THE LAW out of its pure run -/
theorem pj_law_sz {p : Program} {e : Env} {s : State} {m : MethodId} {below : List Frame} {meth : Method} {c : Code} (l : Launch) (hfl : l.flags = flags0) {b L : Nat} {xs : Nat → Int32} (C0 : lw_At p s m meth c b L xs) {f : Nat} {G' : pj_G} {mc ms : Nat} (hrun : pj_run (pj_lz f) (L + 1) xs pj_law f (([], true), 0, [(0, .ref 0)], [], 0, 0) = some (some (.int 1), G', mc, ms)) (hmc : mc ≤ 601024) (hms : ms ≤ 7293034) :
    W p l e room_1 s m #[Value.ref b] below meth c s.heap [] 0 0 (lw_Z below #[Value.ref b] s) (entryFrame m ([Value.ref b] : List Value).toArray 8) := by
  obtain ⟨hx, hb, hr, hml, hown, hts, hX, hbl, hlocks, hgv⟩ := C0
  obtain ⟨D, cy, hK⟩ := pj_startK hts
  obtain ⟨sk, adV, hO⟩ := pj_startO hts hgv hX hbl
  have hts' : ∀ w ∈ pj_all, w.before #[Value.ref b] s = true := fun w hw => hts w (List.mem_filter.mp hw).1
  have hl0 := lv_entry ([.ref b]) (n := 8) (Nat.le_of_ble_eq_true rfl)
  rw [lg_entry_eq]
  generalize (lg_sl ([.ref b]) ++ List.replicate (8 - (lg_sl ([.ref b])).length) Slot.unset).toArray = ls at hl0 ⊢
  have hl1 : lv_has ls 8 (pj_l (pj_ad (b, sk) s.heap.size) [(0, .ref 0)]) := hl0
  have hst := pj_flags hfl
  have key := pj_run_snd (p := p) (l := l) (e := e) (R := room_1) (s := s) (m := m) (args := #[Value.ref b]) (below := below) (meth := meth) (c := c) (Q := lw_Z below #[Value.ref b] s) (b := (b, sk)) (base := s.heap.size) (cy := cy) (D := D) (n0 := L + 1) (xs := xs) (adV := adV) (d := 1000) (call := pj_lz f) (P := pj_prog) (M := pj_law) (nL := 8) (v := some (.int 1)) (G' := G') (mc := mc) (ms := ms) rfl pj_law_ok ⟨⟨hx, hb, hml, hown, hts'⟩, hK, hO, Nat.le_refl _⟩ (fun z => absurd z (by decide)) pj_prog_len
    (fun mi vs G v G2 dc ds hm h => by
      rw [pj_lz_lo hm] at h
      exact pj_exec_snd pj_prog_len pj_prog_ok pj_nat_gd pj_nat_met 1000 mi vs G v G2 dc ds h)
    (fun j vs G v G2 dc ds h => by
      rw [pj_lz_hi] at h
      rcases pj_hz_s h with ⟨f9, h9⟩ | ⟨f9, h9⟩
      · obtain ⟨rfl, rfl, rfl, rfl, hh⟩ := pj_hcl_s h9
        rcases hh with ⟨rfl, a, o, p0, p1, rfl, ⟨fs, hg⟩, L9, hr9⟩ | ⟨rfl, a, o, p0, p1, rfl, ⟨fs, hg⟩, L9, hr9⟩ | ⟨rfl, a, o, p0, p1, rfl, ⟨fs, hg⟩, L9, hr9⟩ | ⟨rfl, a, o, p0, rfl, ⟨fs, hg⟩, L9, hr9⟩
        · exact ⟨_, rfl, pj_hp0 (d := 998) hst pj_nat_gd pj_nat_met (by decide) hg hr9⟩
        · exact ⟨_, rfl, pj_hp1 (d := 998) hst pj_nat_gd pj_nat_met (by decide) hg hr9⟩
        · exact ⟨_, rfl, pj_hp2 (d := 998) hst pj_nat_gd pj_nat_met (by decide) hg hr9⟩
        · exact ⟨_, rfl, pj_hp3 (d := 998) hst pj_nat_gd pj_nat_met (by decide) hg hr9⟩
      · obtain ⟨M, hh, a1, a2, a3, a4, a5, a6⟩ := pj_hrn_s h9
        exact ⟨_, a1, pj_hq (d := 999) a2 a3 a5 a4 pj_nat_gd pj_nat_met a6⟩)
    (pj_lz_gd f) (by decide) (by decide) hmc hms ?_ f _ hrun (fun _ => rfl) ls hl1
  · exact key s.heap [] (fun k q h => by simp [pj_w] at h) va_S.rf
  · intro pc i L2 S ls2 hdg hrt hl2 H locs hP1 hS1
    cases i
    case ireturn =>
      have hr3 : pj_rt (some .boolean) .ireturn S = some (some (Value.int 1)) := hrt
      simp only [pj_rt] at hr3
      split at hr3
      · split at hr3
        · cases hr3
          refine va_forget (fun q hq => hS1.2.2 q hq) ?_
          refine W.widen (k := 601024) (n := 7293034) hmc hms ?_
          exact lw_ret hx hb hr hlocks hdg
        · cases hr3
      · cases hr3
    case lreturn =>
      simp only [pj_rt] at hrt
      split at hrt
      · cases hrt
      · cases hrt
    case areturn =>
      simp only [pj_rt] at hrt
      split at hrt
      · cases hrt
      · cases hrt
      · cases hrt
    case return_ =>
      simp only [pj_rt] at hrt
      split at hrt
      · cases hrt
      · cases hrt
    all_goals cases (show (none : Option (Option Value)) = some (some (Value.int 1)) from hrt)
