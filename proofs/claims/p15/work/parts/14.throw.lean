/-! A RUN UP TO A PLACE -/
def pj_oneT (call : pj_F) (n0 : Nat) (xs : Nat → Int32) (M : pj_M) (tp : Nat) (ih : pj_T → Option pj_T) (t : pj_T) : Option pj_T := if t.2.1 = tp then some t else (match pj_find M.2.2.2.2.2 t.2.1 with
  | none => none
  | some q => (match pj_s call n0 xs M.2.2.1 q.2.2.1 q.2.2.2 q.1 t.2.1 t.1 t.2.2.1 t.2.2.2.1 with
    | none => none
    | some r => ih (r.1, r.2.1, r.2.2.1, r.2.2.2.1, t.2.2.2.2.1 + r.2.2.2.2.1, t.2.2.2.2.2 + r.2.2.2.2.2)))
noncomputable def pj_to (call : pj_F) (n0 : Nat) (xs : Nat → Int32) (M : pj_M) (tp n : Nat) : pj_T → Option pj_T := Nat.rec (motive := fun _ => pj_T → Option pj_T) (fun _ => none) (fun _ ih t => pj_oneT call n0 xs M tp ih t) n
theorem pj_oneT_s {call : pj_F} {n0 : Nat} {xs : Nat → Int32} {M : pj_M} {tp : Nat} {ih : pj_T → Option pj_T} {t t' : pj_T} (h : pj_oneT call n0 xs M tp ih t = some t') :
    t' = t ∧ t.2.1 = tp ∨ ∃ q, (t.2.1, q) ∈ M.2.2.2.2.2 ∧ ∃ (G2 : pj_G) (pc2 : Nat) (L2 : pj_L) (S2 : List Value) (dc ds : Nat), pj_s call n0 xs M.2.2.1 q.2.2.1 q.2.2.2 q.1 t.2.1 t.1 t.2.2.1 t.2.2.2.1 = some (G2, pc2, L2, S2, dc, ds) ∧ ih (G2, pc2, L2, S2, t.2.2.2.2.1 + dc, t.2.2.2.2.2 + ds) = some t' := by
  unfold pj_oneT at h
  split at h
  · cases h
    exact Or.inl ⟨rfl, by assumption⟩
  · split at h
    · cases h
    · rename_i q hq
      refine Or.inr ⟨q, pj_find_s hq, ?_⟩
      split at h
      · cases h
      · rename_i r hr
        exact ⟨_, _, _, _, _, _, hr, h⟩
theorem pj_to_mono {call : pj_F} {n0 : Nat} {xs : Nat → Int32} {M : pj_M} {tp : Nat} : ∀ (n : Nat) (t t' : pj_T), pj_to call n0 xs M tp n t = some t' → t.2.2.2.2.1 ≤ t'.2.2.2.2.1 ∧ t.2.2.2.2.2 ≤ t'.2.2.2.2.2
  | 0, t, t', h => by cases (show (none : Option pj_T) = some t' from h)
  | n + 1, t, t', h => by
    obtain ⟨rfl, -⟩ | ⟨q, -, G2, pc2, L2, S2, dc, ds, h1, h2⟩ := pj_oneT_s (ih := pj_to call n0 xs M tp n) h
    · exact ⟨Nat.le_refl _, Nat.le_refl _⟩
    · have h3 := pj_to_mono n _ _ h2
      dsimp only at h3
      omega
section PJTO
variable {p : Program} {l : Launch} {e : Env} {R : Room} {s : State} {m : MethodId} {args : Array Value} {below : List Frame} {meth : Method} {c : Code} {Q : State → Prop}
variable {b : Nat × (Nat → Nat)} {base : Nat} {cy : Nat → ClassId} {D : va_G} {n0 : Nat} {xs : Nat → Int32} {adV : Nat → Nat} {d : Nat}
theorem pj_to_snd {call : pj_F} {P : List pj_M} {M : pj_M} {nL tp : Nat} {t' : pj_T} (hnL : M.2.2.1 = nL) (hokR : pj_okR P M = true)
    (hC0 : (p.tables.exec = Jvm.exec ∧ c.code = M.2.1 ∧ c.maxLocals = nL ∧ s.vm.findClass M.1.cls = some m.cls ∧ ∀ w ∈ pj_all, w.before args s = true) ∧ va_K D vwCl (pj_tys cy) s ∧ pj_O b base n0 xs adV s s.heap ∧ base ≤ s.heap.size) (hini : M.1.name = "<init>" → meth.name = "<init>")
    (hPl : P.length ≤ 1000) (hcall : ∀ (mi : Nat) (vs : List Value) (G : pj_G) (v : Option Value) (G' : pj_G) (dc ds : Nat), mi < 1000 → call mi vs G = some (v, G', dc, ds) → ∃ M, P[mi]? = some M ∧ pj_Met l b base cy D adV d M vs G v G' dc ds)
    (hcallH : ∀ (j : Nat) (vs : List Value) (G : pj_G) (v : Option Value) (G' : pj_G) (dc ds : Nat), call (1000 + j) vs G = some (v, G', dc, ds) → ∃ h, pj_hl[j]? = some h ∧ pj_MetH l b base cy D adV d h vs G v G' dc ds)
    (hgd : ∀ (mi : Nat) (vs : List Value) (G : pj_G) (v : Option Value) (G' : pj_G) (dc ds : Nat), call mi vs G = some (v, G', dc, ds) → pj_gd G G' dc)
    (hf : d + 1 ≤ R.frames) (hlo : 64 * (d + 1) ≤ R.locals) (hmc : t'.2.2.2.2.1 ≤ R.cells) (hms : t'.2.2.2.2.2 ≤ R.slots)
    (hend : (t'.1.2 = true → s.heap.size + t'.2.2.2.2.1 = base + t'.1.1.length) → ∀ ls : Array Slot, lv_has ls nL (pj_l (pj_ad b base) t'.2.2.1) → pj_N p l e R s m args below meth c Q b base cy D ls t'.2.2.2.2.1 t'.2.2.2.2.2 t'.1 t'.2.1 t'.2.2.2.1) :
    ∀ (n : Nat) (t : pj_T), pj_to call n0 xs M tp n t = some t' → (t.1.2 = true → s.heap.size + t.2.2.2.2.1 = base + t.1.1.length) → ∀ ls : Array Slot, lv_has ls nL (pj_l (pj_ad b base) t.2.2.1) → pj_N p l e R s m args below meth c Q b base cy D ls t.2.2.2.2.1 t.2.2.2.2.2 t.1 t.2.1 t.2.2.2.1
  | 0, t, h, _, _, _ => by cases (show (none : Option pj_T) = some t' from h)
  | n + 1, t, h, hex, ls, hlv => by
    obtain ⟨rfl, -⟩ | ⟨q, hq, G2, pc2, L2, S2, dc, ds, h1, h2⟩ := pj_oneT_s (ih := pj_to call n0 xs M tp n) h
    · exact hend hex ls hlv
    · obtain ⟨g2, g3⟩ := pj_okR_s hokR hq
      have hm := pj_to_mono n _ _ h2
      dsimp only at hm
      subst hnL
      refine pj_s_snd hC0 (fun z => hini (of_decide_eq_true z)) hlv hex hPl hcall hcallH g2 g3 h1 hf hlo (by omega) (by omega) (fun ls' hl' => ?_)
      have hgd2 := pj_s_gd hgd h1
      exact pj_to_snd rfl hokR hC0 hini hPl hcall hcallH hgd hf hlo hmc hms hend n _ h2 (fun z => by
        obtain ⟨a1, a2⟩ := hgd2 z
        have a3 := hex a1
        show s.heap.size + (t.2.2.2.2.1 + dc) = base + G2.1.length
        omega) ls' hl'
/-! A METHOD THAT THROWS NoSuchElementException -/
theorem pj_thr {P : List pj_M} {bi : pj_F} {f : Nat} {M : pj_M} {k tp is : Nat} {tx : String} {vs : List Value} {G : pj_G} {L' : pj_L} (hl : l.stackTraces = false) (hPl : P.length ≤ 1000) (hP : ∀ M ∈ P, pj_okR P M = true) (hbg : ∀ (mi : Nat) (vs : List Value) (G : pj_G) (v : Option Value) (G' : pj_G) (dc ds : Nat), bi mi vs G = some (v, G', dc, ds) → pj_gd G G' dc)
    (hbi : ∀ (d mi : Nat) (vs : List Value) (G : pj_G) (v : Option Value) (G' : pj_G) (dc ds : Nat) (M : pj_M), 12 ≤ d → P[mi]? = some M → bi mi vs G = some (v, G', dc, ds) → pj_Met l b base cy D adV (d + 1) M vs G v G' dc ds)
    (hM : M ∈ P) (hcls : M.1.cls = "BridgesAreLent") (hstr : pj_strs[k]? = some ("BridgesAreLent", is, tx)) (hlen : (lg_sl vs).length ≤ M.2.2.1) (hd8 : 8 ≤ d)
    (d0 : decode M.2.1 tp = .ok (.new 145, 3)) (d3 : decode M.2.1 (tp + 3) = .ok (.dup, 1)) (d4 : decode M.2.1 (tp + 4) = .ok (.ldc is, 2)) (d6 : decode M.2.1 (tp + 6) = .ok (.invokespecial 149, 3)) (d9 : decode M.2.1 (tp + 9) = .ok (.athrow, 1))
    (hrun : pj_to (pj_exec P bi f d) 0 pj_x0 M tp f (G, 0, lv_args 0 vs, [], 0, 0) = some (G, tp, L', [], 0, 0)) :
    vx_Met l M.1 (pj_ws M.1 M.2.1 M.2.2.1 M.2.2.2.1) (pj_rm (d + 1) 1 6) (pj_P b base cy D adV vs G) (fun _ _ _ _ => False) (pj_XC b base cy D G) 1 6 (fun q => base ≤ q) := by
  have hokR := hP M hM
  have hpl : plainName M.1.cls = true := by
    have hh := hokR
    simp only [pj_okR, Bool.and_eq_true] at hh
    exact hh.1
  refine vx_ofW (cc := M.2.1) (maxL := M.2.2.1) (ret := M.2.2.2.1) hpl rfl ?_
  intro p e s m args below meth c s₁ B hml htab hv
  obtain ⟨rfl, hP0, hK, ⟨hbs, hexG⟩, hO⟩ := hv
  have hx := B.exec
  have hb := B.bytes
  have hts0 := atoms_spec (ws := pj_ws M.1 M.2.1 M.2.2.1 M.2.2.2.1) B.pre
  have hts : ∀ w ∈ pj_all, w.before (vs.map (pj_v (pj_ad b base))).toArray s = true := fun w hw => hts0 w (List.mem_cons_of_mem _ hw)
  have hown : s.vm.findClass M.1.cls = some m.cls := findClass_of_methodNamed B.named
  have hlocks := B.notSynchronized
  have hnm : meth.name = M.1.name := (name_of_methodNamed B.named B.method).1
  have hl0 := lv_entry (vs.map (pj_v (pj_ad b base))) (n := M.2.2.1) (by rw [pj_sl_len]; exact hlen)
  rw [lg_entry_eq]
  generalize (lg_sl (vs.map (pj_v (pj_ad b base))) ++ List.replicate (M.2.2.1 - (lg_sl (vs.map (pj_v (pj_ad b base)))).length) Slot.unset).toArray = ls at hl0 ⊢
  rw [pj_args] at hl0
  have key := pj_to_snd (p := p) (l := l) (e := e) (R := (headSpec (pj_ws M.1 M.2.1 M.2.2.1 M.2.2.2.1) (pj_rm (d + 1) 1 6)).room) (s := s) (m := m) (args := (vs.map (pj_v (pj_ad b base))).toArray) (below := below) (meth := meth) (c := c) (Q := vx_MQ below (fun _ _ _ _ => False) (pj_XC b base cy D G) (vs.map (pj_v (pj_ad b base))).toArray s 1 6 (fun q => base ≤ q)) (n0 := 0) (xs := pj_x0) (adV := adV) (d := d) (t' := (G, tp, L', [], 0, 0)) rfl hokR ⟨⟨hx, hb, hml, hown, hts⟩, hK, hO, hbs⟩ (fun z => hnm.trans z) hPl (fun mi vs G v G2 dc2 ds2 _ => pj_exec_snd hPl hP hbg hbi d mi vs G v G2 dc2 ds2) (fun j vs2 G2 v2 G3 dc2 ds2 h9 => by
        obtain ⟨M9, hM9, -⟩ := pj_exec_snd hPl hP hbg hbi d _ _ _ _ _ _ _ h9
        have := (List.getElem?_eq_some_iff.mp hM9).1
        omega) (pj_exec_gd hbg d) (Nat.le_refl _) (Nat.le_refl _) (Nat.zero_le _) (Nat.zero_le _) ?_ f _ hrun (fun z => by have := hexG z; show s.heap.size + 0 = base + G.1.length; omega) ls hl0
  · exact key s.heap [] hP0 va_S.rf
  · intro _ ls2 hl2 H locs hP1 hS1
    exact pj_thrE (q := tp + 6) hl hx hb (fun w hw => hts w (pj_atn w hw)) (hcls ▸ hown) hO htab hlocks hstr (show 9 ≤ d + 1 by omega) (show 128 ≤ 64 * (d + 1) by omega) (Nat.le_refl 1) (Nat.le_refl 6) (hl2.1.trans hml.symm) d0 d3 (Or.inl ⟨d4, rfl⟩) d6 d9 hP1 hS1
theorem pj_thrW {P : List pj_M} {bi : pj_F} {f : Nat} {M : pj_M} {k tp is : Nat} {tx : String} {vs : List Value} {G : pj_G} {L' : pj_L} (hl : l.stackTraces = false) (hPl : P.length ≤ 1000) (hP : ∀ M ∈ P, pj_okR P M = true) (hbg : ∀ (mi : Nat) (vs : List Value) (G : pj_G) (v : Option Value) (G' : pj_G) (dc ds : Nat), bi mi vs G = some (v, G', dc, ds) → pj_gd G G' dc)
    (hbi : ∀ (d mi : Nat) (vs : List Value) (G : pj_G) (v : Option Value) (G' : pj_G) (dc ds : Nat) (M : pj_M), 12 ≤ d → P[mi]? = some M → bi mi vs G = some (v, G', dc, ds) → pj_Met l b base cy D adV (d + 1) M vs G v G' dc ds)
    (hM : M ∈ P) (hcls : M.1.cls = "BridgesAreLent") (hstr : pj_strs[k]? = some ("BridgesAreLent", is, tx)) (hlen : (lg_sl vs).length ≤ M.2.2.1) (hd8 : 8 ≤ d)
    (d0 : decode M.2.1 tp = .ok (.new 145, 3)) (d3 : decode M.2.1 (tp + 3) = .ok (.dup, 1)) (d4 : decode M.2.1 (tp + 4) = .ok (.ldc_w is, 3)) (d6 : decode M.2.1 (tp + 7) = .ok (.invokespecial 149, 3)) (d9 : decode M.2.1 (tp + 10) = .ok (.athrow, 1))
    (hrun : pj_to (pj_exec P bi f d) 0 pj_x0 M tp f (G, 0, lv_args 0 vs, [], 0, 0) = some (G, tp, L', [], 0, 0)) :
    vx_Met l M.1 (pj_ws M.1 M.2.1 M.2.2.1 M.2.2.2.1) (pj_rm (d + 1) 1 6) (pj_P b base cy D adV vs G) (fun _ _ _ _ => False) (pj_XC b base cy D G) 1 6 (fun q => base ≤ q) := by
  have hokR := hP M hM
  have hpl : plainName M.1.cls = true := by
    have hh := hokR
    simp only [pj_okR, Bool.and_eq_true] at hh
    exact hh.1
  refine vx_ofW (cc := M.2.1) (maxL := M.2.2.1) (ret := M.2.2.2.1) hpl rfl ?_
  intro p e s m args below meth c s₁ B hml htab hv
  obtain ⟨rfl, hP0, hK, ⟨hbs, hexG⟩, hO⟩ := hv
  have hx := B.exec
  have hb := B.bytes
  have hts0 := atoms_spec (ws := pj_ws M.1 M.2.1 M.2.2.1 M.2.2.2.1) B.pre
  have hts : ∀ w ∈ pj_all, w.before (vs.map (pj_v (pj_ad b base))).toArray s = true := fun w hw => hts0 w (List.mem_cons_of_mem _ hw)
  have hown : s.vm.findClass M.1.cls = some m.cls := findClass_of_methodNamed B.named
  have hlocks := B.notSynchronized
  have hnm : meth.name = M.1.name := (name_of_methodNamed B.named B.method).1
  have hl0 := lv_entry (vs.map (pj_v (pj_ad b base))) (n := M.2.2.1) (by rw [pj_sl_len]; exact hlen)
  rw [lg_entry_eq]
  generalize (lg_sl (vs.map (pj_v (pj_ad b base))) ++ List.replicate (M.2.2.1 - (lg_sl (vs.map (pj_v (pj_ad b base)))).length) Slot.unset).toArray = ls at hl0 ⊢
  rw [pj_args] at hl0
  have key := pj_to_snd (p := p) (l := l) (e := e) (R := (headSpec (pj_ws M.1 M.2.1 M.2.2.1 M.2.2.2.1) (pj_rm (d + 1) 1 6)).room) (s := s) (m := m) (args := (vs.map (pj_v (pj_ad b base))).toArray) (below := below) (meth := meth) (c := c) (Q := vx_MQ below (fun _ _ _ _ => False) (pj_XC b base cy D G) (vs.map (pj_v (pj_ad b base))).toArray s 1 6 (fun q => base ≤ q)) (n0 := 0) (xs := pj_x0) (adV := adV) (d := d) (t' := (G, tp, L', [], 0, 0)) rfl hokR ⟨⟨hx, hb, hml, hown, hts⟩, hK, hO, hbs⟩ (fun z => hnm.trans z) hPl (fun mi vs G v G2 dc2 ds2 _ => pj_exec_snd hPl hP hbg hbi d mi vs G v G2 dc2 ds2) (fun j vs2 G2 v2 G3 dc2 ds2 h9 => by
        obtain ⟨M9, hM9, -⟩ := pj_exec_snd hPl hP hbg hbi d _ _ _ _ _ _ _ h9
        have := (List.getElem?_eq_some_iff.mp hM9).1
        omega) (pj_exec_gd hbg d) (Nat.le_refl _) (Nat.le_refl _) (Nat.zero_le _) (Nat.zero_le _) ?_ f _ hrun (fun z => by have := hexG z; show s.heap.size + 0 = base + G.1.length; omega) ls hl0
  · exact key s.heap [] hP0 va_S.rf
  · intro _ ls2 hl2 H locs hP1 hS1
    exact pj_thrE (q := tp + 7) hl hx hb (fun w hw => hts w (pj_atn w hw)) (hcls ▸ hown) hO htab hlocks hstr (show 9 ≤ d + 1 by omega) (show 128 ≤ 64 * (d + 1) by omega) (Nat.le_refl 1) (Nat.le_refl 6) (hl2.1.trans hml.symm) d0 d3 (Or.inr ⟨d4, rfl⟩) d6 d9 hP1 hS1
/-- behind a call that throws -/
theorem pj_afterX {H : Heap} {locs : List Loc} {cells slots pc : Nat} {ls : Array Slot} {rest : List Value} {st0 : List Value} {G : pj_G} {Qa : State → Outcome → State → Prop} (hQ : ∀ a o t, ¬ Qa a o t) (hr : vx_Run p l e R s m args below meth c H locs cells slots 1 6 (F0 m pc ls st0) rest Qa (pj_XC b base cy D G) (fun q => base ≤ q)) (hS : va_S (fun q => base ≤ q) s.heap H locs)
    (kx : ∀ (H1 : Heap) (locs1 : List Loc) (q : Addr) (ce : Cell), va_P D vwCl (pj_w (pj_ad b base) cy 0 G.1) H1 → va_S (fun q => base ≤ q) s.heap H1 locs1 → H1[q]? = some ce → ce.vm = .none → s.vm.findClass pj_nse = some ce.cls → vx_W p l e R s m args below meth c H1 locs1 (cells + 1) (slots + 6) Q (F0 m pc ls rest) q) : W p l e R s m args below meth c H locs cells slots Q (F0 m pc ls st0) := by
  intro T hT X
  rcases hr T hT X with ⟨v, st₀, t, T', L, h0, X', hL, e1, e2, hq, st⟩ | ⟨q, st₀, t, T', L, E, ce, h0, X', hL, e1, e2, ⟨rfl, hp, hz, hk⟩, hce, hcv, hcl, st⟩
  · exact absurd hq (hQ _ _ _)
  · rw [h0] at hz hk
    have hS' : va_S (fun q => base ≤ q) s.heap T'.heap (locs ++ L) := ⟨Nat.le_trans hS.1 (by rw [e1]; exact hz), fun q h1 h2 => by rw [e1, hk q (Nat.lt_of_lt_of_le h1 hS.1) h2]; exact hS.2.1 q h1 h2, fun q hq => by
        rcases List.mem_append.mp hq with h | h
        · exact hS.2.2 q h
        · exact hL q h⟩
    obtain ⟨t2, a1, b1⟩ := kx T'.heap (locs ++ L) q ce (by rw [e1]; exact hp) hS' (by rw [e1]; exact hce) hcv hcl T' rfl X'
    exact ⟨t2, st.trans a1, b1⟩

theorem pj_hc0 : Jvm.Cond.classLink "BridgesAreLentLaw" 13 pj_nse ∈ pj_all := pj_wd_in (pos := 1278) (by decide +kernel)
theorem pj_hc1 : Jvm.Cond.castable pj_nse pj_nse ∈ pj_all := pj_wd_in (pos := 1285) (by decide +kernel)
theorem pj_dh0_0 : decode cL_crossing 0 = .ok (.aload_n 3, 1) := by decide +kernel
theorem pj_dh0_1 : decode cL_crossing 1 = .ok (.iconst 0, 1) := by decide +kernel
theorem pj_dh0_2 : decode cL_crossing 2 = .ok (.aload_n 0, 1) := by decide +kernel
theorem pj_dh0_3 : decode cL_crossing 3 = .ok (.iload_n 1, 1) := by decide +kernel
theorem pj_dh0_4 : decode cL_crossing 4 = .ok (.iload_n 2, 1) := by decide +kernel
theorem pj_dh0_5 : decode cL_crossing 5 = .ok (.invokevirtual 7, 3) := by decide +kernel
theorem pj_dh0_8 : decode cL_crossing 8 = .ok (.i2l, 1) := by decide +kernel
theorem pj_dh0_9 : decode cL_crossing 9 = .ok (.lastore, 1) := by decide +kernel
theorem pj_dh0_10 : decode cL_crossing 10 = .ok (.goto 7, 3) := by decide +kernel
theorem pj_dh0_13 : decode cL_crossing 13 = .ok (.astore 4, 2) := by decide +kernel
theorem pj_dh0_15 : decode cL_crossing 15 = .ok (.iconst 1, 1) := by decide +kernel
theorem pj_dh0_16 : decode cL_crossing 16 = .ok (.ireturn, 1) := by decide +kernel
theorem pj_dh0_17 : decode cL_crossing 17 = .ok (.iconst 0, 1) := by decide +kernel
theorem pj_dh0_18 : decode cL_crossing 18 = .ok (.ireturn, 1) := by decide +kernel
theorem pj_hk0 : Jvm.Cond.methodLink "BridgesAreLentLaw" 7 yX11_crossing ∈ pj_all := pj_wd_in (pos := 1279) (by decide +kernel)
theorem pj_hm0 : pj_okM pj_m123 2 = true := by decide +kernel
theorem pj_hi0 : Jvm.Cond.instanceMethod yX11_crossing ∈ pj_all := pj_wd_in (pos := 1280) (by decide +kernel)
theorem pj_hs0 : Jvm.Cond.selects "BridgesAreLent" yX11_crossing yX11_crossing ∈ pj_all := pj_wd_in (pos := 1281) (by decide +kernel)
theorem pj_dt0_0 : decode cX11_crossing 20 = .ok (.new 145, 3) := by decide +kernel
theorem pj_dt0_3 : decode cX11_crossing 23 = .ok (.dup, 1) := by decide +kernel
theorem pj_dt0_4 : decode cX11_crossing 24 = .ok (.ldc 147, 2) := by decide +kernel
theorem pj_dt0_6 : decode cX11_crossing 26 = .ok (.invokespecial 149, 3) := by decide +kernel
theorem pj_dt0_9 : decode cX11_crossing 29 = .ok (.athrow, 1) := by decide +kernel
theorem pj_hp0 {bi : pj_F} {f a o : Nat} {p0 p1 : Int32} {fs : List Value} {G : pj_G} {L' : pj_L} (hl : l.stackTraces = false) (hbg : ∀ (mi : Nat) (vs : List Value) (G : pj_G) (v : Option Value) (G' : pj_G) (dc ds : Nat), bi mi vs G = some (v, G', dc, ds) → pj_gd G G' dc)
    (hbi : ∀ (d mi : Nat) (vs : List Value) (G : pj_G) (v : Option Value) (G' : pj_G) (dc ds : Nat) (M : pj_M), 12 ≤ d → pj_prog[mi]? = some M → bi mi vs G = some (v, G', dc, ds) → pj_Met l b base cy D adV (d + 1) M vs G v G' dc ds) (hd8 : 8 ≤ d) (hgx : pj_get G a = some (.inr (11, fs)))
    (hrun : pj_to (pj_exec pj_prog bi f d) 0 pj_x0 pj_m123 20 f (G, 0, lv_args 0 [.ref a, .int p0, .int p1], [], 0, 0) = some (G, 20, L', [], 0, 0)) :
    pj_MetH l b base cy D adV (d + 2) (yL_crossing, cL_crossing, 5, some .int, [(0, 10, 13, 13)]) [.ref a, .int p0, .int p1, .ref o] G (some (.int 1)) (G.1, false) 1 6 := by
  have hMet := pj_thr (l := l) (b := b) (base := base) (cy := cy) (D := D) (adV := adV) (d := d) (P := pj_prog) (M := pj_m123) (k := 0) (tp := 20) (vs := [.ref a, .int p0, .int p1]) hl (by decide +kernel) pj_prog_ok hbg hbi (List.mem_of_getElem? (i := 123) rfl) rfl rfl (Nat.le_of_ble_eq_true rfl) hd8 pj_dt0_0 pj_dt0_3 pj_dt0_4 pj_dt0_6 pj_dt0_9 hrun
  refine va_MetW (hh := [(0, 10, 13, 13)]) (cc := cL_crossing) (maxL := 5) (ret := some .int) (by decide +kernel) rfl ?_
  intro p e s m args below meth c s₁ B hml hv
  obtain ⟨rfl, hP0, hK, ⟨hbs, hexG⟩, hO⟩ := hv
  have hx := B.exec
  have hb := B.bytes
  have hr := B.returns
  have hts0 := atoms_spec (ws := pj_hw (yL_crossing, cL_crossing, 5, some .int, [(0, 10, 13, 13)]) :: pj_all) B.pre
  have hts : ∀ w ∈ pj_all, w.before (([.ref a, .int p0, .int p1, .ref o] : List Value).map (pj_v (pj_ad b base))).toArray s = true := fun w hw => hts0 w (List.mem_cons_of_mem _ hw)
  have hown : s.vm.findClass "BridgesAreLentLaw" = some m.cls := findClass_of_methodNamed B.named
  have hlocks := B.notSynchronized
  have hsplit : c.exceptionTable.toList = [⟨0, 10, 13, 13⟩] := vx_table (x := yL_law) B (hts0 _ List.mem_cons_self)
  have hl0 := lv_entry (([.ref a, .int p0, .int p1, .ref o] : List Value).map (pj_v (pj_ad b base))) (n := 5) (Nat.le_of_ble_eq_true rfl)
  rw [lg_entry_eq]
  generalize (lg_sl (([.ref a, .int p0, .int p1, .ref o] : List Value).map (pj_v (pj_ad b base))) ++ List.replicate (5 - (lg_sl (([.ref a, .int p0, .int p1, .ref o] : List Value).map (pj_v (pj_ad b base)))).length) Slot.unset).toArray = ls at hl0 ⊢
  have hl1 : lv_has ls 5 [(0, .ref ((pj_ad b base).1 a)), (1, .int p0), (2, .int p1), (3, .ref ((pj_ad b base).1 o))] := hl0
  refine lv_aload_n hx hb pj_dh0_0 rfl (lv_at hl1 3 rfl) ?_
  refine lv_iconst (v := 0) hx hb pj_dh0_1 (by decide) ?_
  refine lv_aload_n hx hb pj_dh0_2 rfl (lv_at hl1 0 rfl) ?_
  refine lv_iload_n hx hb pj_dh0_3 rfl (lv_at hl1 1 rfl) ?_
  refine lv_iload_n hx hb pj_dh0_4 rfl (lv_at hl1 2 rfl) ?_
  obtain ⟨i9, -, hi9⟩ := pj_at (b := b) (base := base) (cy := cy) hgx
  have hrc := va_recv hK hP0 (show vwCl[11]? = some (RX11, TX11, 8) from rfl) hi9
  obtain ⟨⟨k1, k2, k3, k4, k5, k6⟩, k7, k8, k9, k10⟩ := pj_okM_s (R := (headSpec (pj_hw (yL_crossing, cL_crossing, 5, some .int, [(0, 10, 13, 13)]) :: pj_all) (pj_rm (d + 2) 1 6)).room) (d := d + 1) (dc := 1) (ds := 6) pj_hm0 hts (Nat.le_refl _) (Nat.le_refl _)
  have hpre := pj_pre (b := b) (base := base) (cy := cy) (D := D) (adV := adV) (G := G) (vs := [.ref a, .int p0, .int p1]) (cells := 0) hK hO hbs hP0 va_S.rf (Nat.le_refl _) (fun z => by have := hexG z; omega)
  refine pj_afterX (G := G) (fun _ _ _ z => z) (vx_runV (As := [.int p0, .int p1]) (rest := [.int 0, .ref ((pj_ad b base).1 o)]) ⟨hx, hb, hml, hown, hts⟩ hMet ⟨⟨k1, k2, k3, k4, k5, k6, k7, k8, k9, k10, hts _ pj_hk0⟩, hts _ pj_hi0, hts _ pj_hs0⟩ ⟨pj_P_blind, hrc, hpre⟩ rfl rfl hl1.1 rfl (lv_room (by show 1 + (1 + 0) ≤ 8; omega)) pj_dh0_5 ⟨Nat.le_refl _, Nat.le_refl _⟩) va_S.rf (fun H1 locs1 q ce hP1 hS1 hc1 hv1 hcl1 => ?_)
  refine vx_catch (name := pj_nse) hown [] ⟨0, 10, 13, 13⟩ [] hsplit (fun _ h => by cases h) (by decide) (by decide) (hts _ pj_hc0) (hts _ pj_hc1) hc1 hv1 hcl1 ?_
  refine lv_astore (lv' := [(4, .ref q), (0, .ref ((pj_ad b base).1 a)), (1, .int p0), (2, .int p1), (3, .ref ((pj_ad b base).1 o))]) hx hb pj_dh0_13 hl1 (by decide) rfl (fun ls2 hl2 => ?_)
  refine lv_iconst (v := 1) hx hb pj_dh0_15 (by decide) ?_
  exact W.iret (v := 1) hx hb hr (fun t ht _ => ⟨rfl, by rw [ht]; exact hP1, hS1.F ht⟩) hS1.2.2 pj_dh0_16
theorem pj_dh1_0 : decode cL_bridge 0 = .ok (.aload_n 3, 1) := by decide +kernel
theorem pj_dh1_1 : decode cL_bridge 1 = .ok (.iconst 0, 1) := by decide +kernel
theorem pj_dh1_2 : decode cL_bridge 2 = .ok (.aload_n 0, 1) := by decide +kernel
theorem pj_dh1_3 : decode cL_bridge 3 = .ok (.iload_n 1, 1) := by decide +kernel
theorem pj_dh1_4 : decode cL_bridge 4 = .ok (.iload_n 2, 1) := by decide +kernel
theorem pj_dh1_5 : decode cL_bridge 5 = .ok (.invokevirtual 15, 3) := by decide +kernel
theorem pj_dh1_8 : decode cL_bridge 8 = .ok (.i2l, 1) := by decide +kernel
theorem pj_dh1_9 : decode cL_bridge 9 = .ok (.lastore, 1) := by decide +kernel
theorem pj_dh1_10 : decode cL_bridge 10 = .ok (.goto 7, 3) := by decide +kernel
theorem pj_dh1_13 : decode cL_bridge 13 = .ok (.astore 4, 2) := by decide +kernel
theorem pj_dh1_15 : decode cL_bridge 15 = .ok (.iconst 1, 1) := by decide +kernel
theorem pj_dh1_16 : decode cL_bridge 16 = .ok (.ireturn, 1) := by decide +kernel
theorem pj_dh1_17 : decode cL_bridge 17 = .ok (.iconst 0, 1) := by decide +kernel
theorem pj_dh1_18 : decode cL_bridge 18 = .ok (.ireturn, 1) := by decide +kernel
theorem pj_hk1 : Jvm.Cond.methodLink "BridgesAreLentLaw" 15 yX11_bridge ∈ pj_all := pj_wd_in (pos := 1353) (by decide +kernel)
theorem pj_hm1 : pj_okM pj_m124 2 = true := by decide +kernel
theorem pj_hi1 : Jvm.Cond.instanceMethod yX11_bridge ∈ pj_all := pj_wd_in (pos := 1354) (by decide +kernel)
theorem pj_hs1 : Jvm.Cond.selects "BridgesAreLent" yX11_bridge yX11_bridge ∈ pj_all := pj_wd_in (pos := 1355) (by decide +kernel)
theorem pj_dt1_0 : decode cX11_bridge 20 = .ok (.new 145, 3) := by decide +kernel
theorem pj_dt1_3 : decode cX11_bridge 23 = .ok (.dup, 1) := by decide +kernel
theorem pj_dt1_4 : decode cX11_bridge 24 = .ok (.ldc 174, 2) := by decide +kernel
theorem pj_dt1_6 : decode cX11_bridge 26 = .ok (.invokespecial 149, 3) := by decide +kernel
theorem pj_dt1_9 : decode cX11_bridge 29 = .ok (.athrow, 1) := by decide +kernel
theorem pj_hp1 {bi : pj_F} {f a o : Nat} {p0 p1 : Int32} {fs : List Value} {G : pj_G} {L' : pj_L} (hl : l.stackTraces = false) (hbg : ∀ (mi : Nat) (vs : List Value) (G : pj_G) (v : Option Value) (G' : pj_G) (dc ds : Nat), bi mi vs G = some (v, G', dc, ds) → pj_gd G G' dc)
    (hbi : ∀ (d mi : Nat) (vs : List Value) (G : pj_G) (v : Option Value) (G' : pj_G) (dc ds : Nat) (M : pj_M), 12 ≤ d → pj_prog[mi]? = some M → bi mi vs G = some (v, G', dc, ds) → pj_Met l b base cy D adV (d + 1) M vs G v G' dc ds) (hd8 : 8 ≤ d) (hgx : pj_get G a = some (.inr (11, fs)))
    (hrun : pj_to (pj_exec pj_prog bi f d) 0 pj_x0 pj_m124 20 f (G, 0, lv_args 0 [.ref a, .int p0, .int p1], [], 0, 0) = some (G, 20, L', [], 0, 0)) :
    pj_MetH l b base cy D adV (d + 2) (yL_bridge, cL_bridge, 5, some .int, [(0, 10, 13, 13)]) [.ref a, .int p0, .int p1, .ref o] G (some (.int 1)) (G.1, false) 1 6 := by
  have hMet := pj_thr (l := l) (b := b) (base := base) (cy := cy) (D := D) (adV := adV) (d := d) (P := pj_prog) (M := pj_m124) (k := 1) (tp := 20) (vs := [.ref a, .int p0, .int p1]) hl (by decide +kernel) pj_prog_ok hbg hbi (List.mem_of_getElem? (i := 124) rfl) rfl rfl (Nat.le_of_ble_eq_true rfl) hd8 pj_dt1_0 pj_dt1_3 pj_dt1_4 pj_dt1_6 pj_dt1_9 hrun
  refine va_MetW (hh := [(0, 10, 13, 13)]) (cc := cL_bridge) (maxL := 5) (ret := some .int) (by decide +kernel) rfl ?_
  intro p e s m args below meth c s₁ B hml hv
  obtain ⟨rfl, hP0, hK, ⟨hbs, hexG⟩, hO⟩ := hv
  have hx := B.exec
  have hb := B.bytes
  have hr := B.returns
  have hts0 := atoms_spec (ws := pj_hw (yL_bridge, cL_bridge, 5, some .int, [(0, 10, 13, 13)]) :: pj_all) B.pre
  have hts : ∀ w ∈ pj_all, w.before (([.ref a, .int p0, .int p1, .ref o] : List Value).map (pj_v (pj_ad b base))).toArray s = true := fun w hw => hts0 w (List.mem_cons_of_mem _ hw)
  have hown : s.vm.findClass "BridgesAreLentLaw" = some m.cls := findClass_of_methodNamed B.named
  have hlocks := B.notSynchronized
  have hsplit : c.exceptionTable.toList = [⟨0, 10, 13, 13⟩] := vx_table (x := yL_law) B (hts0 _ List.mem_cons_self)
  have hl0 := lv_entry (([.ref a, .int p0, .int p1, .ref o] : List Value).map (pj_v (pj_ad b base))) (n := 5) (Nat.le_of_ble_eq_true rfl)
  rw [lg_entry_eq]
  generalize (lg_sl (([.ref a, .int p0, .int p1, .ref o] : List Value).map (pj_v (pj_ad b base))) ++ List.replicate (5 - (lg_sl (([.ref a, .int p0, .int p1, .ref o] : List Value).map (pj_v (pj_ad b base)))).length) Slot.unset).toArray = ls at hl0 ⊢
  have hl1 : lv_has ls 5 [(0, .ref ((pj_ad b base).1 a)), (1, .int p0), (2, .int p1), (3, .ref ((pj_ad b base).1 o))] := hl0
  refine lv_aload_n hx hb pj_dh1_0 rfl (lv_at hl1 3 rfl) ?_
  refine lv_iconst (v := 0) hx hb pj_dh1_1 (by decide) ?_
  refine lv_aload_n hx hb pj_dh1_2 rfl (lv_at hl1 0 rfl) ?_
  refine lv_iload_n hx hb pj_dh1_3 rfl (lv_at hl1 1 rfl) ?_
  refine lv_iload_n hx hb pj_dh1_4 rfl (lv_at hl1 2 rfl) ?_
  obtain ⟨i9, -, hi9⟩ := pj_at (b := b) (base := base) (cy := cy) hgx
  have hrc := va_recv hK hP0 (show vwCl[11]? = some (RX11, TX11, 8) from rfl) hi9
  obtain ⟨⟨k1, k2, k3, k4, k5, k6⟩, k7, k8, k9, k10⟩ := pj_okM_s (R := (headSpec (pj_hw (yL_bridge, cL_bridge, 5, some .int, [(0, 10, 13, 13)]) :: pj_all) (pj_rm (d + 2) 1 6)).room) (d := d + 1) (dc := 1) (ds := 6) pj_hm1 hts (Nat.le_refl _) (Nat.le_refl _)
  have hpre := pj_pre (b := b) (base := base) (cy := cy) (D := D) (adV := adV) (G := G) (vs := [.ref a, .int p0, .int p1]) (cells := 0) hK hO hbs hP0 va_S.rf (Nat.le_refl _) (fun z => by have := hexG z; omega)
  refine pj_afterX (G := G) (fun _ _ _ z => z) (vx_runV (As := [.int p0, .int p1]) (rest := [.int 0, .ref ((pj_ad b base).1 o)]) ⟨hx, hb, hml, hown, hts⟩ hMet ⟨⟨k1, k2, k3, k4, k5, k6, k7, k8, k9, k10, hts _ pj_hk1⟩, hts _ pj_hi1, hts _ pj_hs1⟩ ⟨pj_P_blind, hrc, hpre⟩ rfl rfl hl1.1 rfl (lv_room (by show 1 + (1 + 0) ≤ 8; omega)) pj_dh1_5 ⟨Nat.le_refl _, Nat.le_refl _⟩) va_S.rf (fun H1 locs1 q ce hP1 hS1 hc1 hv1 hcl1 => ?_)
  refine vx_catch (name := pj_nse) hown [] ⟨0, 10, 13, 13⟩ [] hsplit (fun _ h => by cases h) (by decide) (by decide) (hts _ pj_hc0) (hts _ pj_hc1) hc1 hv1 hcl1 ?_
  refine lv_astore (lv' := [(4, .ref q), (0, .ref ((pj_ad b base).1 a)), (1, .int p0), (2, .int p1), (3, .ref ((pj_ad b base).1 o))]) hx hb pj_dh1_13 hl1 (by decide) rfl (fun ls2 hl2 => ?_)
  refine lv_iconst (v := 1) hx hb pj_dh1_15 (by decide) ?_
  exact W.iret (v := 1) hx hb hr (fun t ht _ => ⟨rfl, by rw [ht]; exact hP1, hS1.F ht⟩) hS1.2.2 pj_dh1_16
theorem pj_dh2_0 : decode cL_person 0 = .ok (.aload_n 3, 1) := by decide +kernel
theorem pj_dh2_1 : decode cL_person 1 = .ok (.iconst 0, 1) := by decide +kernel
theorem pj_dh2_2 : decode cL_person 2 = .ok (.aload_n 0, 1) := by decide +kernel
theorem pj_dh2_3 : decode cL_person 3 = .ok (.iload_n 1, 1) := by decide +kernel
theorem pj_dh2_4 : decode cL_person 4 = .ok (.iload_n 2, 1) := by decide +kernel
theorem pj_dh2_5 : decode cL_person 5 = .ok (.invokevirtual 18, 3) := by decide +kernel
theorem pj_dh2_8 : decode cL_person 8 = .ok (.i2l, 1) := by decide +kernel
theorem pj_dh2_9 : decode cL_person 9 = .ok (.lastore, 1) := by decide +kernel
theorem pj_dh2_10 : decode cL_person 10 = .ok (.goto 7, 3) := by decide +kernel
theorem pj_dh2_13 : decode cL_person 13 = .ok (.astore 4, 2) := by decide +kernel
theorem pj_dh2_15 : decode cL_person 15 = .ok (.iconst 1, 1) := by decide +kernel
theorem pj_dh2_16 : decode cL_person 16 = .ok (.ireturn, 1) := by decide +kernel
theorem pj_dh2_17 : decode cL_person 17 = .ok (.iconst 0, 1) := by decide +kernel
theorem pj_dh2_18 : decode cL_person 18 = .ok (.ireturn, 1) := by decide +kernel
theorem pj_hk2 : Jvm.Cond.methodLink "BridgesAreLentLaw" 18 yX11_person ∈ pj_all := pj_wd_in (pos := 1361) (by decide +kernel)
theorem pj_hm2 : pj_okM pj_m125 2 = true := by decide +kernel
theorem pj_hi2 : Jvm.Cond.instanceMethod yX11_person ∈ pj_all := pj_wd_in (pos := 1362) (by decide +kernel)
theorem pj_hs2 : Jvm.Cond.selects "BridgesAreLent" yX11_person yX11_person ∈ pj_all := pj_wd_in (pos := 1363) (by decide +kernel)
theorem pj_dt2_0 : decode cX11_person 20 = .ok (.new 145, 3) := by decide +kernel
theorem pj_dt2_3 : decode cX11_person 23 = .ok (.dup, 1) := by decide +kernel
theorem pj_dt2_4 : decode cX11_person 24 = .ok (.ldc 194, 2) := by decide +kernel
theorem pj_dt2_6 : decode cX11_person 26 = .ok (.invokespecial 149, 3) := by decide +kernel
theorem pj_dt2_9 : decode cX11_person 29 = .ok (.athrow, 1) := by decide +kernel
theorem pj_hp2 {bi : pj_F} {f a o : Nat} {p0 p1 : Int32} {fs : List Value} {G : pj_G} {L' : pj_L} (hl : l.stackTraces = false) (hbg : ∀ (mi : Nat) (vs : List Value) (G : pj_G) (v : Option Value) (G' : pj_G) (dc ds : Nat), bi mi vs G = some (v, G', dc, ds) → pj_gd G G' dc)
    (hbi : ∀ (d mi : Nat) (vs : List Value) (G : pj_G) (v : Option Value) (G' : pj_G) (dc ds : Nat) (M : pj_M), 12 ≤ d → pj_prog[mi]? = some M → bi mi vs G = some (v, G', dc, ds) → pj_Met l b base cy D adV (d + 1) M vs G v G' dc ds) (hd8 : 8 ≤ d) (hgx : pj_get G a = some (.inr (11, fs)))
    (hrun : pj_to (pj_exec pj_prog bi f d) 0 pj_x0 pj_m125 20 f (G, 0, lv_args 0 [.ref a, .int p0, .int p1], [], 0, 0) = some (G, 20, L', [], 0, 0)) :
    pj_MetH l b base cy D adV (d + 2) (yL_person, cL_person, 5, some .int, [(0, 10, 13, 13)]) [.ref a, .int p0, .int p1, .ref o] G (some (.int 1)) (G.1, false) 1 6 := by
  have hMet := pj_thr (l := l) (b := b) (base := base) (cy := cy) (D := D) (adV := adV) (d := d) (P := pj_prog) (M := pj_m125) (k := 2) (tp := 20) (vs := [.ref a, .int p0, .int p1]) hl (by decide +kernel) pj_prog_ok hbg hbi (List.mem_of_getElem? (i := 125) rfl) rfl rfl (Nat.le_of_ble_eq_true rfl) hd8 pj_dt2_0 pj_dt2_3 pj_dt2_4 pj_dt2_6 pj_dt2_9 hrun
  refine va_MetW (hh := [(0, 10, 13, 13)]) (cc := cL_person) (maxL := 5) (ret := some .int) (by decide +kernel) rfl ?_
  intro p e s m args below meth c s₁ B hml hv
  obtain ⟨rfl, hP0, hK, ⟨hbs, hexG⟩, hO⟩ := hv
  have hx := B.exec
  have hb := B.bytes
  have hr := B.returns
  have hts0 := atoms_spec (ws := pj_hw (yL_person, cL_person, 5, some .int, [(0, 10, 13, 13)]) :: pj_all) B.pre
  have hts : ∀ w ∈ pj_all, w.before (([.ref a, .int p0, .int p1, .ref o] : List Value).map (pj_v (pj_ad b base))).toArray s = true := fun w hw => hts0 w (List.mem_cons_of_mem _ hw)
  have hown : s.vm.findClass "BridgesAreLentLaw" = some m.cls := findClass_of_methodNamed B.named
  have hlocks := B.notSynchronized
  have hsplit : c.exceptionTable.toList = [⟨0, 10, 13, 13⟩] := vx_table (x := yL_law) B (hts0 _ List.mem_cons_self)
  have hl0 := lv_entry (([.ref a, .int p0, .int p1, .ref o] : List Value).map (pj_v (pj_ad b base))) (n := 5) (Nat.le_of_ble_eq_true rfl)
  rw [lg_entry_eq]
  generalize (lg_sl (([.ref a, .int p0, .int p1, .ref o] : List Value).map (pj_v (pj_ad b base))) ++ List.replicate (5 - (lg_sl (([.ref a, .int p0, .int p1, .ref o] : List Value).map (pj_v (pj_ad b base)))).length) Slot.unset).toArray = ls at hl0 ⊢
  have hl1 : lv_has ls 5 [(0, .ref ((pj_ad b base).1 a)), (1, .int p0), (2, .int p1), (3, .ref ((pj_ad b base).1 o))] := hl0
  refine lv_aload_n hx hb pj_dh2_0 rfl (lv_at hl1 3 rfl) ?_
  refine lv_iconst (v := 0) hx hb pj_dh2_1 (by decide) ?_
  refine lv_aload_n hx hb pj_dh2_2 rfl (lv_at hl1 0 rfl) ?_
  refine lv_iload_n hx hb pj_dh2_3 rfl (lv_at hl1 1 rfl) ?_
  refine lv_iload_n hx hb pj_dh2_4 rfl (lv_at hl1 2 rfl) ?_
  obtain ⟨i9, -, hi9⟩ := pj_at (b := b) (base := base) (cy := cy) hgx
  have hrc := va_recv hK hP0 (show vwCl[11]? = some (RX11, TX11, 8) from rfl) hi9
  obtain ⟨⟨k1, k2, k3, k4, k5, k6⟩, k7, k8, k9, k10⟩ := pj_okM_s (R := (headSpec (pj_hw (yL_person, cL_person, 5, some .int, [(0, 10, 13, 13)]) :: pj_all) (pj_rm (d + 2) 1 6)).room) (d := d + 1) (dc := 1) (ds := 6) pj_hm2 hts (Nat.le_refl _) (Nat.le_refl _)
  have hpre := pj_pre (b := b) (base := base) (cy := cy) (D := D) (adV := adV) (G := G) (vs := [.ref a, .int p0, .int p1]) (cells := 0) hK hO hbs hP0 va_S.rf (Nat.le_refl _) (fun z => by have := hexG z; omega)
  refine pj_afterX (G := G) (fun _ _ _ z => z) (vx_runV (As := [.int p0, .int p1]) (rest := [.int 0, .ref ((pj_ad b base).1 o)]) ⟨hx, hb, hml, hown, hts⟩ hMet ⟨⟨k1, k2, k3, k4, k5, k6, k7, k8, k9, k10, hts _ pj_hk2⟩, hts _ pj_hi2, hts _ pj_hs2⟩ ⟨pj_P_blind, hrc, hpre⟩ rfl rfl hl1.1 rfl (lv_room (by show 1 + (1 + 0) ≤ 8; omega)) pj_dh2_5 ⟨Nat.le_refl _, Nat.le_refl _⟩) va_S.rf (fun H1 locs1 q ce hP1 hS1 hc1 hv1 hcl1 => ?_)
  refine vx_catch (name := pj_nse) hown [] ⟨0, 10, 13, 13⟩ [] hsplit (fun _ h => by cases h) (by decide) (by decide) (hts _ pj_hc0) (hts _ pj_hc1) hc1 hv1 hcl1 ?_
  refine lv_astore (lv' := [(4, .ref q), (0, .ref ((pj_ad b base).1 a)), (1, .int p0), (2, .int p1), (3, .ref ((pj_ad b base).1 o))]) hx hb pj_dh2_13 hl1 (by decide) rfl (fun ls2 hl2 => ?_)
  refine lv_iconst (v := 1) hx hb pj_dh2_15 (by decide) ?_
  exact W.iret (v := 1) hx hb hr (fun t ht _ => ⟨rfl, by rw [ht]; exact hP1, hS1.F ht⟩) hS1.2.2 pj_dh2_16
theorem pj_dh3_0 : decode cL_row 0 = .ok (.aload_n 2, 1) := by decide +kernel
theorem pj_dh3_1 : decode cL_row 1 = .ok (.iconst 0, 1) := by decide +kernel
theorem pj_dh3_2 : decode cL_row 2 = .ok (.aload_n 0, 1) := by decide +kernel
theorem pj_dh3_3 : decode cL_row 3 = .ok (.iload_n 1, 1) := by decide +kernel
theorem pj_dh3_4 : decode cL_row 4 = .ok (.invokevirtual 21, 3) := by decide +kernel
theorem pj_dh3_7 : decode cL_row 7 = .ok (.lastore, 1) := by decide +kernel
theorem pj_dh3_8 : decode cL_row 8 = .ok (.goto 6, 3) := by decide +kernel
theorem pj_dh3_11 : decode cL_row 11 = .ok (.astore_n 3, 1) := by decide +kernel
theorem pj_dh3_12 : decode cL_row 12 = .ok (.iconst 1, 1) := by decide +kernel
theorem pj_dh3_13 : decode cL_row 13 = .ok (.ireturn, 1) := by decide +kernel
theorem pj_dh3_14 : decode cL_row 14 = .ok (.iconst 0, 1) := by decide +kernel
theorem pj_dh3_15 : decode cL_row 15 = .ok (.ireturn, 1) := by decide +kernel
theorem pj_hk3 : Jvm.Cond.methodLink "BridgesAreLentLaw" 21 yX11_row ∈ pj_all := pj_wd_in (pos := 1369) (by decide +kernel)
theorem pj_hm3 : pj_okM pj_m160 1 = true := by decide +kernel
theorem pj_hi3 : Jvm.Cond.instanceMethod yX11_row ∈ pj_all := pj_wd_in (pos := 1370) (by decide +kernel)
theorem pj_hs3 : Jvm.Cond.selects "BridgesAreLent" yX11_row yX11_row ∈ pj_all := pj_wd_in (pos := 1371) (by decide +kernel)
theorem pj_dt3_0 : decode cX11_row 15 = .ok (.new 145, 3) := by decide +kernel
theorem pj_dt3_3 : decode cX11_row 18 = .ok (.dup, 1) := by decide +kernel
theorem pj_dt3_4 : decode cX11_row 19 = .ok (.ldc_w 421, 3) := by decide +kernel
theorem pj_dt3_6 : decode cX11_row 22 = .ok (.invokespecial 149, 3) := by decide +kernel
theorem pj_dt3_9 : decode cX11_row 25 = .ok (.athrow, 1) := by decide +kernel
theorem pj_hp3 {bi : pj_F} {f a o : Nat} {p0 : Int32} {fs : List Value} {G : pj_G} {L' : pj_L} (hl : l.stackTraces = false) (hbg : ∀ (mi : Nat) (vs : List Value) (G : pj_G) (v : Option Value) (G' : pj_G) (dc ds : Nat), bi mi vs G = some (v, G', dc, ds) → pj_gd G G' dc)
    (hbi : ∀ (d mi : Nat) (vs : List Value) (G : pj_G) (v : Option Value) (G' : pj_G) (dc ds : Nat) (M : pj_M), 12 ≤ d → pj_prog[mi]? = some M → bi mi vs G = some (v, G', dc, ds) → pj_Met l b base cy D adV (d + 1) M vs G v G' dc ds) (hd8 : 8 ≤ d) (hgx : pj_get G a = some (.inr (11, fs)))
    (hrun : pj_to (pj_exec pj_prog bi f d) 0 pj_x0 pj_m160 15 f (G, 0, lv_args 0 [.ref a, .int p0], [], 0, 0) = some (G, 15, L', [], 0, 0)) :
    pj_MetH l b base cy D adV (d + 2) (yL_row, cL_row, 4, some .int, [(0, 8, 11, 13)]) [.ref a, .int p0, .ref o] G (some (.int 1)) (G.1, false) 1 6 := by
  have hMet := pj_thrW (l := l) (b := b) (base := base) (cy := cy) (D := D) (adV := adV) (d := d) (P := pj_prog) (M := pj_m160) (k := 3) (tp := 15) (vs := [.ref a, .int p0]) hl (by decide +kernel) pj_prog_ok hbg hbi (List.mem_of_getElem? (i := 160) rfl) rfl rfl (Nat.le_of_ble_eq_true rfl) hd8 pj_dt3_0 pj_dt3_3 pj_dt3_4 pj_dt3_6 pj_dt3_9 hrun
  refine va_MetW (hh := [(0, 8, 11, 13)]) (cc := cL_row) (maxL := 4) (ret := some .int) (by decide +kernel) rfl ?_
  intro p e s m args below meth c s₁ B hml hv
  obtain ⟨rfl, hP0, hK, ⟨hbs, hexG⟩, hO⟩ := hv
  have hx := B.exec
  have hb := B.bytes
  have hr := B.returns
  have hts0 := atoms_spec (ws := pj_hw (yL_row, cL_row, 4, some .int, [(0, 8, 11, 13)]) :: pj_all) B.pre
  have hts : ∀ w ∈ pj_all, w.before (([.ref a, .int p0, .ref o] : List Value).map (pj_v (pj_ad b base))).toArray s = true := fun w hw => hts0 w (List.mem_cons_of_mem _ hw)
  have hown : s.vm.findClass "BridgesAreLentLaw" = some m.cls := findClass_of_methodNamed B.named
  have hlocks := B.notSynchronized
  have hsplit : c.exceptionTable.toList = [⟨0, 8, 11, 13⟩] := vx_table (x := yL_law) B (hts0 _ List.mem_cons_self)
  have hl0 := lv_entry (([.ref a, .int p0, .ref o] : List Value).map (pj_v (pj_ad b base))) (n := 4) (Nat.le_of_ble_eq_true rfl)
  rw [lg_entry_eq]
  generalize (lg_sl (([.ref a, .int p0, .ref o] : List Value).map (pj_v (pj_ad b base))) ++ List.replicate (4 - (lg_sl (([.ref a, .int p0, .ref o] : List Value).map (pj_v (pj_ad b base)))).length) Slot.unset).toArray = ls at hl0 ⊢
  have hl1 : lv_has ls 4 [(0, .ref ((pj_ad b base).1 a)), (1, .int p0), (2, .ref ((pj_ad b base).1 o))] := hl0
  refine lv_aload_n hx hb pj_dh3_0 rfl (lv_at hl1 2 rfl) ?_
  refine lv_iconst (v := 0) hx hb pj_dh3_1 (by decide) ?_
  refine lv_aload_n hx hb pj_dh3_2 rfl (lv_at hl1 0 rfl) ?_
  refine lv_iload_n hx hb pj_dh3_3 rfl (lv_at hl1 1 rfl) ?_
  obtain ⟨i9, -, hi9⟩ := pj_at (b := b) (base := base) (cy := cy) hgx
  have hrc := va_recv hK hP0 (show vwCl[11]? = some (RX11, TX11, 8) from rfl) hi9
  obtain ⟨⟨k1, k2, k3, k4, k5, k6⟩, k7, k8, k9, k10⟩ := pj_okM_s (R := (headSpec (pj_hw (yL_row, cL_row, 4, some .int, [(0, 8, 11, 13)]) :: pj_all) (pj_rm (d + 2) 1 6)).room) (d := d + 1) (dc := 1) (ds := 6) pj_hm3 hts (Nat.le_refl _) (Nat.le_refl _)
  have hpre := pj_pre (b := b) (base := base) (cy := cy) (D := D) (adV := adV) (G := G) (vs := [.ref a, .int p0]) (cells := 0) hK hO hbs hP0 va_S.rf (Nat.le_refl _) (fun z => by have := hexG z; omega)
  refine pj_afterX (G := G) (fun _ _ _ z => z) (vx_runV (As := [.int p0]) (rest := [.int 0, .ref ((pj_ad b base).1 o)]) ⟨hx, hb, hml, hown, hts⟩ hMet ⟨⟨k1, k2, k3, k4, k5, k6, k7, k8, k9, k10, hts _ pj_hk3⟩, hts _ pj_hi3, hts _ pj_hs3⟩ ⟨pj_P_blind, hrc, hpre⟩ rfl rfl hl1.1 rfl (lv_room (by show 1 + (1 + 0) ≤ 8; omega)) pj_dh3_4 ⟨Nat.le_refl _, Nat.le_refl _⟩) va_S.rf (fun H1 locs1 q ce hP1 hS1 hc1 hv1 hcl1 => ?_)
  refine vx_catch (name := pj_nse) hown [] ⟨0, 8, 11, 13⟩ [] hsplit (fun _ h => by cases h) (by decide) (by decide) (hts _ pj_hc0) (hts _ pj_hc1) hc1 hv1 hcl1 ?_
  refine lv_astore_n (lv' := [(3, .ref q), (0, .ref ((pj_ad b base).1 a)), (1, .int p0), (2, .ref ((pj_ad b base).1 o))]) hx hb pj_dh3_11 rfl hl1 (by decide) rfl (fun ls2 hl2 => ?_)
  refine lv_iconst (v := 1) hx hb pj_dh3_12 (by decide) ?_
  exact W.iret (v := 1) hx hb hr (fun t ht _ => ⟨rfl, by rw [ht]; exact hP1, hS1.F ht⟩) hS1.2.2 pj_dh3_13
end PJTO
