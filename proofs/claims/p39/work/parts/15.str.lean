/-! String.length of a constant -/
section PJST
variable {l : Launch} {b : Nat × (Nat → Nat)} {base : Nat} {cy : Nat → ClassId} {D : va_G} {adV : Nat → Nat} {d : Nat}
theorem pj_sd0 : decode cJ0_coder_7d493 0 = .ok (.getstatic 38, 3) := by decide +kernel
theorem pj_sd3 : decode cJ0_coder_7d493 3 = .ok (.ifCond .eq 10, 3) := by decide +kernel
theorem pj_sd6 : decode cJ0_coder_7d493 6 = .ok (.aload_n 0, 1) := by decide +kernel
theorem pj_sd7 : decode cJ0_coder_7d493 7 = .ok (.getfield 15, 3) := by decide +kernel
theorem pj_sd10 : decode cJ0_coder_7d493 10 = .ok (.goto 4, 3) := by decide +kernel
theorem pj_sd14 : decode cJ0_coder_7d493 14 = .ok (.ireturn, 1) := by decide +kernel
theorem pj_se0 : decode cJ0_length_8abf5 0 = .ok (.aload_n 0, 1) := by decide +kernel
theorem pj_se1 : decode cJ0_length_8abf5 1 = .ok (.getfield 9, 3) := by decide +kernel
theorem pj_se4 : decode cJ0_length_8abf5 4 = .ok (.arraylength, 1) := by decide +kernel
theorem pj_se5 : decode cJ0_length_8abf5 5 = .ok (.aload_n 0, 1) := by decide +kernel
theorem pj_se6 : decode cJ0_length_8abf5 6 = .ok (.invokevirtual 335, 3) := by decide +kernel
theorem pj_se9 : decode cJ0_length_8abf5 9 = .ok (.ishr, 1) := by decide +kernel
theorem pj_se10 : decode cJ0_length_8abf5 10 = .ok (.ireturn, 1) := by decide +kernel
theorem pj_sw1 : Jvm.Cond.fieldLink "java/lang/String" 38 "java/lang/String" "COMPACT_STRINGS" "Z" ∈ pj_all := pj_wd_in (pos := 628) (by decide +kernel)
theorem pj_sw2 : Jvm.Cond.fieldLink "java/lang/String" 15 "java/lang/String" "coder" "B" ∈ pj_all := pj_wd_in (pos := 2070) (by decide +kernel)
theorem pj_sw3 : Jvm.Cond.fieldLink "java/lang/String" 9 "java/lang/String" "value" "[B" ∈ pj_all := pj_wd_in (pos := 2069) (by decide +kernel)
theorem pj_sw4 : Jvm.Cond.code yJ0_coder_7d493 cJ0_coder_7d493 1 (some .byte) ∈ pj_all := pj_wd_in (pos := 627) (by decide +kernel)
theorem pj_sw5 : Jvm.Cond.initialized "java/lang/String" ∈ pj_all := pj_wd_in (pos := 101) (by decide +kernel)
theorem pj_sw6 : Jvm.Cond.methodLink "java/lang/String" 335 yJ0_coder_7d493 ∈ pj_all := pj_wd_in (pos := 624) (by decide +kernel)
theorem pj_sw7 : Jvm.Cond.instanceMethod yJ0_coder_7d493 ∈ pj_all := pj_wd_in (pos := 625) (by decide +kernel)
theorem pj_sw8 : Jvm.Cond.selects "java/lang/String" yJ0_coder_7d493 yJ0_coder_7d493 ∈ pj_all := pj_wd_in (pos := 626) (by decide +kernel)
theorem pj_cod {k : Nat} {q : String × Nat × String} {G : pj_G} (hk : pj_strs[k]? = some q) : Met l yJ0_coder_7d493 (pj_ws yJ0_coder_7d493 cJ0_coder_7d493 1 (some .byte)) (pj_rm d 0 0) (pj_P b base cy D adV [.retAddr k] G) (pj_Q b base cy D (some (.int 0)) G) 0 0 (fun q => base ≤ q) := by
  refine Met.ofW (cc := cJ0_coder_7d493) (maxL := 1) (ret := some .byte) (by decide +kernel) rfl ?_
  intro p e s m args below meth c s₁ B hml hv
  obtain ⟨rfl, hP0, hK, ⟨hbs, hexG⟩, hO⟩ := hv
  have hx := B.exec
  have hb := B.bytes
  have hr := B.returns
  have hts0 := atoms_spec (ws := pj_ws yJ0_coder_7d493 cJ0_coder_7d493 1 (some .byte)) B.pre
  have hts : ∀ w ∈ pj_all, w.before (([.retAddr k] : List Value).map (pj_v (pj_ad b base))).toArray s = true := fun w hw => hts0 w (List.mem_cons_of_mem _ hw)
  have hown : s.vm.findClass "java/lang/String" = some m.cls := findClass_of_methodNamed B.named
  have hlocks := B.notSynchronized
  have hl0 := lv_entry (([.retAddr k] : List Value).map (pj_v (pj_ad b base))) (n := 1) (Nat.le_of_ble_eq_true rfl)
  rw [lg_entry_eq]
  generalize (lg_sl (([.retAddr k] : List Value).map (pj_v (pj_ad b base))) ++ List.replicate (1 - (lg_sl (([.retAddr k] : List Value).map (pj_v (pj_ad b base)))).length) Slot.unset).toArray = ls at hl0 ⊢
  have hl1 : lv_has ls 1 [(0, .ref (b.2 k))] := hl0
  have hS0 : va_S (fun q => base ≤ q) s.heap s.heap [] := va_S.rf
  refine va_gets (A := fun q => base ≤ q) hx hb hO.2.2.1 hS0 hown (hts _ pj_sw1) (fun _ z => z) pj_sd0 ?_
  refine lv_if_eq (tgt := 13) hx hb pj_sd3 (by decide) (fun z => absurd z (by decide)) (fun _ => ?_)
  refine lv_aload_n hx hb pj_sd6 rfl (lv_at hl1 0 rfl) ?_
  refine vk_getf (A := fun q => base ≤ q) hx hb (hO.2.1 k q hk).2.2.1 hS0 hown (hts _ pj_sw2) (fun _ z => z) pj_sd7 ?_
  refine lv_goto (tgt := 14) hx hb pj_sd10 (by decide) ?_
  exact W.zret (v := 0) hx hb hr rfl (fun t ht _ => ⟨rfl, by rw [ht]; exact hP0, hS0.F ht⟩) hS0.2.2 pj_sd14
theorem pj_len_met {k : Nat} {q : String × Nat × String} {G : pj_G} (hk : pj_strs[k]? = some q) : Met l yJ0_length_8abf5 (pj_ws yJ0_length_8abf5 cJ0_length_8abf5 1 (some .int)) (pj_rm (d + 1) 0 0) (pj_P b base cy D adV [.retAddr k] G) (pj_Q b base cy D (some (.int (Int32.ofNat (pj_byt k).length))) G) 0 0 (fun q => base ≤ q) := by
  refine Met.ofW (cc := cJ0_length_8abf5) (maxL := 1) (ret := some .int) (by decide +kernel) rfl ?_
  intro p e s m args below meth c s₁ B hml hv
  obtain ⟨rfl, hP0, hK, ⟨hbs, hexG⟩, hO⟩ := hv
  have hx := B.exec
  have hb := B.bytes
  have hr := B.returns
  have hts0 := atoms_spec (ws := pj_ws yJ0_length_8abf5 cJ0_length_8abf5 1 (some .int)) B.pre
  have hts : ∀ w ∈ pj_all, w.before (([.retAddr k] : List Value).map (pj_v (pj_ad b base))).toArray s = true := fun w hw => hts0 w (List.mem_cons_of_mem _ hw)
  have hown : s.vm.findClass "java/lang/String" = some m.cls := findClass_of_methodNamed B.named
  have hlocks := B.notSynchronized
  have hl0 := lv_entry (([.retAddr k] : List Value).map (pj_v (pj_ad b base))) (n := 1) (Nat.le_of_ble_eq_true rfl)
  rw [lg_entry_eq]
  generalize (lg_sl (([.retAddr k] : List Value).map (pj_v (pj_ad b base))) ++ List.replicate (1 - (lg_sl (([.retAddr k] : List Value).map (pj_v (pj_ad b base)))).length) Slot.unset).toArray = ls at hl0 ⊢
  have hl1 : lv_has ls 1 [(0, .ref (b.2 k))] := hl0
  have hS0 : va_S (fun q => base ≤ q) s.heap s.heap [] := va_S.rf
  refine lv_aload_n hx hb pj_se0 rfl (lv_at hl1 0 rfl) ?_
  refine vk_getf (A := fun q => base ≤ q) hx hb (hO.2.1 k q hk).2.2.2.1 hS0 hown (hts _ pj_sw3) (fun _ z => z) pj_se1 ?_
  refine va_tlen (A := fun q => base ≤ q) hx hb (hO.2.1 k q hk).2.2.2.2 hS0 rfl pj_se4 ?_
  refine lv_aload_n hx hb pj_se5 rfl (lv_at hl1 0 rfl) ?_
  have hrc : ∃ cell : Cell, s.heap[b.2 k]? = some cell ∧ cell.vm.isStatics = false ∧ s.vm.findClass "java/lang/String" = some cell.cls := by
    obtain ⟨cell, h1, h2, h3, -⟩ := (hO.2.1 k q hk).2.1
    exact ⟨cell, h1, h2, h3⟩
  have hpre := pj_pre (b := b) (base := base) (cy := cy) (D := D) (adV := adV) (G := G) (vs := [.retAddr k]) (cells := 0) hK hO hbs hP0 hS0 (Nat.le_refl _) (fun z => by have := hexG z; omega)
  refine pj_after (rest := [.int (Int32.ofNat (pj_byt k).length)]) (dc := 0) (ds := 0) (va_runV (As := []) (rest := [.int (Int32.ofNat (pj_byt k).length)]) ⟨hx, hb, hml, hown, hts⟩ (pj_cod (d := d) hk) ⟨⟨rfl, rfl, Nat.le_refl _, by show 8 + (1 + 11) + 64 * d ≤ 64 * (d + 1); omega, pj_warm hts pj_sw4, List.mem_cons_self, hts _ pj_sw4, hts _ pj_sw5, by decide, fun sig h => ?_, hts _ pj_sw6⟩, hts _ pj_sw7, hts _ pj_sw8⟩ ⟨pj_P_blind, hrc, hpre⟩ rfl rfl hl1.1 rfl (lv_room (by show 1 + 0 ≤ 8; omega)) pj_se6 ⟨Nat.le_refl _, Nat.le_refl _⟩) hS0 ?_
  · have h2 : (parseMethodDescriptor yJ0_coder_7d493.desc).map (fun d => d.parameters.length) = some 0 := by decide +kernel
    rw [h] at h2
    exact (Option.some.inj h2).symm
  · intro H locs hP hS
    refine lv_ishr hx hb pj_se9 ?_
    rw [sb_shr0]
    exact W.iret hx hb hr (fun t ht _ => ⟨rfl, by rw [ht]; exact hP, hS.F ht⟩) hS.2.2 pj_se10
/-- the methods that are told, not run: String.length -/
def pj_nat : pj_F := fun mi vs G => match vs with
  | [.retAddr k] => if mi = 288 ∧ k < 16 then some (some (.int (Int32.ofNat (pj_byt k).length)), G, 0, 0) else none
  | _ => none
theorem pj_nat_s {mi : Nat} {vs : List Value} {G G' : pj_G} {v : Option Value} {dc ds : Nat} (h : pj_nat mi vs G = some (v, G', dc, ds)) : ∃ k, vs = [.retAddr k] ∧ mi = 288 ∧ k < 16 ∧ v = some (.int (Int32.ofNat (pj_byt k).length)) ∧ G' = G ∧ dc = 0 ∧ ds = 0 := by
  unfold pj_nat at h
  split at h
  · split at h
    · rename_i k hg
      cases h
      exact ⟨k, rfl, hg.1, hg.2, rfl, rfl, rfl, rfl⟩
    · cases h
  · cases h
theorem pj_nat_gd (mi : Nat) (vs : List Value) (G : pj_G) (v : Option Value) (G' : pj_G) (dc ds : Nat) (h : pj_nat mi vs G = some (v, G', dc, ds)) : pj_gd G G' dc := by
  obtain ⟨k, rfl, rfl, hk, rfl, rfl, rfl, rfl⟩ := pj_nat_s h
  exact pj_gd_0 _
theorem pj_nat_met (d mi : Nat) (vs : List Value) (G : pj_G) (v : Option Value) (G' : pj_G) (dc ds : Nat) (M : pj_M) (h12 : 12 ≤ d) (hM : pj_prog[mi]? = some M) (h : pj_nat mi vs G = some (v, G', dc, ds)) : pj_Met l b base cy D adV (d + 1) M vs G v G' dc ds := by
  obtain ⟨k, rfl, rfl, hk, rfl, rfl, rfl, rfl⟩ := pj_nat_s h
  have e1 : M = pj_m288 := Option.some.inj (hM.symm.trans (show pj_prog[288]? = some pj_m288 from rfl))
  subst e1
  obtain ⟨q, hq⟩ : ∃ q, pj_strs[k]? = some q := ⟨_, List.getElem?_eq_getElem (show k < pj_strs.length from hk)⟩
  exact pj_len_met hq
theorem pj_byt10 : (pj_byt 10).length = 7 := by decide +kernel
end PJST
