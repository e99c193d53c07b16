/-! REFS THAT CHANGE -/
section PJM
variable {d : Nat} {M : pj_M} {G : pj_G} {pc : Nat} {L : pj_L} {S : List Value} {P : Option Value → pj_G → Prop}
theorem pj_X_gk {idx len : Nat} {inf : List Nat} {z : Int} {a b : Nat} {l : List Nat} (hI : pj_Inv G) (hf : pj_find M.2.2.2.2.2 pc = some (.getfield idx, len, inf, z)) (hk : pj_kd a (inf.getD 0 0) (inf.getD 1 0) = some l) (hq : pj_fv G a (inf.getD 1 0) = some (.ref b)) (h2 : pj_X d M G (pc + 3) L (.ref b :: S) P) : pj_X d M G pc L (.ref a :: S) P := by
  obtain ⟨fs, v, hg, hv, hok, -⟩ := pj_kd_s hI.1 hk
  have e : fs[inf.getD 1 0]? = some (.ref b) := by
    unfold pj_fv at hq
    rw [hg] at hq
    exact hq
  exact pj_X_of (fun r h => pj_R_gf hf hg e h) h2
theorem pj_X_gm {idx len : Nat} {inf : List Nat} {z : Int} {a b c : Nat} (hI : pj_Inv G) (hf : pj_find M.2.2.2.2.2 pc = some (.getfield idx, len, inf, z)) (hk : pj_kd a (inf.getD 0 0) (inf.getD 1 0) = some [b, c]) (h2 : pj_fv G a (inf.getD 1 0) = some (.ref b) → pj_X d M G (pc + 3) L (.ref b :: S) P) (h3 : pj_fv G a (inf.getD 1 0) = some (.ref c) → pj_X d M G (pc + 3) L (.ref c :: S) P) : pj_X d M G pc L (.ref a :: S) P := by
  obtain ⟨fs, v, hg, hv, hok, -⟩ := pj_kd_s hI.1 hk
  obtain ⟨q, rfl, hc⟩ := pj_vok_r (by intro e; cases e) (by intro e; cases e) hok
  have e0 : pj_fv G a (inf.getD 1 0) = some (.ref q) := by
    unfold pj_fv
    rw [hg]
    exact hv
  unfold pj_rk at hc
  rw [Bool.and_eq_true] at hc
  have hc1 : (Nat.beq b q || (Nat.beq c q || false)) = true := hc.1
  rw [Bool.or_false, Bool.or_eq_true] at hc1
  rcases hc1 with e | e
  · have e := Nat.eq_of_beq_eq_true e
    subst e
    exact pj_X_gk hI hf hk e0 (h2 e0)
  · have e := Nat.eq_of_beq_eq_true e
    subst e
    exact pj_X_gk hI hf hk e0 (h3 e0)
end PJM
/-! LONGS, SWITCHES -/
theorem pj_X_gl {d : Nat} {M : pj_M} {G : pj_G} {pc : Nat} {L : pj_L} {S : List Value} {P : Option Value → pj_G → Prop} {idx len : Nat} {inf : List Nat} {z : Int} {a : Nat} (hI : pj_Inv G) (hf : pj_find M.2.2.2.2.2 pc = some (.getfield idx, len, inf, z)) (hk : pj_kd a (inf.getD 0 0) (inf.getD 1 0) = some [0]) (h2 : ∀ x : Int64, pj_X d M G (pc + 3) L (.long x :: S) P) : pj_X d M G pc L (.ref a :: S) P := by
  obtain ⟨fs, v, hg, hv, hok, -⟩ := pj_kd_s hI.1 hk
  obtain ⟨x, rfl⟩ := pj_vok_l hok
  exact pj_X_of (fun r h => pj_R_gf hf hg hv h) (h2 x)
theorem pj_lcI {x y : Int64} : (-1 ≤ (lg_cmp x y).toInt ∧ (lg_cmp x y).toInt ≤ 1) ∧ ((lg_cmp x y).toInt < 0 ↔ x.toInt < y.toInt) ∧ (0 < (lg_cmp x y).toInt ↔ y.toInt < x.toInt) := by
  have e1 : (1 : Int32).toInt = 1 := by decide
  have e0 : (0 : Int32).toInt = 0 := by decide
  have e2 : (-1 : Int32).toInt = -1 := by decide
  unfold lg_cmp
  simp only [gt_iff_lt, Int64.lt_iff_toInt_lt, ← Int64.toInt_inj]
  by_cases h1 : y.toInt < x.toInt
  · rw [if_pos h1, e1]
    omega
  · rw [if_neg h1]
    by_cases h2 : x.toInt = y.toInt
    · rw [if_pos h2, e0]
      omega
    · rw [if_neg h2, e2]
      omega
theorem pj_nzl {x : Int64} (h : x.toInt ≠ 0) : ¬ x = 0 := fun e => by
  rw [e] at h
  exact h (by decide)
section PJS
variable {C : Nat → pj_F} {n0 : Nat} {xs : Nat → Int32} {M : pj_M} {r : Option Value × pj_G × Nat × Nat} {G : pj_G} {pc mc ms : Nat} {L : pj_L} {S : List Value}
theorem pj_R_ldv {len : Nat} {inf : List Nat} {z : Int} {x y : Int64} (hf : pj_find M.2.2.2.2.2 pc = some (.ldiv, len, inf, z)) (hy : ¬ y = 0) (h2 : pj_R C n0 xs M (G, pc + 1, L, .long (x / y) :: S, mc, ms) r) : pj_R C n0 xs M (G, pc, L, .long y :: .long x :: S, mc, ms) r :=
  pj_R_st (t' := (G, pc + 1, L, .long (x / y) :: S, 0, 0)) hf (fun call => by
    show (if y = 0 then none else some (Value.long (x / y) :: S)).map (fun r => ((G, pc + 1, L, r, 0, 0) : pj_T)) = _
    rw [if_neg hy]
    rfl) h2
theorem pj_R_lrm {len : Nat} {inf : List Nat} {z : Int} {x y : Int64} (hf : pj_find M.2.2.2.2.2 pc = some (.lrem, len, inf, z)) (hy : ¬ y = 0) (h2 : pj_R C n0 xs M (G, pc + 1, L, .long (x - x / y * y) :: S, mc, ms) r) : pj_R C n0 xs M (G, pc, L, .long y :: .long x :: S, mc, ms) r :=
  pj_R_st (t' := (G, pc + 1, L, .long (x - x / y * y) :: S, 0, 0)) hf (fun call => by
    show (if y = 0 then none else some (Value.long (x - x / y * y) :: S)).map (fun r => ((G, pc + 1, L, r, 0, 0) : pj_T)) = _
    rw [if_neg hy]
    rfl) h2
theorem pj_R_tw {dflt lo hi : Int} {offs : Array Int} {len : Nat} {inf : List Nat} {z : Int} {x : Int32} (tgt : Nat) (hf : pj_find M.2.2.2.2.2 pc = some (.tableswitch dflt lo hi offs, len, inf, z)) {n : Int} (hx : x.toInt = n) (hk : pj_kb (.tableswitch dflt lo hi offs) (inf.getD 0 0) pc [.int (Int32.ofInt n)] = some (tgt, [])) (h2 : pj_R C n0 xs M (G, tgt, L, S, mc, ms) r) : pj_R C n0 xs M (G, pc, L, .int x :: S, mc, ms) r := by
  have e : x = Int32.ofInt n := by rw [← hx, Int32.ofInt_toInt]
  subst e
  refine pj_R_st (t' := (G, tgt, L, S, 0, 0)) hf (fun call => ?_) h2
  show (pj_kb (.tableswitch dflt lo hi offs) (inf.getD 0 0) pc (.int (Int32.ofInt n) :: S)).map (fun r => ((G, r.1, L, r.2, 0, 0) : pj_T)) = _
  rw [pj_kb_ts S hk]
  rfl
theorem pj_R_td {dflt lo hi : Int} {offs : Array Int} {len : Nat} {inf : List Nat} {z : Int} {x : Int32} (tgt : Nat) (hf : pj_find M.2.2.2.2.2 pc = some (.tableswitch dflt lo hi offs, len, inf, z)) (hx : x.toInt < lo ∨ hi < x.toInt) (ht : (if 0 ≤ (pc : Int) + dflt then some ((pc : Int) + dflt).toNat else none) = some tgt) (h2 : pj_R C n0 xs M (G, tgt, L, S, mc, ms) r) : pj_R C n0 xs M (G, pc, L, .int x :: S, mc, ms) r := by
  refine pj_R_st (t' := (G, tgt, L, S, 0, 0)) hf (fun call => ?_) h2
  show (if x.toInt < lo ∨ hi < x.toInt then (if 0 ≤ (pc : Int) + dflt then some (((pc : Int) + dflt).toNat, S) else none) else _).map (fun r => ((G, r.1, L, r.2, 0, 0) : pj_T)) = _
  rw [if_pos hx]
  split at ht
  · rename_i h
    rw [if_pos h]
    cases ht
    rfl
  · cases ht
theorem pj_R_ab {idx len : Nat} {inf : List Nat} {z : Int} {x v : Int32} (hf : pj_find M.2.2.2.2.2 pc = some (.invokestatic idx, len, inf, z)) (h12 : 12 = inf.getD 0 0) (hv : (if 0 ≤ x then x else 0 - x) = v) (hS : (S.map Value.category).sum ≤ 8) (h2 : pj_R C n0 xs M (G, pc + 3, L, .int v :: S, mc, ms) r) : pj_R C n0 xs M (G, pc, L, .int x :: S, mc, ms) r :=
  pj_R_st (t' := (G, pc + 3, L, .int v :: S, 0, 0)) hf (fun call => by
    show (if inf.getD 0 0 = 7 then (pj_cp G (.int x :: S)).map (fun r => ((r.1, pc + 3, L, r.2, 0, 0) : pj_T)) else if 10 ≤ inf.getD 0 0 then (pj_mth (inf.getD 0 0) (.int x :: S)).map (fun r => (G, pc + 3, L, r, 0, 0)) else (pj_inv call inf G (.int x :: S)).map (fun r => (r.1, pc + 3, L, r.2.1, r.2.2.1, r.2.2.2))) = _
    rw [← h12, if_neg (by decide), if_pos (by decide)]
    show (if (S.map Value.category).sum ≤ 8 then some (Value.int (if 0 ≤ x then x else 0 - x) :: S) else none).map (fun r => ((G, pc + 3, L, r, 0, 0) : pj_T)) = _
    rw [if_pos hS, hv]
    rfl) h2
end PJS
theorem pj_X_aa {d : Nat} {M : pj_M} {G : pj_G} {pc : Nat} {L : pj_L} {S : List Value} {P : Option Value → pj_G → Prop} {len : Nat} {inf : List Nat} {z : Int} {a n b k : Nat} {l : List (List Nat)} {j : Int32} (hI : pj_Inv G) (hf : pj_find M.2.2.2.2.2 pc = some (.aaload, len, inf, z)) (ht : pj_tat a = some (4, n, l)) (hj : j.toInt = (k : Nat)) (hk : k < n) (hl : l[k]? = some [b]) (h2 : pj_X d M G (pc + 1) L (.ref b :: S) P) : pj_X d M G pc L (.int j :: .ref a :: S) P := by
  obtain ⟨f, hg, hr⟩ := pj_t4_s hI.1 ht
  obtain ⟨c, h3, h4⟩ := pj_roks_s hr hl
  unfold pj_rk at h4
  rw [Bool.and_eq_true] at h4
  have hc1 : (Nat.beq b c || false) = true := h4.1
  rw [Bool.or_false] at hc1
  have e := Nat.eq_of_beq_eq_true hc1
  subst e
  rw [Nat.zero_add] at h3
  have e2 : j.toNatClampNeg = k := by
    show j.toInt.toNat = k
    omega
  refine pj_X_of (fun r h => ?_) h2
  refine pj_R_st (t' := (G, pc + 1, L, .ref b :: S, 0, 0)) hf (fun call => ?_) h
  show (pj_rdq G (.int j :: .ref a :: S)).map (fun r => ((G, pc + 1, L, r, 0, 0) : pj_T)) = _
  have e : pj_rdq G (.int j :: .ref a :: S) = some (.ref b :: S) := by
    have hb : ¬ (j < 0 ∨ n ≤ j.toNatClampNeg) := pj_bnd (by omega) (by omega)
    unfold pj_rdq
    simp only [hg]
    rw [if_pos ⟨trivial, hb⟩, e2, h3]
    rfl
  rw [e]
  rfl
/-- arraycopy of a whole array of ints into one of the same length -/
def pj_wc (G : pj_G) (a b n : Nat) : pj_G := match pj_get G a with
  | some (.inl (_, _, .inl f)) => (match pj_get G b with
    | some (.inl (_, m, .inl g)) => pj_put G b (.inl (0, m, .inl (va_cpy f g 0 0 n)))
    | _ => G)
  | _ => G
theorem pj_get_wc (G : pj_G) (a b n c : Nat) (hc : c ≠ b) : pj_get (pj_wc G a b n) c = pj_get G c := by
  unfold pj_wc
  split
  · split
    · rename_i h
      exact pj_gn h hc
    · rfl
  · rfl
theorem pj_fi_wc (G : pj_G) (a b n c m : Nat) : pj_fi (pj_wc G a b n) c m = pj_fi G c m := by
  by_cases e : c = b
  · subst e
    unfold pj_wc
    split
    · split
      · rename_i h
        unfold pj_fi pj_fv
        rw [pj_gp h, h]
      · rfl
    · rfl
  · unfold pj_fi pj_fv
    rw [pj_get_wc G a b n c e]
theorem pj_Inv_wc {G : pj_G} {a b n : Nat} {l l' : List (List Nat)} (hI : pj_Inv G) (ha : pj_tat a = some (1, n, l)) (hb : pj_tat b = some (1, n, l')) (hr : ∀ q, pj_ra b = some q → pj_ra a = some q ∧ q.1 ≤ n) (hc : pj_rc b = none) : pj_Inv (pj_wc G a b n) := by
  obtain ⟨f, hf, -⟩ := pj_t1_s hI.1 ha
  obtain ⟨g, hg, hset⟩ := pj_t1_s hI.1 hb
  have e : pj_wc G a b n = pj_put G b (.inl (0, n, .inl (va_cpy f g 0 0 n))) := by
    unfold pj_wc
    rw [hf]
    dsimp only
    rw [hg]
  refine ⟨?_, fun c m q hq => ?_, fun c q hq j hj => ?_, fun c n1 hn j hj => ?_⟩
  · rw [e]
    exact hset _
  · rw [pj_fi_wc]
    exact hI.2.1 c m q hq
  · by_cases ec : c = b
    · subst ec
      obtain ⟨h1, h2⟩ := hr q hq
      have h3 := hI.2.2.1 a q h1 j hj
      have h4 : pj_ai G a j = f j := by
        unfold pj_ai
        rw [hf]
      rw [h4] at h3
      have h5 : pj_ai (pj_wc G a c n) c j = f j := by
        rw [e]
        unfold pj_ai
        rw [pj_gp hg]
        show va_cpy f g 0 0 n j = f j
        unfold va_cpy
        rw [if_pos ⟨Nat.zero_le _, by omega⟩, Nat.zero_add, Nat.sub_zero]
      rw [h5]
      exact h3
    · have h5 : pj_ai (pj_wc G a b n) c j = pj_ai G c j := by
        unfold pj_ai
        rw [pj_get_wc G a b n c ec]
      rw [h5]
      exact hI.2.2.1 c q hq j hj
  · by_cases ec : c = b
    · subst ec
      rw [hc] at hn
      cases hn
    · have h5 : pj_ai (pj_wc G a b n) c j = pj_ai G c j := by
        unfold pj_ai
        rw [pj_get_wc G a b n c ec]
      rw [h5]
      exact hI.2.2.2 c n1 hn j hj
theorem pj_fv_wc (G : pj_G) (a b n c k : Nat) : pj_fv (pj_wc G a b n) c k = pj_fv G c k := by
  by_cases e : c = b
  · subst e
    unfold pj_wc
    split
    · split
      · rename_i h
        unfold pj_fv
        rw [pj_gp h, h]
      · rfl
    · rfl
  · unfold pj_fv
    rw [pj_get_wc G a b n c e]
theorem pj_kpt_c {K : pj_KT} {G G1 : pj_G} (h1 : pj_kpt K G G1) {a b n : Nat} (h : (pj_mN K.2.1 b && pj_mN K.2.2 b) = true) : pj_kpt K G (pj_wc G1 a b n) := by
  rw [Bool.and_eq_true] at h
  have e1 := pj_mN_s h.1
  have e2 := pj_mN_s h.2
  refine ⟨fun q hq => by rw [pj_fi_wc, h1.1 q hq], ⟨fun c hc => by rw [pj_get_wc _ _ _ _ _ (fun e => hc (by rw [e]; exact e1)), h1.2.1.1 c hc], fun q hq => by rw [pj_fv_wc, h1.2.1.2 q hq]⟩, fun c hc i => ?_⟩
  unfold pj_ai
  rw [pj_get_wc _ _ _ _ _ (fun e => hc (by rw [e]; exact e2))]
  exact h1.2.2 c hc i
theorem pj_T_cp {C : Nat → pj_F} {n0 : Nat} {xs : Nat → Int32} {M : pj_M} {r : Option Value × pj_G × Nat × Nat} {G : pj_G} {pc mc ms : Nat} {L : pj_L} {S : List Value} {idx len : Nat} {inf : List Nat} {z : Int} {a b n : Nat} {l l' : List (List Nat)} {x y w : Int32} (hI : pj_Inv G) (hf : pj_find M.2.2.2.2.2 pc = some (.invokestatic idx, len, inf, z)) (h7 : 7 = inf.getD 0 0) (ha : pj_tat a = some (1, n, l)) (hb : pj_tat b = some (1, n, l')) (hx : x.toInt = 0) (hy : y.toInt = 0) (hw : w.toInt = (n : Nat)) (hS : (S.map Value.category).sum ≤ 8) (h2 : pj_R C n0 xs M (pj_wc G a b n, pc + 3, L, S, mc, ms) r) : pj_R C n0 xs M (G, pc, L, .int w :: .int y :: .ref b :: .int x :: .ref a :: S, mc, ms) r := by
  obtain ⟨f, hga, -⟩ := pj_t1_s hI.1 ha
  obtain ⟨g, hgb, -⟩ := pj_t1_s hI.1 hb
  have e : pj_wc G a b n = pj_put G b (.inl (0, n, .inl (va_cpy f g 0 0 n))) := by
    unfold pj_wc
    rw [hga]
    dsimp only
    rw [hgb]
  have ex : x.toNatClampNeg = 0 := by
    show x.toInt.toNat = 0
    omega
  have ey : y.toNatClampNeg = 0 := by
    show y.toInt.toNat = 0
    omega
  have ew : w.toNatClampNeg = n := by
    show w.toInt.toNat = n
    omega
  refine pj_R_st (t' := (pj_wc G a b n, pc + 3, L, S, 0, 0)) hf (fun call => ?_) h2
  show (if inf.getD 0 0 = 7 then (pj_cp G (.int w :: .int y :: .ref b :: .int x :: .ref a :: S)).map (fun r => ((r.1, pc + 3, L, r.2, 0, 0) : pj_T)) else _) = _
  rw [← h7, if_pos rfl]
  have k : pj_cp G (.int w :: .int y :: .ref b :: .int x :: .ref a :: S) = some (pj_wc G a b n, S) := by
    unfold pj_cp
    simp only [hga, hgb]
    rw [if_pos ⟨trivial, trivial, by rw [Int32.lt_iff_toInt_lt, pj_lz0]; omega, by rw [Int32.lt_iff_toInt_lt, pj_lz0]; omega, by rw [Int32.lt_iff_toInt_lt, pj_lz0]; omega, by rw [ex, ew]; omega, by rw [ey, ew]; omega, hS⟩, e, ex, ey, ew]
  rw [k]
  rfl
