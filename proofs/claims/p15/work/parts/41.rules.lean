/-! RULES BY HAND: rows, arrays, numbers -/
theorem pj_kb_ts {dflt lo hi : Int} {offs : Array Int} {tgt pc p2 : Nat} {x : Int32} (t : List Value) (h : pj_kb (.tableswitch dflt lo hi offs) tgt pc [.int x] = some (p2, [])) : pj_kb (.tableswitch dflt lo hi offs) tgt pc (.int x :: t) = some (p2, t) := by
  simp only [pj_kb] at h ⊢
  split at h
  · rename_i h1
    rw [if_pos h1]
    split at h
    · rename_i h2
      cases h
      exact if_pos h2
    · cases h
  · rename_i h1
    rw [if_neg h1]
    cases ho : offs[(x.toInt - lo).toNat]? with
    | none =>
      simp only [ho] at h
      cases h
    | some off =>
      simp only [ho] at h ⊢
      split at h
      · rename_i h2
        cases h
        exact if_pos h2
      · cases h
theorem pj_li0 : (Int32.ofInt 0).toInt = 0 := by decide
theorem pj_li1 : (Int32.ofInt 1).toInt = 1 := by decide
theorem pj_lz0 : (0 : Int32).toInt = 0 := by decide
theorem pj_inc {h n : Int32} (h1 : h.toInt < n.toInt) : (h + Int32.ofInt 1).toInt = h.toInt + 1 := by
  have b1 : n.toInt ≤ 2147483647 := Int32.toInt_le n
  have b2 : (-2147483648 : Int) ≤ h.toInt := Int32.le_toInt h
  rw [Int32.toInt_add, pj_li1]
  exact Int.bmod_eq_of_le (by omega) (by omega)
theorem pj_rcvI {G : pj_G} {a c : Nat} {fs : List Value} {t : List Value} (h : pj_get G a = some (.inr (c, fs))) : pj_rcv 0 c G (.ref a :: t) = true := by
  unfold pj_rcv
  simp only [h, beq_self_eq_true]
/-! THE ROW, by hand -/
theorem pj_gp {G : pj_G} {a : Nat} {c c0 : pj_C} (h : pj_get G a = some c0) : pj_get (pj_put G a c) a = some c := by
  cases a with
  | zero => cases h
  | succ i =>
    have h1 : G.1[i]? = some c0 := h
    have h2 := (List.getElem?_eq_some_iff.mp h1).1
    show (G.1.set i c)[i]? = some c
    rw [List.getElem?_set_self h2]
theorem pj_gn {G : pj_G} {a b : Nat} {c c0 : pj_C} (h : pj_get G a = some c0) (hb : b ≠ a) : pj_get (pj_put G a c) b = pj_get G b := by
  cases a with
  | zero => cases h
  | succ i =>
    cases b with
    | zero => rfl
    | succ j =>
      show (G.1.set i c)[j]? = G.1[j]?
      rw [List.getElem?_set_ne (by omega)]
theorem pj_pp {G : pj_G} {a : Nat} {c c2 : pj_C} : pj_put (pj_put G a c) a c2 = pj_put G a c2 := by
  show ((G.1.set (a - 1) c).set (a - 1) c2, G.2) = (G.1.set (a - 1) c2, G.2)
  rw [List.set_set]
def pj_same (G G' : pj_G) (X : List Nat) : Prop := ∀ b, b ∉ X → pj_get G' b = pj_get G b
theorem pj_same_t {G G1 G2 : pj_G} {X : List Nat} (h1 : pj_same G G1 X) (h2 : pj_same G1 G2 X) : pj_same G G2 X := fun b hb => by rw [h2 b hb, h1 b hb]
section PJQ
variable {C : Nat → pj_F} {n0 : Nat} {xs : Nat → Int32} {M : pj_M} {r : Option Value × pj_G × Nat × Nat} {G : pj_G} {pc mc ms : Nat} {L : pj_L} {S : List Value}
theorem pj_R_al {len : Nat} {inf : List Nat} {z : Int} {a k : Nat} {x : vp_A} (hf : pj_find M.2.2.2.2.2 pc = some (.arraylength, len, inf, z)) (hg : pj_get G a = some (.inl (k, x))) (hk : k < 4) (h2 : pj_R C n0 xs M (G, pc + 1, L, .int (Int32.ofNat x.1) :: S, mc, ms) r) : pj_R C n0 xs M (G, pc, L, .ref a :: S, mc, ms) r := by
  cases a with
  | zero => cases hg
  | succ i =>
    refine pj_R_st (t' := (G, pc + 1, L, .int (Int32.ofNat x.1) :: S, 0, 0)) hf (fun call => ?_) h2
    show (pj_aln n0 G (.ref (i + 1) :: S)).map (fun r => ((G, pc + 1, L, r, 0, 0) : pj_T)) = _
    have e : pj_aln n0 G (.ref (i + 1) :: S) = some (.int (Int32.ofNat x.1) :: S) := by
      show (match pj_get G (i + 1) with
        | some (.inl (k, x)) => if k < 4 then some (Value.int (Int32.ofNat x.1) :: S) else none
        | _ => none) = _
      rw [hg]
      exact if_pos hk
    rw [e]
    rfl
theorem pj_R_la {len : Nat} {inf : List Nat} {z : Int} {a n : Nat} {f : Nat → Int64} {j : Int32} {x : Int64} (hf : pj_find M.2.2.2.2.2 pc = some (.lastore, len, inf, z)) (hg : pj_get G a = some (.inl (1, n, .inr (.inl f)))) (hj : ¬ (j < 0 ∨ n ≤ j.toNatClampNeg)) (h2 : pj_R C n0 xs M (pj_put G a (.inl (1, n, .inr (.inl (vp_updL f j.toNatClampNeg x)))), pc + 1, L, S, mc, ms) r) : pj_R C n0 xs M (G, pc, L, .long x :: .int j :: .ref a :: S, mc, ms) r := by
  refine pj_R_st (t' := (pj_put G a (.inl (1, n, .inr (.inl (vp_updL f j.toNatClampNeg x)))), pc + 1, L, S, 0, 0)) hf (fun call => ?_) h2
  show (pj_asl G (.long x :: .int j :: .ref a :: S)).map (fun r => ((r.1, pc + 1, L, r.2, 0, 0) : pj_T)) = _
  have e : pj_asl G (.long x :: .int j :: .ref a :: S) = some (pj_put G a (.inl (1, n, .inr (.inl (vp_updL f j.toNatClampNeg x)))), S) := by
    unfold pj_asl
    simp only [hg]
    exact if_pos ⟨trivial, hj⟩
  rw [e]
  rfl
theorem pj_R_mx {idx len : Nat} {inf : List Nat} {z : Int} {x y v : Int32} (hf : pj_find M.2.2.2.2.2 pc = some (.invokestatic idx, len, inf, z)) (h10 : 10 = inf.getD 0 0) (hv : (if x < y then y else x) = v) (hS : (S.map Value.category).sum ≤ 8) (h2 : pj_R C n0 xs M (G, pc + 3, L, .int v :: S, mc, ms) r) : pj_R C n0 xs M (G, pc, L, .int y :: .int x :: S, mc, ms) r :=
  pj_R_st (t' := (G, pc + 3, L, .int v :: S, 0, 0)) hf (fun call => by
    show (if inf.getD 0 0 = 7 then (pj_cp G (.int y :: .int x :: S)).map (fun r => ((r.1, pc + 3, L, r.2, 0, 0) : pj_T)) else if 10 ≤ inf.getD 0 0 then (pj_mth (inf.getD 0 0) (.int y :: .int x :: S)).map (fun r => (G, pc + 3, L, r, 0, 0)) else (pj_inv call inf G (.int y :: .int x :: S)).map (fun r => (r.1, pc + 3, L, r.2.1, r.2.2.1, r.2.2.2))) = _
    rw [← h10, if_neg (by decide), if_pos (by decide)]
    show (if (S.map Value.category).sum ≤ 8 then some (Value.int (if x < y then y else x) :: S) else none).map (fun r => ((G, pc + 3, L, r, 0, 0) : pj_T)) = _
    rw [if_pos hS, hv]
    rfl) h2
end PJQ
section PJQ2
variable {C : Nat → pj_F} {xs : Nat → Int32} {M : pj_M} {r : Option Value × pj_G × Nat × Nat} {G : pj_G} {pc mc ms : Nat} {L : pj_L} {S : List Value}
theorem pj_R_mn {n0 idx len : Nat} {inf : List Nat} {z : Int} {x y v : Int32} (hf : pj_find M.2.2.2.2.2 pc = some (.invokestatic idx, len, inf, z)) (h11 : 11 = inf.getD 0 0) (hv : (if y < x then y else x) = v) (hS : (S.map Value.category).sum ≤ 8) (h2 : pj_R C n0 xs M (G, pc + 3, L, .int v :: S, mc, ms) r) : pj_R C n0 xs M (G, pc, L, .int y :: .int x :: S, mc, ms) r :=
  pj_R_st (t' := (G, pc + 3, L, .int v :: S, 0, 0)) hf (fun call => by
    show (if inf.getD 0 0 = 7 then (pj_cp G (.int y :: .int x :: S)).map (fun r => ((r.1, pc + 3, L, r.2, 0, 0) : pj_T)) else if 10 ≤ inf.getD 0 0 then (pj_mth (inf.getD 0 0) (.int y :: .int x :: S)).map (fun r => (G, pc + 3, L, r, 0, 0)) else (pj_inv call inf G (.int y :: .int x :: S)).map (fun r => (r.1, pc + 3, L, r.2.1, r.2.2.1, r.2.2.2))) = _
    rw [← h11, if_neg (by decide), if_pos (by decide)]
    show (if (S.map Value.category).sum ≤ 8 then some (Value.int (if y < x then y else x) :: S) else none).map (fun r => ((G, pc + 3, L, r, 0, 0) : pj_T)) = _
    rw [if_pos hS, hv]
    rfl) h2
theorem pj_R_il {len : Nat} {inf : List Nat} {z : Int} {a n : Nat} {f : Nat → Int32} {j : Int32} (hf : pj_find M.2.2.2.2.2 pc = some (.iaload, len, inf, z)) (hg : pj_get G a = some (.inl (0, n, .inl f))) (hj : ¬ (j < 0 ∨ n ≤ j.toNatClampNeg)) (h2 : pj_R C 0 xs M (G, pc + 1, L, .int (f j.toNatClampNeg) :: S, mc, ms) r) : pj_R C 0 xs M (G, pc, L, .int j :: .ref a :: S, mc, ms) r := by
  refine pj_R_st (t' := (G, pc + 1, L, .int (f j.toNatClampNeg) :: S, 0, 0)) hf (fun call => ?_) h2
  show (match pj_sc 0 xs (.int j :: .ref a :: S) with
    | some r => some (G, pc + 1, L, r, 0, 0)
    | none => (pj_rdi G (.int j :: .ref a :: S)).map (fun r => ((G, pc + 1, L, r, 0, 0) : pj_T))) = _
  rw [pj_sc_0]
  have e : pj_rdi G (.int j :: .ref a :: S) = some (.int (f j.toNatClampNeg) :: S) := by
    unfold pj_rdi
    simp only [hg]
    exact if_pos ⟨trivial, hj⟩
  rw [e]
  rfl
theorem pj_R_is {n0 len : Nat} {inf : List Nat} {z : Int} {a n : Nat} {f : Nat → Int32} {j x : Int32} (hf : pj_find M.2.2.2.2.2 pc = some (.iastore, len, inf, z)) (hg : pj_get G a = some (.inl (0, n, .inl f))) (hj : ¬ (j < 0 ∨ n ≤ j.toNatClampNeg)) (h2 : pj_R C n0 xs M (pj_put G a (.inl (0, n, .inl (upd f j.toNatClampNeg x))), pc + 1, L, S, mc, ms) r) : pj_R C n0 xs M (G, pc, L, .int x :: .int j :: .ref a :: S, mc, ms) r := by
  refine pj_R_st (t' := (pj_put G a (.inl (0, n, .inl (upd f j.toNatClampNeg x))), pc + 1, L, S, 0, 0)) hf (fun call => ?_) h2
  show (pj_asi G (.int x :: .int j :: .ref a :: S)).map (fun r => ((r.1, pc + 1, L, r.2, 0, 0) : pj_T)) = _
  have e : pj_asi G (.int x :: .int j :: .ref a :: S) = some (pj_put G a (.inl (0, n, .inl (upd f j.toNatClampNeg x))), S) := by
    unfold pj_asi
    simp only [hg]
    exact if_pos ⟨trivial, hj⟩
  rw [e]
  rfl
end PJQ2
/-! HOURS of the reference -/
theorem pj_bnd {k : Int32} {n : Nat} (h0 : 0 ≤ k.toInt) (h1 : k.toInt < n) : ¬ (k < 0 ∨ n ≤ k.toNatClampNeg) := by
  rw [Int32.lt_iff_toInt_lt, pj_lz0]
  show ¬ (k.toInt < 0 ∨ n ≤ k.toInt.toNat)
  omega
/-! FOUND, by hand -/
theorem pj_R_bs {C : Nat → pj_F} {n0 : Nat} {xs : Nat → Int32} {M : pj_M} {r : Option Value × pj_G × Nat × Nat} {G : pj_G} {pc mc ms : Nat} {L : pj_L} {S : List Value} {len : Nat} {inf : List Nat} {z : Int} {a n : Nat} {f : Nat → Int32} {j x : Int32} (hf : pj_find M.2.2.2.2.2 pc = some (.bastore, len, inf, z)) (hg : pj_get G a = some (.inl (2, n, .inl f))) (hj : ¬ (j < 0 ∨ n ≤ j.toNatClampNeg)) (h2 : pj_R C n0 xs M (pj_put G a (.inl (2, n, .inl (upd f j.toNatClampNeg (vp_nar .boolean x)))), pc + 1, L, S, mc, ms) r) : pj_R C n0 xs M (G, pc, L, .int x :: .int j :: .ref a :: S, mc, ms) r := by
  refine pj_R_st (t' := (pj_put G a (.inl (2, n, .inl (upd f j.toNatClampNeg (vp_nar .boolean x)))), pc + 1, L, S, 0, 0)) hf (fun call => ?_) h2
  show (pj_asz G (.int x :: .int j :: .ref a :: S)).map (fun r => ((r.1, pc + 1, L, r.2, 0, 0) : pj_T)) = _
  have e : pj_asz G (.int x :: .int j :: .ref a :: S) = some (pj_put G a (.inl (2, n, .inl (upd f j.toNatClampNeg (vp_nar .boolean x)))), S) := by
    unfold pj_asz
    simp only [hg]
    exact if_pos ⟨trivial, hj⟩
  rw [e]
  rfl
