/-! RUNS BY HAND: fuel is told by 'there is some' -/
def pj_mon (C : Nat → pj_F) : Prop := ∀ f g, f ≤ g → pj_sub (C f) (C g)
def pj_E (C : Nat → pj_F) (mi : Nat) (vs : List Value) (G : pj_G) (r : Option Value × pj_G × Nat × Nat) : Prop := ∃ f, C f mi vs G = some r
def pj_R (C : Nat → pj_F) (n0 : Nat) (xs : Nat → Int32) (M : pj_M) (t : pj_T) (r : Option Value × pj_G × Nat × Nat) : Prop := ∃ f n, pj_run (C f) n0 xs M n t = some r
noncomputable def pj_cx (d : Nat) : Nat → pj_F := fun f => pj_exec pj_prog pj_nat f d
theorem pj_cx_mon (d : Nat) : pj_mon (pj_cx d) := fun _ _ h => pj_exec_le h d d (Nat.le_refl _)
theorem pj_lc_mon : pj_mon pj_lc := fun _ _ h => pj_lc_le h
theorem pj_E_up {d k mi : Nat} {vs : List Value} {G : pj_G} {r : Option Value × pj_G × Nat × Nat} (hd : d ≤ k) (h : pj_E (pj_cx d) mi vs G r) : pj_E (pj_cx k) mi vs G r := by
  obtain ⟨f, h⟩ := h
  exact ⟨f, pj_exec_le (Nat.le_refl f) d k hd _ _ _ _ h⟩
theorem pj_E_lc {d mi : Nat} {vs : List Value} {G : pj_G} {r : Option Value × pj_G × Nat × Nat} (hd : d ≤ 1000) (hm : mi < 1000) (h : pj_E (pj_cx d) mi vs G r) : pj_E pj_lc mi vs G r := by
  obtain ⟨f, h⟩ := h
  exact ⟨f, pj_lc_of (Nat.le_refl f) hd hm h⟩
theorem pj_E_R {d mi : Nat} {M : pj_M} {q : pj_I} {qs : List pj_I} {vs : List Value} {G : pj_G} {r : Option Value × pj_G × Nat × Nat} (hM : pj_prog[mi]? = some M) (hq : M.2.2.2.2.2 = q :: qs) (hl : (lg_sl vs).length ≤ M.2.2.1) (h : pj_R (pj_cx d) 0 pj_x0 M (G, 0, lv_args 0 vs, [], 0, 0) r) : pj_E (pj_cx (d + 1)) mi vs G r := by
  obtain ⟨f, n, h⟩ := h
  refine ⟨f + n, ?_⟩
  show (match pj_prog[mi]? with
    | none => none
    | some M => (match M.2.2.2.2.2 with
      | [] => if 12 ≤ d then pj_nat mi vs G else none
      | _ :: _ => if (lg_sl vs).length ≤ M.2.2.1 then pj_run (pj_exec pj_prog pj_nat (f + n) d) 0 pj_x0 M (f + n) (G, 0, lv_args 0 vs, [], 0, 0) else none)) = some r
  rw [hM]
  show (match M.2.2.2.2.2 with
      | [] => if 12 ≤ d then pj_nat mi vs G else none
      | _ :: _ => if (lg_sl vs).length ≤ M.2.2.1 then pj_run (pj_exec pj_prog pj_nat (f + n) d) 0 pj_x0 M (f + n) (G, 0, lv_args 0 vs, [], 0, 0) else none) = some r
  rw [hq]
  show (if (lg_sl vs).length ≤ M.2.2.1 then pj_run (pj_exec pj_prog pj_nat (f + n) d) 0 pj_x0 M (f + n) (G, 0, lv_args 0 vs, [], 0, 0) else none) = some r
  rw [if_pos hl]
  exact pj_run_le (pj_exec_le (Nat.le_add_right f n) d d (Nat.le_refl d)) (Or.inl ⟨rfl, rfl⟩) n (f + n) _ _ (Nat.le_add_left n f) h
section PJR
variable {C : Nat → pj_F} {n0 : Nat} {xs : Nat → Int32} {M : pj_M} {r : Option Value × pj_G × Nat × Nat} {G : pj_G} {pc mc ms : Nat} {L : pj_L} {S : List Value}
theorem pj_R_to {t : pj_T} (t' : pj_T) (tp n : Nat) (h : ∀ call, pj_to call n0 xs M tp n t = some t') (h2 : pj_R C n0 xs M t' r) : pj_R C n0 xs M t r := by
  obtain ⟨f, k, hk⟩ := h2
  exact ⟨f, n + k, pj_to_run n k t t' r (h (C f)) hk⟩
theorem pj_R_st {q : Instr × Nat × List Nat × Int} {t' : pj_T} (hf : pj_find M.2.2.2.2.2 pc = some q) (hs : ∀ call, pj_s call n0 xs M.2.2.1 q.2.2.1 q.2.2.2 q.1 pc G L S = some t') (h2 : pj_R C n0 xs M (t'.1, t'.2.1, t'.2.2.1, t'.2.2.2.1, mc + t'.2.2.2.2.1, ms + t'.2.2.2.2.2) r) : pj_R C n0 xs M (G, pc, L, S, mc, ms) r := by
  obtain ⟨f, n, h⟩ := h2
  refine ⟨f, n + 1, ?_⟩
  rw [pj_run_s]
  unfold pj_one
  show (match pj_find M.2.2.2.2.2 pc with
    | none => none
    | some q => (match pj_rt M.2.2.2.1 q.1 S with
      | some v => some (v, G, mc, ms)
      | none => (match pj_s (C f) n0 xs M.2.2.1 q.2.2.1 q.2.2.2 q.1 pc G L S with
        | none => none
        | some r => pj_run (C f) n0 xs M n (r.1, r.2.1, r.2.2.1, r.2.2.2.1, mc + r.2.2.2.2.1, ms + r.2.2.2.2.2)))) = some r
  rw [hf]
  show (match pj_rt M.2.2.2.1 q.1 S with
      | some v => some (v, G, mc, ms)
      | none => (match pj_s (C f) n0 xs M.2.2.1 q.2.2.1 q.2.2.2 q.1 pc G L S with
        | none => none
        | some r => pj_run (C f) n0 xs M n (r.1, r.2.1, r.2.2.1, r.2.2.2.1, mc + r.2.2.2.2.1, ms + r.2.2.2.2.2))) = some r
  rw [pj_rt_s (hs (C f)), hs (C f)]
  exact h
theorem pj_R_rt {q : Instr × Nat × List Nat × Int} {v : Option Value} (hf : pj_find M.2.2.2.2.2 pc = some q) (hr : pj_rt M.2.2.2.1 q.1 S = some v) : pj_R C n0 xs M (G, pc, L, S, mc, ms) (v, G, mc, ms) := by
  refine ⟨0, 1, ?_⟩
  rw [pj_run_s]
  unfold pj_one
  show (match pj_find M.2.2.2.2.2 pc with
    | none => none
    | some q => (match pj_rt M.2.2.2.1 q.1 S with
      | some v => some (v, G, mc, ms)
      | none => (match pj_s (C 0) n0 xs M.2.2.1 q.2.2.1 q.2.2.2 q.1 pc G L S with
        | none => none
        | some r => pj_run (C 0) n0 xs M 0 (r.1, r.2.1, r.2.2.1, r.2.2.2.1, mc + r.2.2.2.2.1, ms + r.2.2.2.2.2)))) = _
  rw [hf]
  show (match pj_rt M.2.2.2.1 q.1 S with
      | some v => some (v, G, mc, ms)
      | none => (match pj_s (C 0) n0 xs M.2.2.1 q.2.2.1 q.2.2.2 q.1 pc G L S with
        | none => none
        | some r => pj_run (C 0) n0 xs M 0 (r.1, r.2.1, r.2.2.1, r.2.2.2.1, mc + r.2.2.2.2.1, ms + r.2.2.2.2.2))) = _
  rw [hr]
theorem pj_R_ca (hC : pj_mon C) {i : Instr} {len : Nat} {inf : List Nat} {z : Int} {v : Option Value} {G' : pj_G} {dc ds : Nat} {S2 vs : List Value} {mi : Nat} (hf : pj_find M.2.2.2.2.2 pc = some (i, len, inf, z)) (hs : ∀ call, pj_s call n0 xs M.2.2.1 inf z i pc G L S = (pj_inv call inf G S).map (fun r => (r.1, pc + 3, L, r.2.1, r.2.2.1, r.2.2.2))) (hg : inf.getD 1 0 ≤ S.length ∧ ((S.drop (inf.getD 1 0)).map Value.category).sum ≤ 8 ∧ pj_rcv (inf.getD 0 0) (inf.getD 3 0) G (S.take (inf.getD 1 0)).reverse = true) (hv : mi = inf.getD 2 0 ∧ vs = (S.take (inf.getD 1 0)).reverse ∧ S2 = v.toList ++ S.drop (inf.getD 1 0)) (hE : pj_E C mi vs G (v, G', dc, ds)) (h2 : pj_R C n0 xs M (G', pc + 3, L, S2, mc + dc, ms + ds) r) : pj_R C n0 xs M (G, pc, L, S, mc, ms) r := by
  obtain ⟨f1, h1⟩ := hE
  obtain ⟨f2, n, h2⟩ := h2
  obtain ⟨rfl, rfl, rfl⟩ := hv
  refine ⟨f1 + f2, n + 1, ?_⟩
  have k1 := hC f1 (f1 + f2) (Nat.le_add_right _ _) _ _ _ _ h1
  have k2 := pj_run_le (hC f2 (f1 + f2) (Nat.le_add_left _ _)) (Or.inl ⟨rfl, rfl⟩) n n _ _ (Nat.le_refl n) h2
  have k3 : pj_s (C (f1 + f2)) n0 xs M.2.2.1 inf z i pc G L S = some (G', pc + 3, L, v.toList ++ S.drop (inf.getD 1 0), dc, ds) := by
    rw [hs]
    unfold pj_inv
    rw [if_pos hg, k1]
    rfl
  rw [pj_run_s]
  unfold pj_one
  show (match pj_find M.2.2.2.2.2 pc with
    | none => none
    | some q => (match pj_rt M.2.2.2.1 q.1 S with
      | some v => some (v, G, mc, ms)
      | none => (match pj_s (C (f1 + f2)) n0 xs M.2.2.1 q.2.2.1 q.2.2.2 q.1 pc G L S with
        | none => none
        | some r => pj_run (C (f1 + f2)) n0 xs M n (r.1, r.2.1, r.2.2.1, r.2.2.2.1, mc + r.2.2.2.2.1, ms + r.2.2.2.2.2)))) = some r
  rw [hf]
  show (match pj_rt M.2.2.2.1 i S with
      | some v => some (v, G, mc, ms)
      | none => (match pj_s (C (f1 + f2)) n0 xs M.2.2.1 inf z i pc G L S with
        | none => none
        | some r => pj_run (C (f1 + f2)) n0 xs M n (r.1, r.2.1, r.2.2.1, r.2.2.2.1, mc + r.2.2.2.2.1, ms + r.2.2.2.2.2))) = some r
  rw [pj_rt_s k3, k3]
  exact k2
theorem pj_R_icT {cd : Jvm.ClassFile.Cond} {off : Int} {len : Nat} {inf : List Nat} {z : Int} {x y : Int32} (tgt : Nat) (hf : pj_find M.2.2.2.2.2 pc = some (.if_icmp cd off, len, inf, z)) (ht : inf.getD 0 0 = tgt) (hb : pj_c1 cd x y = true) (h2 : pj_R C n0 xs M (G, tgt, L, S, mc, ms) r) : pj_R C n0 xs M (G, pc, L, .int y :: .int x :: S, mc, ms) r :=
  pj_R_st (t' := (G, tgt, L, S, 0, 0)) hf (fun call => by
    show (some ((if pj_c1 cd x y = true then inf.getD 0 0 else pc + 3, S) : Nat × List Value)).map (fun r => ((G, r.1, L, r.2, 0, 0) : pj_T)) = _
    rw [if_pos hb, ht]
    rfl) h2
theorem pj_R_icF {cd : Jvm.ClassFile.Cond} {off : Int} {len : Nat} {inf : List Nat} {z : Int} {x y : Int32} (hf : pj_find M.2.2.2.2.2 pc = some (.if_icmp cd off, len, inf, z)) (hb : pj_c1 cd x y = false) (h2 : pj_R C n0 xs M (G, pc + 3, L, S, mc, ms) r) : pj_R C n0 xs M (G, pc, L, .int y :: .int x :: S, mc, ms) r :=
  pj_R_st (t' := (G, pc + 3, L, S, 0, 0)) hf (fun call => by
    show (some ((if pj_c1 cd x y = true then inf.getD 0 0 else pc + 3, S) : Nat × List Value)).map (fun r => ((G, r.1, L, r.2, 0, 0) : pj_T)) = _
    rw [if_neg (by rw [hb]; decide)]
    rfl) h2
theorem pj_R_ifT {cd : Jvm.ClassFile.Cond} {off : Int} {len : Nat} {inf : List Nat} {z : Int} {x : Int32} (tgt : Nat) (hf : pj_find M.2.2.2.2.2 pc = some (.ifCond cd off, len, inf, z)) (ht : inf.getD 0 0 = tgt) (hb : pj_c1 cd x 0 = true) (h2 : pj_R C n0 xs M (G, tgt, L, S, mc, ms) r) : pj_R C n0 xs M (G, pc, L, .int x :: S, mc, ms) r :=
  pj_R_st (t' := (G, tgt, L, S, 0, 0)) hf (fun call => by
    show (some ((if pj_c1 cd x 0 = true then inf.getD 0 0 else pc + 3, S) : Nat × List Value)).map (fun r => ((G, r.1, L, r.2, 0, 0) : pj_T)) = _
    rw [if_pos hb, ht]
    rfl) h2
theorem pj_R_ifF {cd : Jvm.ClassFile.Cond} {off : Int} {len : Nat} {inf : List Nat} {z : Int} {x : Int32} (hf : pj_find M.2.2.2.2.2 pc = some (.ifCond cd off, len, inf, z)) (hb : pj_c1 cd x 0 = false) (h2 : pj_R C n0 xs M (G, pc + 3, L, S, mc, ms) r) : pj_R C n0 xs M (G, pc, L, .int x :: S, mc, ms) r :=
  pj_R_st (t' := (G, pc + 3, L, S, 0, 0)) hf (fun call => by
    show (some ((if pj_c1 cd x 0 = true then inf.getD 0 0 else pc + 3, S) : Nat × List Value)).map (fun r => ((G, r.1, L, r.2, 0, 0) : pj_T)) = _
    rw [if_neg (by rw [hb]; decide)]
    rfl) h2
theorem pj_R_dv {len : Nat} {inf : List Nat} {z : Int} {x y : Int32} (hf : pj_find M.2.2.2.2.2 pc = some (.idiv, len, inf, z)) (hy : ¬ y = 0) (h2 : pj_R C n0 xs M (G, pc + 1, L, .int (x / y) :: S, mc, ms) r) : pj_R C n0 xs M (G, pc, L, .int y :: .int x :: S, mc, ms) r :=
  pj_R_st (t' := (G, pc + 1, L, .int (x / y) :: S, 0, 0)) hf (fun call => by
    show (if y = 0 then none else some (Value.int (x / y) :: S)).map (fun r => ((G, pc + 1, L, r, 0, 0) : pj_T)) = _
    rw [if_neg hy]
    rfl) h2
theorem pj_R_rm {len : Nat} {inf : List Nat} {z : Int} {x y : Int32} (hf : pj_find M.2.2.2.2.2 pc = some (.irem, len, inf, z)) (hy : ¬ y = 0) (h2 : pj_R C n0 xs M (G, pc + 1, L, .int (x - x / y * y) :: S, mc, ms) r) : pj_R C n0 xs M (G, pc, L, .int y :: .int x :: S, mc, ms) r :=
  pj_R_st (t' := (G, pc + 1, L, .int (x - x / y * y) :: S, 0, 0)) hf (fun call => by
    show (if y = 0 then none else some (Value.int (x - x / y * y) :: S)).map (fun r => ((G, pc + 1, L, r, 0, 0) : pj_T)) = _
    rw [if_neg hy]
    rfl) h2
theorem pj_R_gf {idx len : Nat} {inf : List Nat} {z : Int} {a : Nat} {fs : List Value} {v : Value} (hf : pj_find M.2.2.2.2.2 pc = some (.getfield idx, len, inf, z)) (hg : pj_get G a = some (.inr (inf.getD 0 0, fs))) (hk : fs[inf.getD 1 0]? = some v) (h2 : pj_R C n0 xs M (G, pc + 3, L, v :: S, mc, ms) r) : pj_R C n0 xs M (G, pc, L, .ref a :: S, mc, ms) r :=
  pj_R_st (t' := (G, pc + 3, L, v :: S, 0, 0)) hf (fun call => by
    show (pj_gf (inf.getD 0 0) (inf.getD 1 0) G (.ref a :: S)).map (fun r => ((G, pc + 3, L, r, 0, 0) : pj_T)) = _
    have e : pj_gf (inf.getD 0 0) (inf.getD 1 0) G (.ref a :: S) = some (v :: S) := by
      unfold pj_gf
      simp only [hg, hk, if_true]
    rw [e]
    rfl) h2
theorem pj_R_pf {idx len : Nat} {inf : List Nat} {z : Int} {a : Nat} {fs : List Value} {v : Value} (hf : pj_find M.2.2.2.2.2 pc = some (.putfield idx, len, inf, z)) (hg : pj_get G a = some (.inr (inf.getD 0 0, fs))) (hk : inf.getD 1 0 < fs.length) (hfit : pj_fit (pj_ft (inf.getD 0 0) (inf.getD 1 0)) v = true) (h2 : pj_R C n0 xs M (pj_put G a (.inr (inf.getD 0 0, fs.set (inf.getD 1 0) v)), pc + 3, L, S, mc, ms) r) : pj_R C n0 xs M (G, pc, L, v :: .ref a :: S, mc, ms) r :=
  pj_R_st (t' := (pj_put G a (.inr (inf.getD 0 0, fs.set (inf.getD 1 0) v)), pc + 3, L, S, 0, 0)) hf (fun call => by
    show (pj_pf (inf.getD 0 0) (inf.getD 1 0) G (v :: .ref a :: S)).map (fun r => ((r.1, pc + 3, L, r.2, 0, 0) : pj_T)) = _
    have e : pj_pf (inf.getD 0 0) (inf.getD 1 0) G (v :: .ref a :: S) = some (pj_put G a (.inr (inf.getD 0 0, fs.set (inf.getD 1 0) v)), S) := by
      unfold pj_pf
      simp only [hg]
      rw [if_pos ⟨trivial, hk, hfit⟩]
    rw [e]
    rfl) h2
end PJR
