/-! PRICES of the reference -/
theorem pj_inn_bd (ok : Int32 → Int32 → Bool) (i : Int32) : ∀ (d : Nat) (j n : Int32), 0 ≤ n.toInt → n.toInt + d ≤ 1000 → 0 ≤ (pj_inn ok i d j n).toInt ∧ (pj_inn ok i d j n).toInt ≤ n.toInt + d
  | 0, j, n, h0, hd => ⟨h0, by show n.toInt ≤ _; omega⟩
  | d + 1, j, n, h0, hd => by
    show 0 ≤ (pj_inn ok i d (j + Int32.ofInt 1) (match ok i j with
      | true => n + Int32.ofInt 1
      | false => n)).toInt ∧ (pj_inn ok i d (j + Int32.ofInt 1) (match ok i j with
      | true => n + Int32.ofInt 1
      | false => n)).toInt ≤ _
    cases ok i j with
    | true =>
      have e : (n + Int32.ofInt 1).toInt = n.toInt + 1 := pj_inc (n := Int32.ofInt 2000) (by
        have : (Int32.ofInt 2000).toInt = 2000 := by decide
        omega)
      have k := pj_inn_bd ok i d (j + Int32.ofInt 1) (n + Int32.ofInt 1) (by omega) (by omega)
      dsimp only
      omega
    | false =>
      have k := pj_inn_bd ok i d (j + Int32.ofInt 1) n (by omega) (by omega)
      dsimp only
      omega
/-- what the loops keep of the reference's object -/
def pj_md (G : pj_G) (a rw_ : Nat) (c0 : pj_C) (fs : List Value) (n : Int32) : Prop := pj_get G a = some c0 ∧ fs.length = 60 ∧ fs[2]? = some (.ref rw_) ∧ (∃ f, pj_get G rw_ = some (.inl (1, 24, .inr (.inl f)))) ∧ ∃ s, fs[1]? = some (.int s) ∧ (n = 0 → s = Int32.ofInt 0)
theorem pj_rsM_in (a rw_ : Nat) (c0 : pj_C) (hne : rw_ ≠ a) (c i : Int32) : ∀ (d : Nat) (j n : Int32) (G : pj_G) (fs : List Value), 10 - j.toInt = (d : Nat) → 0 ≤ n.toInt → n.toInt + d ≤ 1000 → pj_md G a rw_ c0 fs n → ∃ (G' : pj_G) (fs' : List Value) (j' : Int32), pj_md G' a rw_ c0 fs' (pj_inn (pj_okMr c) i d j n) ∧ ∀ r, pj_R (pj_cx 2) 0 pj_x0 pj_m276 (pj_ob G' a fs', 28, [(3, .int (i + Int32.ofInt 1)), (4, .int j'), (2, .int (pj_inn (pj_okMr c) i d j n)), (0, .ref a), (1, .int c)], [], 0, 0) r → pj_R (pj_cx 2) 0 pj_x0 pj_m276 (pj_ob G a fs, 37, [(4, .int j), (3, .int i), (2, .int n), (0, .ref a), (1, .int c)], [], 0, 0) r ∧ pj_R (pj_cx 2) 0 pj_x0 pj_m276 (pj_ob G a fs, 37, [(4, .int j), (2, .int n), (3, .int i), (0, .ref a), (1, .int c)], [], 0, 0) r
  | 0, j, n, G, fs, hd, h0, hb, hm => by
    refine ⟨G, fs, j, hm, fun r h => ⟨?_, ?_⟩⟩
    · refine pj_R_to (pj_ob G a fs, 41, [(4, .int j), (3, .int i), (2, .int n), (0, .ref a), (1, .int c)], [.int ((Int8.ofInt 9).toInt32), .int j], 0, 0) 41 3 (fun _ => rfl) ?_
      refine pj_R_icT 90 rfl rfl (pj_gt9T hd) ?_
      refine pj_R_to (pj_ob G a fs, 28, [(3, .int (i + Int32.ofInt 1)), (4, .int j), (2, .int n), (0, .ref a), (1, .int c)], [], 0, 0) 28 3 (fun _ => rfl) ?_
      exact h
    · refine pj_R_to (pj_ob G a fs, 41, [(4, .int j), (2, .int n), (3, .int i), (0, .ref a), (1, .int c)], [.int ((Int8.ofInt 9).toInt32), .int j], 0, 0) 41 3 (fun _ => rfl) ?_
      refine pj_R_icT 90 rfl rfl (pj_gt9T hd) ?_
      refine pj_R_to (pj_ob G a fs, 28, [(3, .int (i + Int32.ofInt 1)), (4, .int j), (2, .int n), (0, .ref a), (1, .int c)], [], 0, 0) 28 3 (fun _ => rfl) ?_
      exact h
  | d + 1, j, n, G, fs, hd, h0, hb, hm => by
    have ih := fun n G fs h0 hb hm => pj_rsM_in a rw_ c0 hne c i d (j + Int32.ofInt 1) n G fs (pj_nx9 hd) h0 hb hm
    show ∃ (G' : pj_G) (fs' : List Value) (j' : Int32), pj_md G' a rw_ c0 fs' (pj_inn (pj_okMr c) i d (j + Int32.ofInt 1) (match pj_okMr c i j with | true => n + Int32.ofInt 1 | false => n)) ∧ ∀ r, pj_R (pj_cx 2) 0 pj_x0 pj_m276 (pj_ob G' a fs', 28, [(3, .int (i + Int32.ofInt 1)), (4, .int j'), (2, .int (pj_inn (pj_okMr c) i d (j + Int32.ofInt 1) (match pj_okMr c i j with | true => n + Int32.ofInt 1 | false => n))), (0, .ref a), (1, .int c)], [], 0, 0) r → _
    cases h1 : pj_ir i j c 9 (Int32.ofInt 1) true with
    | false =>
      have e : pj_okMr c i j = false := by
        unfold pj_okMr
        rw [h1, Bool.false_and]
      rw [e]
      obtain ⟨G', fs', j', k1, k3⟩ := ih n G fs h0 (by omega) hm
      refine ⟨G', fs', j', k1, fun r h => ⟨?_, ?_⟩⟩
      · refine pj_R_to (pj_ob G a fs, 41, [(4, .int j), (3, .int i), (2, .int n), (0, .ref a), (1, .int c)], [.int ((Int8.ofInt 9).toInt32), .int j], 0, 0) 41 3 (fun _ => rfl) ?_
        refine pj_R_icF rfl (pj_gt9F hd) ?_
        refine pj_R_to (pj_ob G a fs, 48, [(4, .int j), (3, .int i), (2, .int n), (0, .ref a), (1, .int c)], [.int c, .int j, .int i], 0, 0) 48 4 (fun _ => rfl) ?_
        refine pj_R_ca (pj_cx_mon _) (vs := [.int i, .int j, .int c]) (S2 := [.int (pj_b2 false)]) rfl (fun _ => rfl) ⟨Nat.le_of_ble_eq_true rfl, Nat.le_of_ble_eq_true rfl, rfl⟩ ⟨rfl, rfl, rfl⟩ (by have e := pj_isRestE (pj_ob G a fs) i j c; rw [h1] at e; exact e) ?_
        show pj_R _ _ _ _ (pj_ob G a fs, 51, [(4, .int j), (3, .int i), (2, .int n), (0, .ref a), (1, .int c)], [.int (pj_b2 false)], 0, 0) _
        refine pj_R_ifT 84 rfl rfl (by decide) ?_
        refine pj_R_to (pj_ob G a fs, 37, [(4, .int (j + Int32.ofInt 1)), (3, .int i), (2, .int n), (0, .ref a), (1, .int c)], [], 0, 0) 37 3 (fun _ => rfl) ?_
        exact (k3 r h).1
      · refine pj_R_to (pj_ob G a fs, 41, [(4, .int j), (2, .int n), (3, .int i), (0, .ref a), (1, .int c)], [.int ((Int8.ofInt 9).toInt32), .int j], 0, 0) 41 3 (fun _ => rfl) ?_
        refine pj_R_icF rfl (pj_gt9F hd) ?_
        refine pj_R_to (pj_ob G a fs, 48, [(4, .int j), (2, .int n), (3, .int i), (0, .ref a), (1, .int c)], [.int c, .int j, .int i], 0, 0) 48 4 (fun _ => rfl) ?_
        refine pj_R_ca (pj_cx_mon _) (vs := [.int i, .int j, .int c]) (S2 := [.int (pj_b2 false)]) rfl (fun _ => rfl) ⟨Nat.le_of_ble_eq_true rfl, Nat.le_of_ble_eq_true rfl, rfl⟩ ⟨rfl, rfl, rfl⟩ (by have e := pj_isRestE (pj_ob G a fs) i j c; rw [h1] at e; exact e) ?_
        show pj_R _ _ _ _ (pj_ob G a fs, 51, [(4, .int j), (2, .int n), (3, .int i), (0, .ref a), (1, .int c)], [.int (pj_b2 false)], 0, 0) _
        refine pj_R_ifT 84 rfl rfl (by decide) ?_
        refine pj_R_to (pj_ob G a fs, 37, [(4, .int (j + Int32.ofInt 1)), (2, .int n), (3, .int i), (0, .ref a), (1, .int c)], [], 0, 0) 37 3 (fun _ => rfl) ?_
        exact (k3 r h).2
    | true =>
      cases h2 : pj_ir j i c 9 (Int32.ofInt 1) true with
      | false =>
        have e : pj_okMr c i j = false := by
          unfold pj_okMr
          rw [h1, h2, Bool.and_false]
        rw [e]
        obtain ⟨G', fs', j', k1, k3⟩ := ih n G fs h0 (by omega) hm
        refine ⟨G', fs', j', k1, fun r h => ⟨?_, ?_⟩⟩
        · refine pj_R_to (pj_ob G a fs, 41, [(4, .int j), (3, .int i), (2, .int n), (0, .ref a), (1, .int c)], [.int ((Int8.ofInt 9).toInt32), .int j], 0, 0) 41 3 (fun _ => rfl) ?_
          refine pj_R_icF rfl (pj_gt9F hd) ?_
          refine pj_R_to (pj_ob G a fs, 48, [(4, .int j), (3, .int i), (2, .int n), (0, .ref a), (1, .int c)], [.int c, .int j, .int i], 0, 0) 48 4 (fun _ => rfl) ?_
          refine pj_R_ca (pj_cx_mon _) (vs := [.int i, .int j, .int c]) (S2 := [.int (pj_b2 true)]) rfl (fun _ => rfl) ⟨Nat.le_of_ble_eq_true rfl, Nat.le_of_ble_eq_true rfl, rfl⟩ ⟨rfl, rfl, rfl⟩ (by have e := pj_isRestE (pj_ob G a fs) i j c; rw [h1] at e; exact e) ?_
          show pj_R _ _ _ _ (pj_ob G a fs, 51, [(4, .int j), (3, .int i), (2, .int n), (0, .ref a), (1, .int c)], [.int (pj_b2 true)], 0, 0) _
          refine pj_R_ifF rfl (by decide) ?_
          refine pj_R_to (pj_ob G a fs, 58, [(4, .int j), (3, .int i), (2, .int n), (0, .ref a), (1, .int c)], [.int c, .int i, .int j], 0, 0) 58 4 (fun _ => rfl) ?_
          refine pj_R_ca (pj_cx_mon _) (vs := [.int j, .int i, .int c]) (S2 := [.int (pj_b2 false)]) rfl (fun _ => rfl) ⟨Nat.le_of_ble_eq_true rfl, Nat.le_of_ble_eq_true rfl, rfl⟩ ⟨rfl, rfl, rfl⟩ (by have e := pj_isRestE (pj_ob G a fs) j i c; rw [h2] at e; exact e) ?_
          show pj_R _ _ _ _ (pj_ob G a fs, 61, [(4, .int j), (3, .int i), (2, .int n), (0, .ref a), (1, .int c)], [.int (pj_b2 false)], 0, 0) _
          refine pj_R_ifT 84 rfl rfl (by decide) ?_
          refine pj_R_to (pj_ob G a fs, 37, [(4, .int (j + Int32.ofInt 1)), (3, .int i), (2, .int n), (0, .ref a), (1, .int c)], [], 0, 0) 37 3 (fun _ => rfl) ?_
          exact (k3 r h).1
        · refine pj_R_to (pj_ob G a fs, 41, [(4, .int j), (2, .int n), (3, .int i), (0, .ref a), (1, .int c)], [.int ((Int8.ofInt 9).toInt32), .int j], 0, 0) 41 3 (fun _ => rfl) ?_
          refine pj_R_icF rfl (pj_gt9F hd) ?_
          refine pj_R_to (pj_ob G a fs, 48, [(4, .int j), (2, .int n), (3, .int i), (0, .ref a), (1, .int c)], [.int c, .int j, .int i], 0, 0) 48 4 (fun _ => rfl) ?_
          refine pj_R_ca (pj_cx_mon _) (vs := [.int i, .int j, .int c]) (S2 := [.int (pj_b2 true)]) rfl (fun _ => rfl) ⟨Nat.le_of_ble_eq_true rfl, Nat.le_of_ble_eq_true rfl, rfl⟩ ⟨rfl, rfl, rfl⟩ (by have e := pj_isRestE (pj_ob G a fs) i j c; rw [h1] at e; exact e) ?_
          show pj_R _ _ _ _ (pj_ob G a fs, 51, [(4, .int j), (2, .int n), (3, .int i), (0, .ref a), (1, .int c)], [.int (pj_b2 true)], 0, 0) _
          refine pj_R_ifF rfl (by decide) ?_
          refine pj_R_to (pj_ob G a fs, 58, [(4, .int j), (2, .int n), (3, .int i), (0, .ref a), (1, .int c)], [.int c, .int i, .int j], 0, 0) 58 4 (fun _ => rfl) ?_
          refine pj_R_ca (pj_cx_mon _) (vs := [.int j, .int i, .int c]) (S2 := [.int (pj_b2 false)]) rfl (fun _ => rfl) ⟨Nat.le_of_ble_eq_true rfl, Nat.le_of_ble_eq_true rfl, rfl⟩ ⟨rfl, rfl, rfl⟩ (by have e := pj_isRestE (pj_ob G a fs) j i c; rw [h2] at e; exact e) ?_
          show pj_R _ _ _ _ (pj_ob G a fs, 61, [(4, .int j), (2, .int n), (3, .int i), (0, .ref a), (1, .int c)], [.int (pj_b2 false)], 0, 0) _
          refine pj_R_ifT 84 rfl rfl (by decide) ?_
          refine pj_R_to (pj_ob G a fs, 37, [(4, .int (j + Int32.ofInt 1)), (2, .int n), (3, .int i), (0, .ref a), (1, .int c)], [], 0, 0) 37 3 (fun _ => rfl) ?_
          exact (k3 r h).2
      | true =>
        have e : pj_okMr c i j = true := by
          unfold pj_okMr
          rw [h1, h2, Bool.and_true]
        rw [e]
        have en : (n + Int32.ofInt 1).toInt = n.toInt + 1 := pj_inc (n := Int32.ofInt 2000) (by
          have : (Int32.ofInt 2000).toInt = 2000 := by decide
          omega)
        have en0 : ¬ n + Int32.ofInt 1 = 0 := fun z => by
          rw [z, pj_lz0] at en
          omega
        obtain ⟨hc, hl, hf2, ⟨f, hr⟩, s, hs, hs0⟩ := hm
        by_cases hn : n = 0
        · have e0 := hs0 hn
          subst e0
          obtain ⟨G1, f1, e1, hc1, hr1⟩ := pj_entersE hc hl hne hr hf2 (Int32.ofInt 0) hs (by decide) i.toInt64
          have l1 : (fs.set 1 (.int (Int32.ofInt 0 + Int32.ofInt 1))).length = 60 := by rw [List.length_set, hl]
          obtain ⟨G2, f2, e2, hc2, hr2⟩ := pj_entersE hc1 l1 hne hr1 (by rw [List.getElem?_set_ne (by decide), hf2]) (Int32.ofInt 0 + Int32.ofInt 1) (by rw [List.getElem?_set_self (by rw [hl]; decide)]) (by decide) j.toInt64
          rw [List.set_set] at e2
          obtain ⟨G', fs', j', k1, k3⟩ := ih (n + Int32.ofInt 1) G2 (fs.set 1 (.int (Int32.ofInt 0 + Int32.ofInt 1 + Int32.ofInt 1))) (by omega) (by omega) ⟨hc2, by rw [List.length_set, hl], by rw [List.getElem?_set_ne (by decide), hf2], ⟨f2, hr2⟩, _, by rw [List.getElem?_set_self (by rw [hl]; decide)], fun z => absurd z en0⟩
          refine ⟨G', fs', j', k1, fun r h => ⟨?_, ?_⟩⟩
          · refine pj_R_to (pj_ob G a fs, 41, [(4, .int j), (3, .int i), (2, .int n), (0, .ref a), (1, .int c)], [.int ((Int8.ofInt 9).toInt32), .int j], 0, 0) 41 3 (fun _ => rfl) ?_
            refine pj_R_icF rfl (pj_gt9F hd) ?_
            refine pj_R_to (pj_ob G a fs, 48, [(4, .int j), (3, .int i), (2, .int n), (0, .ref a), (1, .int c)], [.int c, .int j, .int i], 0, 0) 48 4 (fun _ => rfl) ?_
            refine pj_R_ca (pj_cx_mon _) (vs := [.int i, .int j, .int c]) (S2 := [.int (pj_b2 true)]) rfl (fun _ => rfl) ⟨Nat.le_of_ble_eq_true rfl, Nat.le_of_ble_eq_true rfl, rfl⟩ ⟨rfl, rfl, rfl⟩ (by have e := pj_isRestE (pj_ob G a fs) i j c; rw [h1] at e; exact e) ?_
            show pj_R _ _ _ _ (pj_ob G a fs, 51, [(4, .int j), (3, .int i), (2, .int n), (0, .ref a), (1, .int c)], [.int (pj_b2 true)], 0, 0) _
            refine pj_R_ifF rfl (by decide) ?_
            refine pj_R_to (pj_ob G a fs, 58, [(4, .int j), (3, .int i), (2, .int n), (0, .ref a), (1, .int c)], [.int c, .int i, .int j], 0, 0) 58 4 (fun _ => rfl) ?_
            refine pj_R_ca (pj_cx_mon _) (vs := [.int j, .int i, .int c]) (S2 := [.int (pj_b2 true)]) rfl (fun _ => rfl) ⟨Nat.le_of_ble_eq_true rfl, Nat.le_of_ble_eq_true rfl, rfl⟩ ⟨rfl, rfl, rfl⟩ (by have e := pj_isRestE (pj_ob G a fs) j i c; rw [h2] at e; exact e) ?_
            show pj_R _ _ _ _ (pj_ob G a fs, 61, [(4, .int j), (3, .int i), (2, .int n), (0, .ref a), (1, .int c)], [.int (pj_b2 true)], 0, 0) _
            refine pj_R_ifF rfl (by decide) ?_
            refine pj_R_to (pj_ob G a fs, 65, [(4, .int j), (3, .int i), (2, .int n), (0, .ref a), (1, .int c)], [.int n], 0, 0) 65 2 (fun _ => rfl) ?_
            refine pj_R_ifF rfl (decide_eq_false (fun z => z hn)) ?_
            refine pj_R_to (pj_ob G a fs, 71, [(4, .int j), (3, .int i), (2, .int n), (0, .ref a), (1, .int c)], [.long i.toInt64, .ref a], 0, 0) 71 4 (fun _ => rfl) ?_
            refine pj_R_ca (pj_cx_mon _) (vs := [.ref a, .long i.toInt64]) (S2 := []) rfl (fun _ => rfl) ⟨Nat.le_of_ble_eq_true rfl, Nat.le_of_ble_eq_true rfl, pj_rcvI (pj_gp hc)⟩ ⟨rfl, rfl, rfl⟩ (pj_E_up (by decide) e1) ?_
            show pj_R _ _ _ _ (pj_ob G1 a (fs.set 1 (.int (Int32.ofInt 0 + Int32.ofInt 1))), 74, [(4, .int j), (3, .int i), (2, .int n), (0, .ref a), (1, .int c)], [], 0, 0) _
            refine pj_R_to (pj_ob G1 a (fs.set 1 (.int (Int32.ofInt 0 + Int32.ofInt 1))), 78, [(4, .int j), (3, .int i), (2, .int n), (0, .ref a), (1, .int c)], [.long j.toInt64, .ref a], 0, 0) 78 4 (fun _ => rfl) ?_
            refine pj_R_ca (pj_cx_mon _) (vs := [.ref a, .long j.toInt64]) (S2 := []) rfl (fun _ => rfl) ⟨Nat.le_of_ble_eq_true rfl, Nat.le_of_ble_eq_true rfl, pj_rcvI (pj_gp hc1)⟩ ⟨rfl, rfl, rfl⟩ (pj_E_up (by decide) e2) ?_
            show pj_R _ _ _ _ (pj_ob G2 a (fs.set 1 (.int (Int32.ofInt 0 + Int32.ofInt 1 + Int32.ofInt 1))), 81, [(4, .int j), (3, .int i), (2, .int n), (0, .ref a), (1, .int c)], [], 0, 0) _
            refine pj_R_to (pj_ob G2 a (fs.set 1 (.int (Int32.ofInt 0 + Int32.ofInt 1 + Int32.ofInt 1))), 37, [(4, .int (j + Int32.ofInt 1)), (2, .int (n + Int32.ofInt 1)), (3, .int i), (0, .ref a), (1, .int c)], [], 0, 0) 37 4 (fun _ => rfl) ?_
            exact (k3 r h).2
          · refine pj_R_to (pj_ob G a fs, 41, [(4, .int j), (2, .int n), (3, .int i), (0, .ref a), (1, .int c)], [.int ((Int8.ofInt 9).toInt32), .int j], 0, 0) 41 3 (fun _ => rfl) ?_
            refine pj_R_icF rfl (pj_gt9F hd) ?_
            refine pj_R_to (pj_ob G a fs, 48, [(4, .int j), (2, .int n), (3, .int i), (0, .ref a), (1, .int c)], [.int c, .int j, .int i], 0, 0) 48 4 (fun _ => rfl) ?_
            refine pj_R_ca (pj_cx_mon _) (vs := [.int i, .int j, .int c]) (S2 := [.int (pj_b2 true)]) rfl (fun _ => rfl) ⟨Nat.le_of_ble_eq_true rfl, Nat.le_of_ble_eq_true rfl, rfl⟩ ⟨rfl, rfl, rfl⟩ (by have e := pj_isRestE (pj_ob G a fs) i j c; rw [h1] at e; exact e) ?_
            show pj_R _ _ _ _ (pj_ob G a fs, 51, [(4, .int j), (2, .int n), (3, .int i), (0, .ref a), (1, .int c)], [.int (pj_b2 true)], 0, 0) _
            refine pj_R_ifF rfl (by decide) ?_
            refine pj_R_to (pj_ob G a fs, 58, [(4, .int j), (2, .int n), (3, .int i), (0, .ref a), (1, .int c)], [.int c, .int i, .int j], 0, 0) 58 4 (fun _ => rfl) ?_
            refine pj_R_ca (pj_cx_mon _) (vs := [.int j, .int i, .int c]) (S2 := [.int (pj_b2 true)]) rfl (fun _ => rfl) ⟨Nat.le_of_ble_eq_true rfl, Nat.le_of_ble_eq_true rfl, rfl⟩ ⟨rfl, rfl, rfl⟩ (by have e := pj_isRestE (pj_ob G a fs) j i c; rw [h2] at e; exact e) ?_
            show pj_R _ _ _ _ (pj_ob G a fs, 61, [(4, .int j), (2, .int n), (3, .int i), (0, .ref a), (1, .int c)], [.int (pj_b2 true)], 0, 0) _
            refine pj_R_ifF rfl (by decide) ?_
            refine pj_R_to (pj_ob G a fs, 65, [(4, .int j), (2, .int n), (3, .int i), (0, .ref a), (1, .int c)], [.int n], 0, 0) 65 2 (fun _ => rfl) ?_
            refine pj_R_ifF rfl (decide_eq_false (fun z => z hn)) ?_
            refine pj_R_to (pj_ob G a fs, 71, [(4, .int j), (2, .int n), (3, .int i), (0, .ref a), (1, .int c)], [.long i.toInt64, .ref a], 0, 0) 71 4 (fun _ => rfl) ?_
            refine pj_R_ca (pj_cx_mon _) (vs := [.ref a, .long i.toInt64]) (S2 := []) rfl (fun _ => rfl) ⟨Nat.le_of_ble_eq_true rfl, Nat.le_of_ble_eq_true rfl, pj_rcvI (pj_gp hc)⟩ ⟨rfl, rfl, rfl⟩ (pj_E_up (by decide) e1) ?_
            show pj_R _ _ _ _ (pj_ob G1 a (fs.set 1 (.int (Int32.ofInt 0 + Int32.ofInt 1))), 74, [(4, .int j), (2, .int n), (3, .int i), (0, .ref a), (1, .int c)], [], 0, 0) _
            refine pj_R_to (pj_ob G1 a (fs.set 1 (.int (Int32.ofInt 0 + Int32.ofInt 1))), 78, [(4, .int j), (2, .int n), (3, .int i), (0, .ref a), (1, .int c)], [.long j.toInt64, .ref a], 0, 0) 78 4 (fun _ => rfl) ?_
            refine pj_R_ca (pj_cx_mon _) (vs := [.ref a, .long j.toInt64]) (S2 := []) rfl (fun _ => rfl) ⟨Nat.le_of_ble_eq_true rfl, Nat.le_of_ble_eq_true rfl, pj_rcvI (pj_gp hc1)⟩ ⟨rfl, rfl, rfl⟩ (pj_E_up (by decide) e2) ?_
            show pj_R _ _ _ _ (pj_ob G2 a (fs.set 1 (.int (Int32.ofInt 0 + Int32.ofInt 1 + Int32.ofInt 1))), 81, [(4, .int j), (2, .int n), (3, .int i), (0, .ref a), (1, .int c)], [], 0, 0) _
            refine pj_R_to (pj_ob G2 a (fs.set 1 (.int (Int32.ofInt 0 + Int32.ofInt 1 + Int32.ofInt 1))), 37, [(4, .int (j + Int32.ofInt 1)), (2, .int (n + Int32.ofInt 1)), (3, .int i), (0, .ref a), (1, .int c)], [], 0, 0) 37 4 (fun _ => rfl) ?_
            exact (k3 r h).2
        · obtain ⟨G', fs', j', k1, k3⟩ := ih (n + Int32.ofInt 1) G fs (by omega) (by omega) ⟨hc, hl, hf2, ⟨f, hr⟩, s, hs, fun z => absurd z en0⟩
          refine ⟨G', fs', j', k1, fun r h => ⟨?_, ?_⟩⟩
          · refine pj_R_to (pj_ob G a fs, 41, [(4, .int j), (3, .int i), (2, .int n), (0, .ref a), (1, .int c)], [.int ((Int8.ofInt 9).toInt32), .int j], 0, 0) 41 3 (fun _ => rfl) ?_
            refine pj_R_icF rfl (pj_gt9F hd) ?_
            refine pj_R_to (pj_ob G a fs, 48, [(4, .int j), (3, .int i), (2, .int n), (0, .ref a), (1, .int c)], [.int c, .int j, .int i], 0, 0) 48 4 (fun _ => rfl) ?_
            refine pj_R_ca (pj_cx_mon _) (vs := [.int i, .int j, .int c]) (S2 := [.int (pj_b2 true)]) rfl (fun _ => rfl) ⟨Nat.le_of_ble_eq_true rfl, Nat.le_of_ble_eq_true rfl, rfl⟩ ⟨rfl, rfl, rfl⟩ (by have e := pj_isRestE (pj_ob G a fs) i j c; rw [h1] at e; exact e) ?_
            show pj_R _ _ _ _ (pj_ob G a fs, 51, [(4, .int j), (3, .int i), (2, .int n), (0, .ref a), (1, .int c)], [.int (pj_b2 true)], 0, 0) _
            refine pj_R_ifF rfl (by decide) ?_
            refine pj_R_to (pj_ob G a fs, 58, [(4, .int j), (3, .int i), (2, .int n), (0, .ref a), (1, .int c)], [.int c, .int i, .int j], 0, 0) 58 4 (fun _ => rfl) ?_
            refine pj_R_ca (pj_cx_mon _) (vs := [.int j, .int i, .int c]) (S2 := [.int (pj_b2 true)]) rfl (fun _ => rfl) ⟨Nat.le_of_ble_eq_true rfl, Nat.le_of_ble_eq_true rfl, rfl⟩ ⟨rfl, rfl, rfl⟩ (by have e := pj_isRestE (pj_ob G a fs) j i c; rw [h2] at e; exact e) ?_
            show pj_R _ _ _ _ (pj_ob G a fs, 61, [(4, .int j), (3, .int i), (2, .int n), (0, .ref a), (1, .int c)], [.int (pj_b2 true)], 0, 0) _
            refine pj_R_ifF rfl (by decide) ?_
            refine pj_R_to (pj_ob G a fs, 65, [(4, .int j), (3, .int i), (2, .int n), (0, .ref a), (1, .int c)], [.int n], 0, 0) 65 2 (fun _ => rfl) ?_
            refine pj_R_ifT 81 rfl rfl (decide_eq_true hn) ?_
            refine pj_R_to (pj_ob G a fs, 37, [(4, .int (j + Int32.ofInt 1)), (2, .int (n + Int32.ofInt 1)), (3, .int i), (0, .ref a), (1, .int c)], [], 0, 0) 37 4 (fun _ => rfl) ?_
            exact (k3 r h).2
          · refine pj_R_to (pj_ob G a fs, 41, [(4, .int j), (2, .int n), (3, .int i), (0, .ref a), (1, .int c)], [.int ((Int8.ofInt 9).toInt32), .int j], 0, 0) 41 3 (fun _ => rfl) ?_
            refine pj_R_icF rfl (pj_gt9F hd) ?_
            refine pj_R_to (pj_ob G a fs, 48, [(4, .int j), (2, .int n), (3, .int i), (0, .ref a), (1, .int c)], [.int c, .int j, .int i], 0, 0) 48 4 (fun _ => rfl) ?_
            refine pj_R_ca (pj_cx_mon _) (vs := [.int i, .int j, .int c]) (S2 := [.int (pj_b2 true)]) rfl (fun _ => rfl) ⟨Nat.le_of_ble_eq_true rfl, Nat.le_of_ble_eq_true rfl, rfl⟩ ⟨rfl, rfl, rfl⟩ (by have e := pj_isRestE (pj_ob G a fs) i j c; rw [h1] at e; exact e) ?_
            show pj_R _ _ _ _ (pj_ob G a fs, 51, [(4, .int j), (2, .int n), (3, .int i), (0, .ref a), (1, .int c)], [.int (pj_b2 true)], 0, 0) _
            refine pj_R_ifF rfl (by decide) ?_
            refine pj_R_to (pj_ob G a fs, 58, [(4, .int j), (2, .int n), (3, .int i), (0, .ref a), (1, .int c)], [.int c, .int i, .int j], 0, 0) 58 4 (fun _ => rfl) ?_
            refine pj_R_ca (pj_cx_mon _) (vs := [.int j, .int i, .int c]) (S2 := [.int (pj_b2 true)]) rfl (fun _ => rfl) ⟨Nat.le_of_ble_eq_true rfl, Nat.le_of_ble_eq_true rfl, rfl⟩ ⟨rfl, rfl, rfl⟩ (by have e := pj_isRestE (pj_ob G a fs) j i c; rw [h2] at e; exact e) ?_
            show pj_R _ _ _ _ (pj_ob G a fs, 61, [(4, .int j), (2, .int n), (3, .int i), (0, .ref a), (1, .int c)], [.int (pj_b2 true)], 0, 0) _
            refine pj_R_ifF rfl (by decide) ?_
            refine pj_R_to (pj_ob G a fs, 65, [(4, .int j), (2, .int n), (3, .int i), (0, .ref a), (1, .int c)], [.int n], 0, 0) 65 2 (fun _ => rfl) ?_
            refine pj_R_ifT 81 rfl rfl (decide_eq_true hn) ?_
            refine pj_R_to (pj_ob G a fs, 37, [(4, .int (j + Int32.ofInt 1)), (2, .int (n + Int32.ofInt 1)), (3, .int i), (0, .ref a), (1, .int c)], [], 0, 0) 37 4 (fun _ => rfl) ?_
            exact (k3 r h).2
theorem pj_rsM_out (a rw_ : Nat) (c0 : pj_C) (hne : rw_ ≠ a) (c : Int32) : ∀ (d : Nat) (i n : Int32) (G : pj_G) (fs : List Value), 10 - i.toInt = (d : Nat) → 0 ≤ n.toInt → n.toInt + 9 * d ≤ 900 → pj_md G a rw_ c0 fs n → ∃ G' : pj_G, pj_R (pj_cx 2) 0 pj_x0 pj_m276 (pj_ob G a fs, 28, [(3, .int i), (2, .int n), (0, .ref a), (1, .int c)], [], 0, 0) (some (.int (pj_out (pj_okMr c) d i n)), G', 0, 0) ∧ ∀ j, pj_R (pj_cx 2) 0 pj_x0 pj_m276 (pj_ob G a fs, 28, [(3, .int i), (4, .int j), (2, .int n), (0, .ref a), (1, .int c)], [], 0, 0) (some (.int (pj_out (pj_okMr c) d i n)), G', 0, 0)
  | 0, i, n, G, fs, hd, h0, hb, hm => by
    refine ⟨pj_ob G a fs, ?_, fun j => ?_⟩
    · refine pj_R_to (pj_ob G a fs, 31, [(3, .int i), (2, .int n), (0, .ref a), (1, .int c)], [.int ((Int8.ofInt 9).toInt32), .int i], 0, 0) 31 3 (fun _ => rfl) ?_
      refine pj_R_icT 96 rfl rfl (pj_gt9T hd) ?_
      refine pj_R_to (pj_ob G a fs, 97, [(3, .int i), (2, .int n), (0, .ref a), (1, .int c)], [.int n], 0, 0) 97 2 (fun _ => rfl) ?_
      exact pj_R_rt rfl rfl
    · refine pj_R_to (pj_ob G a fs, 31, [(3, .int i), (4, .int j), (2, .int n), (0, .ref a), (1, .int c)], [.int ((Int8.ofInt 9).toInt32), .int i], 0, 0) 31 3 (fun _ => rfl) ?_
      refine pj_R_icT 96 rfl rfl (pj_gt9T hd) ?_
      refine pj_R_to (pj_ob G a fs, 97, [(3, .int i), (4, .int j), (2, .int n), (0, .ref a), (1, .int c)], [.int n], 0, 0) 97 2 (fun _ => rfl) ?_
      exact pj_R_rt rfl rfl
  | d + 1, i, n, G, fs, hd, h0, hb, hm => by
    obtain ⟨G1, fs1, j1, k1, k3⟩ := pj_rsM_in a rw_ c0 hne c i 9 (Int32.ofInt 1) n G fs (by decide) h0 (by omega) hm
    have kb := pj_inn_bd (pj_okMr c) i 9 (Int32.ofInt 1) n h0 (by omega)
    obtain ⟨G', m2, m3⟩ := pj_rsM_out a rw_ c0 hne c d (i + Int32.ofInt 1) (pj_inn (pj_okMr c) i 9 (Int32.ofInt 1) n) G1 fs1 (pj_nx9 hd) kb.1 (by omega) k1
    have k4 := (k3 _ (m3 j1)).1
    refine ⟨G', ?_, fun j => ?_⟩
    · refine pj_R_to (pj_ob G a fs, 31, [(3, .int i), (2, .int n), (0, .ref a), (1, .int c)], [.int ((Int8.ofInt 9).toInt32), .int i], 0, 0) 31 3 (fun _ => rfl) ?_
      refine pj_R_icF rfl (pj_gt9F hd) ?_
      refine pj_R_to (pj_ob G a fs, 37, [(4, .int (Int32.ofInt 1)), (3, .int i), (2, .int n), (0, .ref a), (1, .int c)], [], 0, 0) 37 3 (fun _ => rfl) ?_
      exact k4
    · refine pj_R_to (pj_ob G a fs, 31, [(3, .int i), (4, .int j), (2, .int n), (0, .ref a), (1, .int c)], [.int ((Int8.ofInt 9).toInt32), .int i], 0, 0) 31 3 (fun _ => rfl) ?_
      refine pj_R_icF rfl (pj_gt9F hd) ?_
      refine pj_R_to (pj_ob G a fs, 37, [(4, .int (Int32.ofInt 1)), (3, .int i), (2, .int n), (0, .ref a), (1, .int c)], [], 0, 0) 37 3 (fun _ => rfl) ?_
      exact k4
theorem pj_restsM {G : pj_G} {a rw_ : Nat} {fs : List Value} {f : Nat → Int64} (hm : pj_get G a = some (.inr (12, fs))) (hl : fs.length = 60) (hr : pj_get G rw_ = some (.inl (1, 24, .inr (.inl f)))) (hfr : fs[2]? = some (.ref rw_)) (c : Int32) (h1 : 0 ≤ c.toInt ∧ c.toInt ≤ 9) : ∃ G', pj_E (pj_cx 3) 276 [.ref a, .int c] G (some (.int (pj_out (pj_okMr c) 9 (Int32.ofInt 1) (Int32.ofInt 0))), G', 0, 0) := by
  have hne : rw_ ≠ a := fun e => by
    rw [e, hm] at hr
    cases hr
  have hc := hm
  have z0 : (Int64.ofNat 0).toInt = 0 := by decide
  have z9 : (Int64.ofInt 9).toInt = 9 := by decide
  have l0 : (fs.set 0 (.int (Int32.ofInt 0))).length = 60 := by rw [List.length_set, hl]
  obtain ⟨G', m2, m3⟩ := pj_rsM_out a rw_ _ hne c 9 (Int32.ofInt 1) (Int32.ofInt 0) G ((fs.set 0 (.int (Int32.ofInt 0))).set 1 (.int (Int32.ofInt 0))) (by decide) (by decide) (by decide) ⟨hc, by rw [List.length_set, l0], by rw [List.getElem?_set_ne (by decide), List.getElem?_set_ne (by decide), hfr], ⟨f, hr⟩, Int32.ofInt 0, by rw [List.getElem?_set_self (by rw [l0]; decide)], fun _ => rfl⟩
  refine ⟨G', ?_⟩
  refine pj_E_R (M := pj_m276) rfl rfl (Nat.le_of_ble_eq_true rfl) ?_
  show pj_R _ _ _ _ (G, 0, [(0, .ref a), (1, .int c)], [], 0, 0) _
  refine pj_R_to (G, 2, [(0, .ref a), (1, .int c)], [.int (Int32.ofInt 0), .ref a], 0, 0) 2 3 (fun _ => rfl) ?_
  refine pj_R_pf rfl hm (by show 0 < fs.length; rw [hl]; decide) rfl ?_
  show pj_R _ _ _ _ (pj_ob G a (fs.set 0 (.int (Int32.ofInt 0))), 5, [(0, .ref a), (1, .int c)], [], 0, 0) _
  refine pj_R_to (pj_ob G a (fs.set 0 (.int (Int32.ofInt 0))), 11, [(0, .ref a), (1, .int c)], [.long (Int64.ofInt 9), .long (Int64.ofNat 0), .long c.toInt64], 0, 0) 11 5 (fun _ => rfl) ?_
  refine pj_R_ca (pj_cx_mon _) (vs := [.long c.toInt64, .long (Int64.ofNat 0), .long (Int64.ofInt 9)]) (S2 := [.int (Int32.ofInt 1)]) rfl (fun _ => rfl) ⟨Nat.le_of_ble_eq_true rfl, Nat.le_of_ble_eq_true rfl, rfl⟩ ⟨rfl, rfl, rfl⟩ (pj_E_up (by decide) (pj_inE _ _ _ _ (by rw [Int32.toInt_toInt64, z0]; omega) (by rw [Int32.toInt_toInt64, z9]; omega))) ?_
  show pj_R _ _ _ _ (pj_ob G a (fs.set 0 (.int (Int32.ofInt 0))), 14, [(0, .ref a), (1, .int c)], [.int (Int32.ofInt 1)], 0, 0) _
  refine pj_R_ifT 19 rfl rfl (by decide) ?_
  refine pj_R_to (pj_ob G a (fs.set 0 (.int (Int32.ofInt 0))), 23, [(2, .int (Int32.ofInt 0)), (0, .ref a), (1, .int c)], [.int (Int32.ofInt 0), .ref a], 0, 0) 23 5 (fun _ => rfl) ?_
  refine pj_R_po hc rfl rfl (by show 1 < _; rw [l0]; decide) rfl ?_
  show pj_R _ _ _ _ (pj_ob G a ((fs.set 0 (.int (Int32.ofInt 0))).set 1 (.int (Int32.ofInt 0))), 26, [(2, .int (Int32.ofInt 0)), (0, .ref a), (1, .int c)], [], 0, 0) _
  refine pj_R_to (pj_ob G a ((fs.set 0 (.int (Int32.ofInt 0))).set 1 (.int (Int32.ofInt 0))), 28, [(3, .int (Int32.ofInt 1)), (2, .int (Int32.ofInt 0)), (0, .ref a), (1, .int c)], [], 0, 0) 28 3 (fun _ => rfl) ?_
  exact m2
