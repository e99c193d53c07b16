/-! COUNTS IN WHAT CAN BE UNDONE -/
def mr_is (q : Nat × Nat) : Bool := (Nat.beq q.1 53 && (Nat.beq q.2 1 || Nat.beq q.2 2)) || ((Nat.beq q.1 21 || (Nat.ble 57 q.1 && (Nat.ble q.1 147 && Nat.beq ((q.1 - 57) % 6) 0))) && (Nat.beq q.2 0 || Nat.beq q.2 5))
def mr_P (G : pj_G) : Prop := ∀ k : Nat, k < 16 → ((pj_fi G 53 1).toInt + 15 - (k : Int)) % 16 < (pj_fi G 53 2).toInt → (pj_fi G (57 + 6 * k) 0).toInt = (pj_fi G 21 0).toInt ∧ (pj_fi G (57 + 6 * k) 5).toInt = (pj_fi G 21 5).toInt
theorem mr_i0 : ∀ k, k < 16 → mr_is (57 + 6 * k, 0) = true := by decide
theorem mr_i5 : ∀ k, k < 16 → mr_is (57 + 6 * k, 5) = true := by decide
theorem mr_k {W : pj_KT} {G G' : pj_G} (h : mr_P G) (hk : pj_kpt W G G') (hW : W.1.all (fun q => !(mr_is q)) = true) : mr_P G' := by
  have f : ∀ q : Nat × Nat, mr_is q = true → pj_fi G' q.1 q.2 = pj_fi G q.1 q.2 := fun q hq => hk.1 q (fun hm => by
    have z := List.all_eq_true.mp hW q hm
    rw [hq] at z
    cases z)
  have a1 : pj_fi G' 53 1 = pj_fi G 53 1 := f (53, 1) rfl
  have a2 : pj_fi G' 53 2 = pj_fi G 53 2 := f (53, 2) rfl
  have a3 : pj_fi G' 21 0 = pj_fi G 21 0 := f (21, 0) rfl
  have a4 : pj_fi G' 21 5 = pj_fi G 21 5 := f (21, 5) rfl
  intro k hk16 hv
  have b0 : pj_fi G' (57 + 6 * k) 0 = pj_fi G (57 + 6 * k) 0 := f (57 + 6 * k, 0) (mr_i0 k hk16)
  have b5 : pj_fi G' (57 + 6 * k) 5 = pj_fi G (57 + 6 * k) 5 := f (57 + 6 * k, 5) (mr_i5 k hk16)
  rw [a1, a2] at hv
  rw [a3, a4, b0, b5]
  exact h k hk16 hv
/-- a deed: the state's counts come to the place that is next; then it is held, or not -/
theorem mr_hold {G G1 G' : pj_G} (h : mr_P G) (n0 : 0 ≤ (pj_fi G 53 1).toInt) (n1 : (pj_fi G 53 1).toInt ≤ 15) (s1 : (pj_fi G 53 2).toInt ≤ 15) (c0 : (pj_fi G' 21 0).toInt = (pj_fi G 21 0).toInt) (c5 : (pj_fi G' 21 5).toInt = (pj_fi G 21 5).toInt)
    (at_ : ∀ k : Nat, k < 16 → (pj_fi G 53 1).toInt = (k : Int) → (pj_fi G' (57 + 6 * k) 0).toInt = (pj_fi G 21 0).toInt ∧ (pj_fi G' (57 + 6 * k) 5).toInt = (pj_fi G 21 5).toInt)
    (ne : ∀ k : Nat, k < 16 → ¬ (pj_fi G 53 1).toInt = (k : Int) → (pj_fi G' (57 + 6 * k) 0).toInt = (pj_fi G (57 + 6 * k) 0).toInt ∧ (pj_fi G' (57 + 6 * k) 5).toInt = (pj_fi G (57 + 6 * k) 5).toInt)
    (hh : ((pj_fi G' 53 1).toInt = (pj_fi G 53 1).toInt ∧ (pj_fi G' 53 2).toInt = (pj_fi G 53 2).toInt) ∨ ((pj_fi G' 53 1).toInt = ((pj_fi G 53 1).toInt + 1) % 16 ∧ (pj_fi G' 53 2).toInt ≤ (pj_fi G 53 2).toInt + 1 ∧ (pj_fi G' 53 2).toInt ≤ 15)) : mr_P G' := by
  intro k hk hv
  by_cases q : (pj_fi G 53 1).toInt = (k : Int)
  · have z := at_ k hk q
    exact ⟨z.1.trans c0.symm, z.2.trans c5.symm⟩
  · have z := ne k hk q
    have w := h k hk (by rcases hh with ⟨e1, e2⟩ | ⟨e1, e2, e3⟩ <;> omega)
    exact ⟨z.1.trans (w.1.trans c0.symm), z.2.trans (w.2.trans c5.symm)⟩
/-- the exact rest, of what is not below 0 -/
theorem mr_rem {x y : Int32} (h0 : 0 ≤ x.toInt) (h1 : 0 < y.toInt) : (x - x / y * y).toInt = x.toInt % y.toInt := by
  have hx := (pj_i32 x).2
  have e1 : x.toInt % y.toInt = x.toInt - y.toInt * (x.toInt / y.toInt) := Int.emod_def _ _
  have e2 := Int.emod_nonneg x.toInt (show y.toInt ≠ 0 by omega)
  have e3 := Int.emod_lt_of_pos x.toInt h1
  have e4 : 0 ≤ y.toInt * (x.toInt / y.toInt) := Int.mul_nonneg (by omega) (Int.ediv_nonneg h0 (by omega))
  have m : (x / y * y).toInt = y.toInt * (x.toInt / y.toInt) := by
    rw [pj_mulI (by rw [pj_divE h0, Int.mul_comm]; omega) (by rw [pj_divE h0, Int.mul_comm]; omega), pj_divE h0, Int.mul_comm]
  rw [pj_subI (by omega) (by omega), m, e1]
/-- the latest one is taken: the places that can be undone are those that could, but it -/
theorem mr_take {G G' : pj_G} (h : mr_P G) (n0 : 0 ≤ (pj_fi G 53 1).toInt) (n1 : (pj_fi G 53 1).toInt ≤ 15) (s1 : 1 ≤ (pj_fi G 53 2).toInt) (s15 : (pj_fi G 53 2).toInt ≤ 15) (k : Nat) (hk : k < 16) (ek : (k : Int) = ((pj_fi G 53 1).toInt + 15) % 16) (e1 : (pj_fi G' 53 1).toInt = (k : Int)) (e2 : (pj_fi G' 53 2).toInt = (pj_fi G 53 2).toInt - 1) (c0 : (pj_fi G' 21 0).toInt = (pj_fi G (57 + 6 * k) 0).toInt) (c5 : (pj_fi G' 21 5).toInt = (pj_fi G (57 + 6 * k) 5).toInt) (ne : ∀ j : Nat, j < 16 → (pj_fi G' (57 + 6 * j) 0).toInt = (pj_fi G (57 + 6 * j) 0).toInt ∧ (pj_fi G' (57 + 6 * j) 5).toInt = (pj_fi G (57 + 6 * j) 5).toInt) : mr_P G' ∧ (pj_fi G' 21 0).toInt = (pj_fi G 21 0).toInt ∧ (pj_fi G' 21 5).toInt = (pj_fi G 21 5).toInt := by
  have w := h k hk (by omega)
  refine ⟨?_, c0.trans w.1, c5.trans w.2⟩
  intro j hj hv
  have z := ne j hj
  have v := h j hj (by omega)
  exact ⟨z.1.trans (v.1.trans (w.1.symm.trans c0.symm)), z.2.trans (v.2.trans (w.2.symm.trans c5.symm))⟩
theorem mr_kf {W : pj_KT} {G G' : pj_G} (hk : pj_kpt W G G') (hW : W.1.all (fun q => !(mr_is q)) = true) (q : Nat × Nat) (hq : mr_is q = true) : pj_fi G' q.1 q.2 = pj_fi G q.1 q.2 := hk.1 q (fun hm => by
  have z := List.all_eq_true.mp hW q hm
  rw [hq] at z
  cases z)
/-- what can be undone stays with the counts; the counts stay -/
def mr_PC (G G' : pj_G) : Prop := mr_P G → mr_P G' ∧ (pj_fi G' 21 0).toInt = (pj_fi G 21 0).toInt ∧ (pj_fi G' 21 5).toInt = (pj_fi G 21 5).toInt
theorem mr_PC_r (G : pj_G) : mr_PC G G := fun h => ⟨h, rfl, rfl⟩
theorem mr_PC_t {G G1 G2 : pj_G} (h1 : mr_PC G G1) (h2 : mr_PC G1 G2) : mr_PC G G2 := fun h => by
  obtain ⟨a, b, c⟩ := h1 h
  obtain ⟨d, e, f⟩ := h2 a
  exact ⟨d, e.trans b, f.trans c⟩
theorem mr_PC_k {W : pj_KT} {G G' : pj_G} (hk : pj_kpt W G G') (hW : W.1.all (fun q => !(mr_is q)) = true) : mr_PC G G' := fun h => ⟨mr_k h hk hW, by rw [mr_kf hk hW (21, 0) rfl], by rw [mr_kf hk hW (21, 5) rfl]⟩
/-- nothing can be undone -/
theorem mr_PC_z {G G' : pj_G} (c0 : (pj_fi G' 21 0).toInt = (pj_fi G 21 0).toInt) (c5 : (pj_fi G' 21 5).toInt = (pj_fi G 21 5).toInt) (z : (pj_fi G' 53 2).toInt = 0) : mr_PC G G' := fun _ => ⟨fun k hk hv => by rw [z] at hv; omega, c0, c5⟩
/-- the state is noted at the place that is next -/
def mr_nt (G G' : pj_G) : Prop := ∀ k : Nat, k < 16 → ((pj_fi G 53 1).toInt = (k : Int) → (pj_fi G' (57 + 6 * k) 0).toInt = (pj_fi G 21 0).toInt ∧ (pj_fi G' (57 + 6 * k) 5).toInt = (pj_fi G 21 5).toInt) ∧ (¬ (pj_fi G 53 1).toInt = (k : Int) → (pj_fi G' (57 + 6 * k) 0).toInt = (pj_fi G (57 + 6 * k) 0).toInt ∧ (pj_fi G' (57 + 6 * k) 5).toInt = (pj_fi G (57 + 6 * k) 5).toInt)
theorem mr_nt1 {W : pj_KT} {G G' : pj_G} (q : Nat) (hn : (pj_fi G 53 1).toInt = (q : Int)) (hk : pj_kpt W G G') (hW : W.1.all (fun p => Nat.beq p.1 (57 + 6 * q)) = true) (e : (pj_fi G' (57 + 6 * q) 0).toInt = (pj_fi G 21 0).toInt ∧ (pj_fi G' (57 + 6 * q) 5).toInt = (pj_fi G 21 5).toInt) : mr_nt G G' := by
  intro k hk16
  refine ⟨fun h => ?_, fun h => ?_⟩
  · have e1 : k = q := by omega
    subst e1
    exact e
  · have ne : ∀ m : Nat, (57 + 6 * k, m) ∉ W.1 := fun m hm => by
      have z : 57 + 6 * k = 57 + 6 * q := Nat.eq_of_beq_eq_true (List.all_eq_true.mp hW _ hm)
      exact h (by omega)
    have e0 : pj_fi G' (57 + 6 * k) 0 = pj_fi G (57 + 6 * k) 0 := hk.1 (57 + 6 * k, 0) (ne 0)
    have e5 : pj_fi G' (57 + 6 * k) 5 = pj_fi G (57 + 6 * k) 5 := hk.1 (57 + 6 * k, 5) (ne 5)
    rw [e0, e5]
    exact ⟨rfl, rfl⟩
theorem mr_deed {W1 W2 W3 : pj_KT} {G G1 G2 G3 : pj_G} (hI : pj_Inv G) (nt : mr_nt G G1) (k1 : pj_kpt W1 G G1) (w1 : W1.1.all (fun q => !(Nat.beq q.1 53) && !(Nat.beq q.1 21)) = true) (k2 : pj_kpt W2 G1 G2) (w2 : W2.1.all (fun q => !(mr_is q)) = true) (k3 : pj_kpt W3 G2 G3) (w3 : W3.1.all (fun q => Nat.beq q.1 53) = true) (hh : ((pj_fi G3 53 1).toInt = (pj_fi G2 53 1).toInt ∧ (pj_fi G3 53 2).toInt = (pj_fi G2 53 2).toInt) ∨ ((pj_fi G3 53 1).toInt = ((pj_fi G2 53 1).toInt + 1) % 16 ∧ (pj_fi G3 53 2).toInt ≤ (pj_fi G2 53 2).toInt + 1 ∧ (pj_fi G3 53 2).toInt ≤ 15)) : mr_PC G G3 := by
  have n1 : ∀ m : Nat, (53, m) ∉ W1.1 ∧ (21, m) ∉ W1.1 := fun m => ⟨fun hm => by
    have z := List.all_eq_true.mp w1 _ hm
    rw [Bool.and_eq_true] at z
    exact absurd (show false = true from z.1) (by decide), fun hm => by
    have z := List.all_eq_true.mp w1 _ hm
    rw [Bool.and_eq_true] at z
    exact absurd (show false = true from z.2) (by decide)⟩
  have n3 : ∀ a m : Nat, a ≠ 53 → (a, m) ∉ W3.1 := fun a m ha hm => ha (Nat.eq_of_beq_eq_true (List.all_eq_true.mp w3 _ hm))
  have f53 : ∀ m, m = 1 ∨ m = 2 → pj_fi G2 53 m = pj_fi G 53 m := fun m hm => by
    have z := mr_kf k2 w2 (53, m) (by rcases hm with rfl | rfl <;> rfl)
    exact z.trans (k1.1 (53, m) (n1 m).1)
  have f21 : ∀ m, m = 0 ∨ m = 5 → pj_fi G3 21 m = pj_fi G 21 m := fun m hm => by
    have z := mr_kf k2 w2 (21, m) (by rcases hm with rfl | rfl <;> rfl)
    exact ((k3.1 (21, m) (n3 21 m (by decide))).trans z).trans (k1.1 (21, m) (n1 m).2)
  have fk : ∀ k m : Nat, k < 16 → m = 0 ∨ m = 5 → pj_fi G3 (57 + 6 * k) m = pj_fi G1 (57 + 6 * k) m := fun k m hk hm => by
    have z := mr_kf k2 w2 (57 + 6 * k, m) (by
      rcases hm with rfl | rfl
      · exact mr_i0 k hk
      · exact mr_i5 k hk)
    exact (k3.1 (57 + 6 * k, m) (n3 _ m (by omega))).trans z
  have r1 : (0 : Int) ≤ (pj_fi G 53 1).toInt ∧ (pj_fi G 53 1).toInt ≤ 15 := hI.2.1 53 1 (0, 15) rfl
  have r2 : (0 : Int) ≤ (pj_fi G 53 2).toInt ∧ (pj_fi G 53 2).toInt ≤ 15 := hI.2.1 53 2 (0, 15) rfl
  have e1 : (pj_fi G2 53 1).toInt = (pj_fi G 53 1).toInt := by rw [f53 1 (.inl rfl)]
  have e2 : (pj_fi G2 53 2).toInt = (pj_fi G 53 2).toInt := by rw [f53 2 (.inr rfl)]
  have c0 : (pj_fi G3 21 0).toInt = (pj_fi G 21 0).toInt := by rw [f21 0 (.inl rfl)]
  have c5 : (pj_fi G3 21 5).toInt = (pj_fi G 21 5).toInt := by rw [f21 5 (.inr rfl)]
  intro h
  refine ⟨mr_hold (G1 := G) h r1.1 r1.2 r2.2 c0 c5 (fun k hk q => ?_) (fun k hk q => ?_) (by rcases hh with ⟨a, b⟩ | ⟨a, b, c⟩ <;> omega), c0, c5⟩
  · rw [fk k 0 hk (.inl rfl), fk k 5 hk (.inr rfl)]
    exact (nt k hk).1 q
  · rw [fk k 0 hk (.inl rfl), fk k 5 hk (.inr rfl)]
    exact (nt k hk).2 q
/-- the latest one is undone -/
theorem mr_undo {W1 W2 : pj_KT} {G G1 G2 : pj_G} (hI : pj_Inv G) (s1 : 1 ≤ (pj_fi G 53 2).toInt) (k : Nat) (hk : k < 16) (k1 : pj_kpt W1 G G1) (w1 : W1.1.all (fun q => Nat.beq q.1 53) = true) (e1 : (pj_fi G1 53 1).toInt = (k : Int) ∧ (k : Int) = ((pj_fi G 53 1).toInt + 15) % 16 ∧ (pj_fi G1 53 2).toInt = (pj_fi G 53 2).toInt - 1) (k2 : pj_kpt W2 G1 G2) (w2 : W2.1.all (fun q => Nat.beq q.1 21) = true) (e2 : (pj_fi G2 21 0).toInt = (pj_fi G1 (57 + 6 * k) 0).toInt ∧ (pj_fi G2 21 5).toInt = (pj_fi G1 (57 + 6 * k) 5).toInt) : mr_PC G G2 := by
  have n1 : ∀ a m : Nat, a ≠ 53 → (a, m) ∉ W1.1 := fun a m ha hm => ha (Nat.eq_of_beq_eq_true (List.all_eq_true.mp w1 _ hm))
  have n2 : ∀ a m : Nat, a ≠ 21 → (a, m) ∉ W2.1 := fun a m ha hm => ha (Nat.eq_of_beq_eq_true (List.all_eq_true.mp w2 _ hm))
  have r1 : (0 : Int) ≤ (pj_fi G 53 1).toInt ∧ (pj_fi G 53 1).toInt ≤ 15 := hI.2.1 53 1 (0, 15) rfl
  have r2 : (0 : Int) ≤ (pj_fi G 53 2).toInt ∧ (pj_fi G 53 2).toInt ≤ 15 := hI.2.1 53 2 (0, 15) rfl
  have g : ∀ j m : Nat, pj_fi G1 (57 + 6 * j) m = pj_fi G (57 + 6 * j) m := fun j m => k1.1 (57 + 6 * j, m) (n1 _ m (by omega))
  have g2 : ∀ j m : Nat, pj_fi G2 (57 + 6 * j) m = pj_fi G (57 + 6 * j) m := fun j m => (k2.1 (57 + 6 * j, m) (n2 _ m (by omega))).trans (g j m)
  have a1 : (pj_fi G2 53 1).toInt = (pj_fi G1 53 1).toInt := by rw [show pj_fi G2 53 1 = pj_fi G1 53 1 from k2.1 (53, 1) (n2 53 1 (by decide))]
  have a2 : (pj_fi G2 53 2).toInt = (pj_fi G1 53 2).toInt := by rw [show pj_fi G2 53 2 = pj_fi G1 53 2 from k2.1 (53, 2) (n2 53 2 (by decide))]
  rw [g k 0, g k 5] at e2
  intro h
  exact mr_take (G' := G2) h r1.1 r1.2 s1 r2.2 k hk e1.2.1 (by omega) (by omega) e2.1 e2.2 (fun j _ => ⟨by rw [g2 j 0], by rw [g2 j 5]⟩)
theorem mr_171 (G : pj_G) (a b c : Int64) : (b.toInt ≤ a.toInt ∧ a.toInt ≤ c.toInt → (F_171x G a b c).toInt = 1) ∧ (¬ (b.toInt ≤ a.toInt ∧ a.toInt ≤ c.toInt) → (F_171x G a b c).toInt = 0) := by
  have k0 : (Int32.ofInt 0).toInt = 0 := by decide
  have k1 : (Int32.ofInt 1).toInt = 1 := by decide
  obtain ⟨-, p1, -⟩ := pj_lcI (x := a) (y := b)
  obtain ⟨-, -, p2⟩ := pj_lcI (x := a) (y := c)
  rw [F_171x_e]
  simp only [pj_nm_x]
  by_cases q1 : a.toInt < b.toInt
  · rw [pj_b0_ltT (p1.mpr q1), pj_cT]
    exact ⟨fun h => by omega, fun _ => k0⟩
  · rw [pj_b0_ltF (show 0 ≤ (lg_cmp a b).toInt by have h := fun h => q1 (p1.mp h); omega), pj_cF]
    by_cases q2 : c.toInt < a.toInt
    · rw [pj_b0_gtT (p2.mpr q2), pj_cT]
      exact ⟨fun h => by omega, fun _ => k0⟩
    · rw [pj_b0_gtF (show (lg_cmp a c).toInt ≤ 0 by have h := fun h => q2 (p2.mp h); omega), pj_cF]
      exact ⟨fun _ => k1, fun h => by omega⟩
