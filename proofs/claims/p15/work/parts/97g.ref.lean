/-! WAYS: distances over a small graph, by rounds -/
section PJW
variable (R : Nat → Nat → Prop)
def pj_WW (g : Nat) (f : Nat → Int) : Prop := f g = 0 ∧ (∀ b, b < 8 → b ≠ g → 1 ≤ f b) ∧ (∀ b, b < 8 → b ≠ g → f b < 1000 → ∃ u, R u b ∧ f u ≤ f b - 1)
def pj_AA (k : Int) (f : Nat → Int) : Prop := ∀ u v, R u v → f u ≤ k - 1 → f v ≤ f u + 1
end PJW
def pj_rx (f f' : Nat → Int) (u v : Nat) : Prop := (∀ j, j ≠ v → f' j = f j) ∧ f' v ≤ f v ∧ f' v ≤ f u + 1 ∧ (f' v = f v ∨ f' v = f u + 1)
theorem pj_rx_le {f f' : Nat → Int} {u v : Nat} (h : pj_rx f f' u v) (j : Nat) : f' j ≤ f j := by
  by_cases e : j = v
  · subst e
    exact h.2.1
  · rw [h.1 j e]
    exact Int.le_refl _
theorem pj_W_nn {R : Nat → Nat → Prop} {g : Nat} {f : Nat → Int} (h : pj_WW R g f) (b : Nat) (hb : b < 8) : 0 ≤ f b := by
  by_cases e : b = g
  · rw [e, h.1]
    exact Int.le_refl _
  · have := h.2.1 b hb e
    omega
theorem pj_W_x {R : Nat → Nat → Prop} {g u v : Nat} {f f' : Nat → Int} (h : pj_WW R g f) (hu : u < 8) (hr : R u v) (hx : pj_rx f f' u v) : pj_WW R g f' := by
  have hn := pj_W_nn h u hu
  refine ⟨?_, fun b hb hg => ?_, fun b hb hg hlt => ?_⟩
  · by_cases e : g = v
    · subst e
      rcases hx.2.2.2 with q | q
      · rw [q]
        exact h.1
      · have := hx.2.1
        rw [h.1] at this
        omega
    · rw [hx.1 g e]
      exact h.1
  · by_cases e : b = v
    · subst e
      have := h.2.1 b hb hg
      rcases hx.2.2.2 with q | q
      · omega
      · omega
    · rw [hx.1 b e]
      exact h.2.1 b hb hg
  · by_cases e : b = v
    · subst e
      rcases hx.2.2.2 with q | q
      · obtain ⟨w, h1, h2⟩ := h.2.2 b hb hg (by omega)
        have := pj_rx_le hx w
        exact ⟨w, h1, by omega⟩
      · have := pj_rx_le hx u
        exact ⟨u, hr, by omega⟩
    · rw [hx.1 b e] at hlt ⊢
      obtain ⟨w, h1, h2⟩ := h.2.2 b hb hg hlt
      have := pj_rx_le hx w
      exact ⟨w, h1, by omega⟩
/-- a change gives nothing that is k or less -/
theorem pj_A_new {R : Nat → Nat → Prop} {u v : Nat} {k : Int} {f f' : Nat → Int} (h : pj_AA R k f) (hr : R u v) (hx : pj_rx f f' u v) : f' v = f v ∨ k + 1 ≤ f' v := by
  rcases hx.2.2.2 with q | q
  · exact Or.inl q
  · by_cases e : f u ≤ k - 1
    · have := h u v hr e
      have := hx.2.1
      exact Or.inl (by omega)
    · exact Or.inr (by omega)
theorem pj_P_x {R S : Nat → Nat → Prop} {u v : Nat} {k l : Int} {f f' : Nat → Int} (h : pj_AA R k f) (hl : l ≤ k + 1) (hr : R u v) (hx : pj_rx f f' u v) (hs : pj_AA S l f) : pj_AA S l f' := by
  intro a b hab ha
  have h1 := pj_rx_le hx b
  by_cases e : a = v
  · subst e
    rcases pj_A_new h hr hx with q | q
    · have := hs a b hab (by omega)
      omega
    · omega
  · rw [hx.1 a e] at ha ⊢
    have := hs a b hab ha
    omega
theorem pj_P_e {u v : Nat} {f f' : Nat → Int} (hx : pj_rx f f' u v) : f' v ≤ f' u + 1 := by
  by_cases e : u = v
  · subst e
    omega
  · rw [hx.1 u e]
    exact hx.2.2.1
/-- more values than places -/
theorem pj_PH : ∀ (n : Nat) (f : Nat → Int), (∀ t : Nat, t ≤ n → ∃ v, v < n ∧ f v = t) → False
  | 0, f, h => by
    obtain ⟨v, h1, -⟩ := h 0 (Nat.le_refl _)
    omega
  | n + 1, f, h => by
    refine pj_PH n (fun v => if f n < f v then f v - 1 else f v) (fun t ht => ?_)
    by_cases e : f n ≤ (t : Int)
    · obtain ⟨v, h1, h2⟩ := h (t + 1) (by omega)
      have hne : v ≠ n := by
        intro q
        rw [q] at h2
        omega
      refine ⟨v, by omega, ?_⟩
      show (if f n < f v then f v - 1 else f v) = _
      rw [if_pos (by omega), h2]
      omega
    · obtain ⟨v, h1, h2⟩ := h t (by omega)
      have hne : v ≠ n := by
        intro q
        rw [q] at h2
        omega
      refine ⟨v, by omega, ?_⟩
      show (if f n < f v then f v - 1 else f v) = _
      rw [if_neg (by omega), h2]
theorem pj_down {R : Nat → Nat → Prop} {g B : Nat} {f : Nat → Int} (hB : B ≤ 8) (hR : ∀ u v, R u v → u < B ∧ v < B) (hW : pj_WW R g f) (hA : pj_AA R B f) : ∀ (t : Nat) (v : Nat), v < B → f v = t → t ≤ B → ∀ s : Nat, s ≤ t → ∃ w, w < B ∧ f w = s
  | 0, v, hv, e, _, s, hs => ⟨v, hv, by rw [e]; omega⟩
  | t + 1, v, hv, e, ht, s, hs => by
    by_cases q : s = t + 1
    · exact ⟨v, hv, by rw [e, q]⟩
    · have hg : v ≠ g := by
        intro z
        rw [z, hW.1] at e
        omega
      obtain ⟨u, h1, h2⟩ := hW.2.2 v (by omega) hg (by omega)
      have h3 := hA u v h1 (by omega)
      exact pj_down hB hR hW hA t u (hR u v h1).1 (by omega) (by omega) s (by omega)
theorem pj_top {R : Nat → Nat → Prop} {g B : Nat} {f : Nat → Int} (hB : B ≤ 8) (hB1 : 1 ≤ B) (hR : ∀ u v, R u v → u < B ∧ v < B) (hW : pj_WW R g f) (hA : pj_AA R B f) : ∀ (n : Nat) (b : Nat), b < 8 → f b ≤ n → (B : Int) ≤ f b → f b < 1000 → ∃ w, w < B ∧ f w = (B : Nat)
  | 0, b, _, e, h1, _ => by omega
  | n + 1, b, hb, e, h1, h2 => by
    have hg : b ≠ g := by
      intro z
      rw [z, hW.1] at h1
      omega
    obtain ⟨u, h3, h4⟩ := hW.2.2 b hb hg h2
    by_cases q : f u ≤ (B : Int) - 1
    · have h5 := hA u b h3 q
      exact ⟨b, (hR u b h3).2, by omega⟩
    · have h6 := (hR u b h3).1
      exact pj_top hB hB1 hR hW hA n u (by omega) (by omega) (by omega) (by omega)
/-- where there is a way, it goes on -/
theorem pj_way {R : Nat → Nat → Prop} {g B : Nat} {f : Nat → Int} (hB : B ≤ 8) (hB1 : 1 ≤ B) (hR : ∀ u v, R u v → u < B ∧ v < B) (hW : pj_WW R g f) (hA : pj_AA R B f) (b : Nat) (hb : b < 8) (hf : f b < 1000) : f b ≤ (B : Int) - 1 ∧ (b ≠ g → ∃ u, R u b ∧ f u = f b - 1) := by
  have h1 : f b ≤ (B : Int) - 1 := by
    apply Classical.byContradiction
    intro q
    have hn := pj_W_nn hW b hb
    obtain ⟨w, h2, h3⟩ := pj_top hB hB1 hR hW hA (f b).toNat b hb (by omega) (by omega) hf
    exact pj_PH B f (fun t ht => pj_down hB hR hW hA B w h2 h3 (Nat.le_refl _) t ht)
  refine ⟨h1, fun hg => ?_⟩
  obtain ⟨u, h2, h3⟩ := hW.2.2 b hb hg hf
  have := hA u b h2 (by omega)
  exact ⟨u, h2, by omega⟩
theorem pj_S_2 {R S S' : Nat → Nat → Prop} {o t : Nat} {k : Int} {f f1 f2 : Nat → Int} (hA : pj_AA R k f) (hS : pj_AA S (k + 1) f) (r1 : R o t) (r2 : R t o) (x1 : pj_rx f f1 o t) (x2 : pj_rx f1 f2 t o) (hs : ∀ u v, S' u v → S u v ∨ (u = o ∧ v = t) ∨ (u = t ∧ v = o)) : pj_AA R k f2 ∧ pj_AA S' (k + 1) f2 := by
  have a1 := pj_P_x hA (by omega) r1 x1 hA
  have a2 := pj_P_x a1 (by omega) r2 x2 a1
  have s1 := pj_P_x hA (Int.le_refl _) r1 x1 hS
  have s2 := pj_P_x a1 (Int.le_refl _) r2 x2 s1
  have e1 : pj_AA (fun u v => u = o ∧ v = t) (k + 1) f1 := fun u v h _ => by
    obtain ⟨rfl, rfl⟩ := h
    exact pj_P_e x1
  have e2 := pj_P_x a1 (Int.le_refl _) r2 x2 e1
  refine ⟨a2, fun u v h q => ?_⟩
  rcases hs u v h with h | h | ⟨rfl, rfl⟩
  · exact s2 u v h q
  · exact e2 u v h q
  · exact pj_P_e x2
def pj_fa (G : pj_G) : Nat → Int := fun j => (pj_ai G 190 j).toInt
def pj_ed (G : pj_G) (op : Int32) (m : Int) (u v : Nat) : Prop := ∃ c : Int32, (0 ≤ c.toInt ∧ c.toInt < m ∧ c.toInt ≤ 9) ∧ pj_bit op c ∧ (((pj_ai G 173 c.toInt.toNat).toInt = u ∧ (pj_ai G 174 c.toInt.toNat).toInt = v) ∨ ((pj_ai G 173 c.toInt.toNat).toInt = v ∧ (pj_ai G 174 c.toInt.toNat).toInt = u))
theorem pj_ed_8 {G : pj_G} {op : Int32} {m : Int} {u v : Nat} (hI : pj_Inv G) (h : pj_ed G op m u v) : u < 8 ∧ v < 8 := by
  obtain ⟨c, h1, h2, h3⟩ := h
  have a1 := hI.2.2.1 173 (10, 0, 7, 0, 0) rfl c.toInt.toNat (by show _ < 10; omega)
  have a2 := hI.2.2.1 174 (10, 0, 7, 0, 0) rfl c.toInt.toNat (by show _ < 10; omega)
  have b1 : (pj_ai G 173 c.toInt.toNat).toInt ≤ 7 := a1.2.1
  have b2 : (pj_ai G 174 c.toInt.toNat).toInt ≤ 7 := a2.2.1
  rcases h3 with h3 | h3
  · omega
  · omega
theorem pj_ed_s {G : pj_G} {op : Int32} {m : Int} {u v : Nat} (h : pj_ed G op m u v) : pj_ed G op m v u := by
  obtain ⟨c, h1, h2, h3⟩ := h
  exact ⟨c, h1, h2, h3.elim (fun q => Or.inr q) (fun q => Or.inl q)⟩
theorem pj_ed_m {G : pj_G} {op : Int32} {m m' : Int} {u v : Nat} (hm : m ≤ m') (h : pj_ed G op m u v) : pj_ed G op m' u v := by
  obtain ⟨c, h1, h2, h3⟩ := h
  exact ⟨c, ⟨h1.1, by omega, h1.2.2⟩, h2, h3⟩
/-- one crossing more -/
theorem pj_ed_1 {G : pj_G} {op c : Int32} {m : Int} {u v o t : Nat} (hc : c.toInt = m) (ht : (pj_ai G 173 c.toInt.toNat).toInt = t) (ho : (pj_ai G 174 c.toInt.toNat).toInt = o) (h : pj_ed G op (m + 1) u v) : pj_ed G op m u v ∨ (u = o ∧ v = t) ∨ (u = t ∧ v = o) := by
  obtain ⟨c', h1, h2, h3⟩ := h
  by_cases e : c'.toInt = m
  · have e2 : c' = c := Int32.toInt_inj.mp (by omega)
    subst e2
    rw [ht, ho] at h3
    refine Or.inr ?_
    rcases h3 with ⟨a, b⟩ | ⟨a, b⟩
    · exact Or.inr ⟨by omega, by omega⟩
    · exact Or.inl ⟨by omega, by omega⟩
  · exact Or.inl ⟨c', ⟨h1.1, by omega, h1.2.2⟩, h2, h3⟩
theorem pj_ed_0 {G : pj_G} {op c : Int32} {m : Int} {u v : Nat} (hc : c.toInt = m) (hb : ¬ pj_bit op c) (h : pj_ed G op (m + 1) u v) : pj_ed G op m u v := by
  obtain ⟨c', h1, h2, h3⟩ := h
  by_cases e : c'.toInt = m
  · have e2 : c' = c := Int32.toInt_inj.mp (by omega)
    subst e2
    exact absurd h2 hb
  · exact ⟨c', ⟨h1.1, by omega, h1.2.2⟩, h2, h3⟩
theorem pj_ed_k {G G0 : pj_G} (h1 : ∀ j, pj_ai G 173 j = pj_ai G0 173 j) (h2 : ∀ j, pj_ai G 174 j = pj_ai G0 174 j) (op : Int32) (m : Int) : pj_ed G op m = pj_ed G0 op m := by
  funext u v
  unfold pj_ed
  simp only [h1, h2]
def pj_f0 (G : pj_G) (g : Int32) (n : Int) : Prop := ∀ j : Nat, (j : Int) < n → pj_fa G j = if (j : Int) = g.toInt then 0 else 1000
theorem pj_f0_s {G G' : pj_G} {g : Int32} {n : Int} (q : pj_f0 G g n) (r : Nat) (hr : (r : Int) = n) (hold : ∀ j, j ≠ r → pj_ai G' 190 j = pj_ai G 190 j) (hv : pj_fa G' r = if (r : Int) = g.toInt then 0 else 1000) : pj_f0 G' g (n + 1) := fun j hj => by
  by_cases e : j = r
  · rw [e]
    exact hv
  · show (pj_ai G' 190 j).toInt = _
    rw [hold j e]
    exact q j (by omega)
theorem pj_f0_W {G : pj_G} {g : Int32} {R : Nat → Nat → Prop} (q : pj_f0 G g 8) (h0 : 0 ≤ g.toInt) (h1 : g.toInt ≤ 7) (h8 : ∀ u v, R u v → u < 8) : pj_WW R g.toInt.toNat (pj_fa G) ∧ pj_AA R 0 (pj_fa G) := by
  refine ⟨⟨?_, fun b hb hg => ?_, fun b hb hg hlt => ?_⟩, fun u v h hu => ?_⟩
  · rw [q _ (by omega), if_pos (by omega)]
  · rw [q b (by omega), if_neg (by omega)]
    decide
  · rw [q b (by omega), if_neg (by omega)] at hlt
    exact absurd hlt (by decide)
  · have h2 := h8 u v h
    rw [q u (by omega)] at hu
    split at hu
    · omega
    · omega
def pj_far (G : pj_G) (g op : Int32) : Prop := pj_WW (pj_ed G op (pj_fi G 171 4).toInt) g.toInt.toNat (pj_fa G) ∧ pj_AA (pj_ed G op (pj_fi G 171 4).toInt) (pj_fi G 171 3).toInt (pj_fa G)
theorem pj_bit_no {s c y : Int32} (h : y = (s >>> (c &&& 31)) &&& Int32.ofInt 1) (e : y.toInt ≠ 1) : ¬ pj_bit s c := by
  intro q
  unfold pj_bit at q
  rw [show (1 : Int32) = Int32.ofInt 1 by decide, ← h] at q
  apply e
  rw [q]
  decide
noncomputable def F_172cx (G0 : pj_G) (s : Int32) (k : Int32) : Int32 := pj_nm (s >>> (k &&& 31)) (fun z1 => pj_nm (z1 &&& (Int32.ofInt 1)) (fun z2 => cond (pj_c1 .ne z2 (Int32.ofInt 1)) (Int32.ofInt 0) (Int32.ofInt 1)))
theorem F_172cx_e (G0 : pj_G) (s : Int32) (k : Int32) : F_172cx G0 s k = pj_nm (s >>> (k &&& 31)) (fun z1 => pj_nm (z1 &&& (Int32.ofInt 1)) (fun z2 => cond (pj_c1 .ne z2 (Int32.ofInt 1)) (Int32.ofInt 0) (Int32.ofInt 1))) := rfl
theorem ct_171cx (G0 : pj_G) (hI : pj_Inv G0) (s : Int32) (k : Int32) : pj_Y 1 171 [.int s, .int k] G0 (fun v' G' => ∃ y : Int32, v' = some (.int y) ∧ G0 = G' ∧ ((0 : Int) ≤ y.toInt ∧ y.toInt ≤ 1) ∧ ((1 ≤ y.toInt → pj_bit s k) ∧ (y.toInt = 0 → ¬ pj_bit s k)) ∧ (y = F_172cx G0 s k)) := by
  have c0_ : (Int32.ofInt 0).toInt = 0 := by decide
  have c1_ : (Int32.ofInt 1).toInt = 1 := by decide
  refine pj_Y_X (M := pj_m171) rfl rfl (Nat.le_of_ble_eq_true rfl) ?_
  have hK : pj_kpt ([], [], []) G0 G0 := pj_kpt_r _ _
  show pj_X _ _ G0 0 [(0, .int s), (1, .int k)] [] _
  rw [F_172cx_e]
  refine pj_X_of (fun r h => pj_R_to (G0, 3, [(0, .int s), (1, .int k)], [.int (s >>> (k &&& 31))], 0, 0) 3 4 (fun _ => rfl) h) ?_
  obtain ⟨z1, hz1⟩ : ∃ z : Int32, z = s >>> (k &&& 31) := ⟨_, rfl⟩
  refine pj_X_eqi hz1.symm ?_
  rw [← hz1, pj_nm_e]
  refine pj_X_of (fun r h => pj_R_to (G0, 5, [(0, .int s), (1, .int k)], [.int (z1 &&& (Int32.ofInt 1))], 0, 0) 5 3 (fun _ => rfl) h) ?_
  obtain ⟨z2, hz2⟩ : ∃ z : Int32, z = z1 &&& (Int32.ofInt 1) := ⟨_, rfl⟩
  refine pj_X_eqi hz2.symm ?_
  rw [← hz2, pj_nm_e]
  have fz2_0 : 0 ≤ z2.toInt ∧ z2.toInt ≤ (Int32.ofInt 1).toInt := by rw [hz2]; exact pj_andI (by omega)
  refine pj_X_of (fun r h => pj_R_to (G0, 6, [(0, .int s), (1, .int k)], [.int (Int32.ofInt 1), .int z2], 0, 0) 6 2 (fun _ => rfl) h) ?_
  cases b3 : pj_c1 .ne z2 (Int32.ofInt 1) with
  | true =>
    rw [pj_cT]
    have ub3 := pj_u_neT b3
    refine pj_X_of (fun r h => pj_R_icT 13 rfl rfl b3 h) ?_
    refine pj_X_of (fun r h => pj_R_to (G0, 14, [(0, .int s), (1, .int k)], [.int (Int32.ofInt 0)], 0, 0) 14 2 (fun _ => rfl) h) ?_
    exact pj_X_rt rfl rfl ⟨_, rfl, rfl, ⟨by omega, by omega⟩, ⟨fun e1 => pj_bit_of (y := z2) (by rw [hz2, hz1]) (by omega), fun e1 => pj_bit_no (y := z2) (by rw [hz2, hz1]) (by omega)⟩, rfl⟩
  | false =>
    rw [pj_cF]
    have ub3 := pj_u_neF b3
    refine pj_X_of (fun r h => pj_R_icF rfl b3 h) ?_
    refine pj_X_of (fun r h => pj_R_to (G0, 14, [(0, .int s), (1, .int k)], [.int (Int32.ofInt 1)], 0, 0) 14 3 (fun _ => rfl) h) ?_
    exact pj_X_rt rfl rfl ⟨_, rfl, rfl, ⟨by omega, by omega⟩, ⟨fun e1 => pj_bit_of (y := z2) (by rw [hz2, hz1]) (by omega), fun e1 => pj_bit_no (y := z2) (by rw [hz2, hz1]) (by omega)⟩, rfl⟩
theorem fr_172cx (G0 : pj_G) (hI : pj_Inv G0) (s : Int32) (k : Int32) : ((0 : Int) ≤ (F_172cx G0 s k).toInt ∧ (F_172cx G0 s k).toInt ≤ 1) ∧ ((1 ≤ (F_172cx G0 s k).toInt → pj_bit s k) ∧ ((F_172cx G0 s k).toInt = 0 → ¬ pj_bit s k)) := by
  obtain ⟨v, G', -, y, -, rfl, r, x, e⟩ := ct_171cx G0 hI s k
  rw [← e]
  exact ⟨r, x⟩
def kc_232 : pj_KT := ([], [190], [190])
theorem lp_ct_232 (G0 : pj_G) (hI0 : pj_Inv G0) (g : Int32) (op : Int32) (rg : (0 : Int) ≤ g.toInt ∧ g.toInt ≤ 7) : ∀ mn : Nat, (∀ (G : pj_G) (hI : pj_Inv G) (hK : pj_kpt kc_232 G0 G) (v3 : Int32), ((0 : Int) ≤ v3.toInt ∧ v3.toInt ≤ 8) → (pj_f0 G g v3.toInt) → ((pj_fi G 171 3).toInt = (pj_fi G0 171 3).toInt ∧ (pj_fi G 171 4).toInt = (pj_fi G0 171 4).toInt) → 5000 - v3.toInt < (mn : Int) → pj_X 1 pj_m232 G 2 [(0, .ref 171), (1, .int g), (2, .int op), (3, .int v3)] [] (fun v G' => v = none ∧ pj_Inv G' ∧ pj_kpt kc_232 G0 G' ∧ (pj_far G' g op))) ∧ (∀ (G : pj_G) (hI : pj_Inv G) (hK : pj_kpt kc_232 G0 G) (v3 : Int32), ((0 : Int) ≤ v3.toInt ∧ v3.toInt ≤ 8) → (pj_WW (pj_ed G0 op (pj_fi G0 171 4).toInt) g.toInt.toNat (pj_fa G)) → (pj_AA (pj_ed G0 op (pj_fi G0 171 4).toInt) v3.toInt (pj_fa G)) → ((pj_fi G 171 3).toInt = (pj_fi G0 171 3).toInt ∧ (pj_fi G 171 4).toInt = (pj_fi G0 171 4).toInt) → (v3.toInt ≤ (pj_fi G0 171 3).toInt) → 100 * (8 - v3.toInt) < (mn : Int) → pj_X 1 pj_m232 G 34 [(0, .ref 171), (1, .int g), (2, .int op), (3, .int v3)] [] (fun v G' => v = none ∧ pj_Inv G' ∧ pj_kpt kc_232 G0 G' ∧ (pj_far G' g op))) ∧ (∀ (G : pj_G) (hI : pj_Inv G) (hK : pj_kpt kc_232 G0 G) (v3 : Int32) (v4 : Int32), ((0 : Int) ≤ v3.toInt ∧ v3.toInt ≤ 7) → ((0 : Int) ≤ v4.toInt ∧ v4.toInt ≤ 10) → (pj_WW (pj_ed G0 op (pj_fi G0 171 4).toInt) g.toInt.toNat (pj_fa G)) → (pj_AA (pj_ed G0 op (pj_fi G0 171 4).toInt) v3.toInt (pj_fa G)) → (pj_AA (pj_ed G0 op v4.toInt) (v3.toInt + 1) (pj_fa G)) → ((pj_fi G 171 3).toInt = (pj_fi G0 171 3).toInt ∧ (pj_fi G 171 4).toInt = (pj_fi G0 171 4).toInt) → (v3.toInt < (pj_fi G0 171 3).toInt ∧ v4.toInt ≤ (pj_fi G0 171 4).toInt) → 100 * (8 - v3.toInt) - 1 - v4.toInt < (mn : Int) → pj_X 1 pj_m232 G 45 [(0, .ref 171), (1, .int g), (2, .int op), (3, .int v3), (4, .int v4)] [] (fun v G' => v = none ∧ pj_Inv G' ∧ pj_kpt kc_232 G0 G' ∧ (pj_far G' g op))) := by
  have c0_ : ((Int16.ofInt 1000).toInt32).toInt = 1000 := by decide
  have c1_ : ((Int8.ofInt 8).toInt32).toInt = 8 := by decide
  have c2_ : (Int32.ofInt 0).toInt = 0 := by decide
  have c3_ : (Int32.ofInt 1).toInt = 1 := by decide
  intro mn
  induction mn with
  | zero =>
    refine ⟨?_, ?_, ?_⟩
    · intro G hI hK v3 rv3 x0_ x1_ hm
      exfalso
      omega
    · intro G hI hK v3 rv3 x0_ x1_ x2_ x3_ hm
      exfalso
      omega
    · intro G hI hK v3 v4 rv3 rv4 x0_ x1_ x2_ x3_ x4_ hm
      exfalso
      omega
  | succ mn ih =>
    refine ⟨?_, ?_, ?_⟩
    · intro G hI hK v3 rv3 x0_ x1_ hm
      obtain ⟨y1, hy1⟩ : ∃ z : Int32, z = pj_fi G 171 3 := ⟨_, rfl⟩
      have ey1 : (pj_fi G 171 3).toInt = y1.toInt := by rw [hy1]
      have ry1 : (0 : Int) ≤ y1.toInt ∧ y1.toInt ≤ 8 := by rw [hy1]; exact hI.2.1 171 3 (0, 8) rfl
      obtain ⟨y2, hy2⟩ : ∃ z : Int32, z = pj_fi G 171 4 := ⟨_, rfl⟩
      have ey2 : (pj_fi G 171 4).toInt = y2.toInt := by rw [hy2]
      have ry2 : (0 : Int) ≤ y2.toInt ∧ y2.toInt ≤ 10 := by rw [hy2]; exact hI.2.1 171 4 (0, 10) rfl
      refine pj_X_of (fun r h => pj_R_to (G, 5, [(0, .ref 171), (1, .int g), (2, .int op), (3, .int v3)], [.int ((Int8.ofInt 8).toInt32), .int v3], 0, 0) 5 3 (fun _ => rfl) h) ?_
      cases b3 : pj_c1 .ge v3 ((Int8.ofInt 8).toInt32) with
      | true =>
        have ub3 := pj_u_geT b3
        refine pj_X_of (fun r h => pj_R_icT 32 rfl rfl b3 h) ?_
        refine pj_X_of (fun r h => pj_R_to (G, 34, [(3, .int (Int32.ofInt 0)), (0, .ref 171), (1, .int g), (2, .int op)], [], 0, 0) 34 3 (fun _ => rfl) h) ?_
        have q4 : (pj_fi G 171 3).toInt = y1.toInt := by rw [show pj_fi G 171 3 = y1 from hy1.symm]
        have q5 : (pj_fi G 171 4).toInt = y2.toInt := by rw [show pj_fi G 171 4 = y2 from hy2.symm]
        have hWA := pj_f0_W (R := (pj_ed G0 op (pj_fi G0 171 4).toInt)) (show pj_f0 G g 8 by rw [show (8 : Int) = v3.toInt by omega]; exact x0_) (by omega) (by omega) (fun u v h => (pj_ed_8 hI0 h).1)
        exact pj_X_sub [(0, .ref 171), (1, .int g), (2, .int op), (3, .int (Int32.ofInt 0))] (show List.Nodup [0, 1, 2, 3] by decide) ⟨rfl, rfl, rfl, rfl, trivial⟩ (ih.2.1 G hI hK (Int32.ofInt 0) ⟨by omega, by omega⟩ hWA.1 (by rw [show (Int32.ofInt 0).toInt = 0 by decide]; exact hWA.2) (by omega) (by omega) (by omega))
      | false =>
        have ub3 := pj_u_geF b3
        refine pj_X_of (fun r h => pj_R_icF rfl b3 h) ?_
        refine pj_X_of (fun r h => pj_R_to (G, 9, [(0, .ref 171), (1, .int g), (2, .int op), (3, .int v3)], [.ref 171], 0, 0) 9 2 (fun _ => rfl) h) ?_
        refine pj_X_of (fun r h => pj_T_gr hI rfl rfl rfl h) ?_
        refine pj_X_of (fun r h => pj_R_to (G, 15, [(0, .ref 171), (1, .int g), (2, .int op), (3, .int v3)], [.int g, .int v3, .int v3, .ref 190], 0, 0) 15 4 (fun _ => rfl) h) ?_
        cases b6 : pj_c1 .ne v3 g with
        | true =>
          have ub6 := pj_u_neT b6
          refine pj_X_of (fun r h => pj_R_icT 22 rfl rfl b6 h) ?_
          refine pj_X_of (fun r h => pj_R_to (G, 25, [(0, .ref 171), (1, .int g), (2, .int op), (3, .int v3)], [.int ((Int16.ofInt 1000).toInt32), .int v3, .ref 190], 0, 0) 25 2 (fun _ => rfl) h) ?_
          refine pj_X_of (fun r h => pj_T_is hI rfl rfl (by omega) (by omega) h) ?_
          show pj_X _ _ (pj_wa G 190 v3.toInt.toNat ((Int16.ofInt 1000).toInt32)) 26 [(0, .ref 171), (1, .int g), (2, .int op), (3, .int v3)] [] _
          obtain ⟨G7, hG7⟩ : ∃ H, H = pj_wa G 190 v3.toInt.toNat ((Int16.ofInt 1000).toInt32) := ⟨_, rfl⟩
          have iG7 : pj_Inv G7 := by rw [hG7]; exact pj_Inv_wa hI rfl (fun q hq => by cases hq; exact ⟨by show (0 : Int) ≤ _; omega, by show _ ≤ (1000 : Int); omega, by show _ ≤ (0 : Int) ∨ (0 : Int) ≤ _; omega⟩) (fun n hn => by cases hn)
          have kG7 : pj_kpt kc_232 G0 G7 := by rw [hG7]; exact pj_kpt_a hK rfl
          rw [← hG7]
          refine pj_X_of (fun r h => pj_R_to (G7, 29, [(3, .int (v3 + Int32.ofInt 1)), (0, .ref 171), (1, .int g), (2, .int op)], [], 0, 0) 29 2 (fun _ => rfl) h) ?_
          obtain ⟨z8, hz8⟩ : ∃ z : Int32, z = v3 + Int32.ofInt 1 := ⟨_, rfl⟩
          rw [← hz8]
          have fz8_0 : z8.toInt = v3.toInt + (Int32.ofInt 1).toInt := by rw [hz8]; exact pj_addI (by have := pj_i32 v3; have := pj_i32 (Int32.ofInt 1); omega) (by have := pj_i32 v3; have := pj_i32 (Int32.ofInt 1); omega)
          refine pj_X_of (fun r h => pj_R_to (G7, 2, [(3, .int z8), (0, .ref 171), (1, .int g), (2, .int op)], [], 0, 0) 2 2 (fun _ => rfl) h) ?_
          have q9 : (pj_fi G7 171 3).toInt = y1.toInt := by rw [show pj_fi G7 171 3 = y1 from by rw [hG7, pj_fi_wa]; exact hy1.symm]
          have q10 : (pj_fi G7 171 4).toInt = y2.toInt := by rw [show pj_fi G7 171 4 = y2 from by rw [hG7, pj_fi_wa]; exact hy2.symm]
          have hv : pj_fa G7 v3.toInt.toNat = if ((v3.toInt.toNat : Nat) : Int) = g.toInt then 0 else 1000 := by show (pj_ai G7 190 v3.toInt.toNat).toInt = _; rw [hG7, pj_ai_wa_eq hI.1 rfl]; rw [if_neg (by omega)]; omega
          exact pj_X_sub [(0, .ref 171), (1, .int g), (2, .int op), (3, .int z8)] (show List.Nodup [0, 1, 2, 3] by decide) ⟨rfl, rfl, rfl, rfl, trivial⟩ (ih.1 G7 iG7 kG7 z8 ⟨by omega, by omega⟩ (by rw [show z8.toInt = v3.toInt + 1 by omega]; exact pj_f0_s x0_ v3.toInt.toNat (by omega) (fun j hj => by rw [hG7, pj_ai_wa_nj _ _ _ _ _ hj]) hv) (by omega) (by omega))
        | false =>
          have ub6 := pj_u_neF b6
          refine pj_X_of (fun r h => pj_R_icF rfl b6 h) ?_
          refine pj_X_of (fun r h => pj_R_to (G, 25, [(0, .ref 171), (1, .int g), (2, .int op), (3, .int v3)], [.int (Int32.ofInt 0), .int v3, .ref 190], 0, 0) 25 3 (fun _ => rfl) h) ?_
          refine pj_X_of (fun r h => pj_T_is hI rfl rfl (by omega) (by omega) h) ?_
          show pj_X _ _ (pj_wa G 190 v3.toInt.toNat (Int32.ofInt 0)) 26 [(0, .ref 171), (1, .int g), (2, .int op), (3, .int v3)] [] _
          obtain ⟨G11, hG11⟩ : ∃ H, H = pj_wa G 190 v3.toInt.toNat (Int32.ofInt 0) := ⟨_, rfl⟩
          have iG11 : pj_Inv G11 := by rw [hG11]; exact pj_Inv_wa hI rfl (fun q hq => by cases hq; exact ⟨by show (0 : Int) ≤ _; omega, by show _ ≤ (1000 : Int); omega, by show _ ≤ (0 : Int) ∨ (0 : Int) ≤ _; omega⟩) (fun n hn => by cases hn)
          have kG11 : pj_kpt kc_232 G0 G11 := by rw [hG11]; exact pj_kpt_a hK rfl
          rw [← hG11]
          refine pj_X_of (fun r h => pj_R_to (G11, 29, [(3, .int (v3 + Int32.ofInt 1)), (0, .ref 171), (1, .int g), (2, .int op)], [], 0, 0) 29 2 (fun _ => rfl) h) ?_
          obtain ⟨z12, hz12⟩ : ∃ z : Int32, z = v3 + Int32.ofInt 1 := ⟨_, rfl⟩
          rw [← hz12]
          have fz12_0 : z12.toInt = v3.toInt + (Int32.ofInt 1).toInt := by rw [hz12]; exact pj_addI (by have := pj_i32 v3; have := pj_i32 (Int32.ofInt 1); omega) (by have := pj_i32 v3; have := pj_i32 (Int32.ofInt 1); omega)
          refine pj_X_of (fun r h => pj_R_to (G11, 2, [(3, .int z12), (0, .ref 171), (1, .int g), (2, .int op)], [], 0, 0) 2 2 (fun _ => rfl) h) ?_
          have q13 : (pj_fi G11 171 3).toInt = y1.toInt := by rw [show pj_fi G11 171 3 = y1 from by rw [hG11, pj_fi_wa]; exact hy1.symm]
          have q14 : (pj_fi G11 171 4).toInt = y2.toInt := by rw [show pj_fi G11 171 4 = y2 from by rw [hG11, pj_fi_wa]; exact hy2.symm]
          have hv : pj_fa G11 v3.toInt.toNat = if ((v3.toInt.toNat : Nat) : Int) = g.toInt then 0 else 1000 := by show (pj_ai G11 190 v3.toInt.toNat).toInt = _; rw [hG11, pj_ai_wa_eq hI.1 rfl]; rw [if_pos (by omega)]; omega
          exact pj_X_sub [(0, .ref 171), (1, .int g), (2, .int op), (3, .int z12)] (show List.Nodup [0, 1, 2, 3] by decide) ⟨rfl, rfl, rfl, rfl, trivial⟩ (ih.1 G11 iG11 kG11 z12 ⟨by omega, by omega⟩ (by rw [show z12.toInt = v3.toInt + 1 by omega]; exact pj_f0_s x0_ v3.toInt.toNat (by omega) (fun j hj => by rw [hG11, pj_ai_wa_nj _ _ _ _ _ hj]) hv) (by omega) (by omega))
    · intro G hI hK v3 rv3 x0_ x1_ x2_ x3_ hm
      obtain ⟨y15, hy15⟩ : ∃ z : Int32, z = pj_fi G 171 3 := ⟨_, rfl⟩
      have ey15 : (pj_fi G 171 3).toInt = y15.toInt := by rw [hy15]
      have ry15 : (0 : Int) ≤ y15.toInt ∧ y15.toInt ≤ 8 := by rw [hy15]; exact hI.2.1 171 3 (0, 8) rfl
      obtain ⟨y16, hy16⟩ : ∃ z : Int32, z = pj_fi G 171 4 := ⟨_, rfl⟩
      have ey16 : (pj_fi G 171 4).toInt = y16.toInt := by rw [hy16]
      have ry16 : (0 : Int) ≤ y16.toInt ∧ y16.toInt ≤ 10 := by rw [hy16]; exact hI.2.1 171 4 (0, 10) rfl
      refine pj_X_of (fun r h => pj_R_to (G, 36, [(0, .ref 171), (1, .int g), (2, .int op), (3, .int v3)], [.ref 171, .int v3], 0, 0) 36 3 (fun _ => rfl) h) ?_
      refine pj_X_of (fun r h => pj_T_gi hI rfl rfl h) ?_
      show pj_X _ _ G 39 [(0, .ref 171), (1, .int g), (2, .int op), (3, .int v3)] [.int (pj_fi G 171 3), .int v3] _
      refine pj_X_eqi (show pj_fi G 171 3 = y15 from hy15.symm) ?_
      cases b17 : pj_c1 .ge v3 y15 with
      | true =>
        have ub17 := pj_u_geT b17
        refine pj_X_of (fun r h => pj_R_icT 157 rfl rfl b17 h) ?_
        have q18 : (pj_fi G 171 3).toInt = y15.toInt := by rw [show pj_fi G 171 3 = y15 from hy15.symm]
        have q19 : (pj_fi G 171 4).toInt = y16.toInt := by rw [show pj_fi G 171 4 = y16 from hy16.symm]
        exact pj_X_rt rfl rfl ⟨rfl, hI, hK, ⟨by rw [pj_ed_k (fun j => hK.2.2 173 (by decide) j) (fun j => hK.2.2 174 (by decide) j), hK.1 (171, 4) (by decide)]; exact x0_, by rw [pj_ed_k (fun j => hK.2.2 173 (by decide) j) (fun j => hK.2.2 174 (by decide) j), hK.1 (171, 4) (by decide), hK.1 (171, 3) (by decide), show (pj_fi G0 171 3).toInt = v3.toInt by omega]; exact x1_⟩⟩
      | false =>
        have ub17 := pj_u_geF b17
        refine pj_X_of (fun r h => pj_R_icF rfl b17 h) ?_
        refine pj_X_of (fun r h => pj_R_to (G, 45, [(4, .int (Int32.ofInt 0)), (0, .ref 171), (1, .int g), (2, .int op), (3, .int v3)], [], 0, 0) 45 3 (fun _ => rfl) h) ?_
        have q20 : (pj_fi G 171 3).toInt = y15.toInt := by rw [show pj_fi G 171 3 = y15 from hy15.symm]
        have q21 : (pj_fi G 171 4).toInt = y16.toInt := by rw [show pj_fi G 171 4 = y16 from hy16.symm]
        exact pj_X_sub [(0, .ref 171), (1, .int g), (2, .int op), (3, .int v3), (4, .int (Int32.ofInt 0))] (show List.Nodup [0, 1, 2, 3, 4] by decide) ⟨rfl, rfl, rfl, rfl, rfl, trivial⟩ (ih.2.2 G hI hK v3 (Int32.ofInt 0) ⟨by omega, by omega⟩ ⟨by omega, by omega⟩ x0_ x1_ (fun u w h q => by obtain ⟨c, h1, -⟩ := h; exfalso; omega) (by omega) (by omega) (by omega))
    · intro G hI hK v3 v4 rv3 rv4 x0_ x1_ x2_ x3_ x4_ hm
      obtain ⟨y22, hy22⟩ : ∃ z : Int32, z = pj_fi G 171 3 := ⟨_, rfl⟩
      have ey22 : (pj_fi G 171 3).toInt = y22.toInt := by rw [hy22]
      have ry22 : (0 : Int) ≤ y22.toInt ∧ y22.toInt ≤ 8 := by rw [hy22]; exact hI.2.1 171 3 (0, 8) rfl
      obtain ⟨y23, hy23⟩ : ∃ z : Int32, z = pj_fi G 171 4 := ⟨_, rfl⟩
      have ey23 : (pj_fi G 171 4).toInt = y23.toInt := by rw [hy23]
      have ry23 : (0 : Int) ≤ y23.toInt ∧ y23.toInt ≤ 10 := by rw [hy23]; exact hI.2.1 171 4 (0, 10) rfl
      refine pj_X_of (fun r h => pj_R_to (G, 48, [(0, .ref 171), (1, .int g), (2, .int op), (3, .int v3), (4, .int v4)], [.ref 171, .int v4], 0, 0) 48 3 (fun _ => rfl) h) ?_
      refine pj_X_of (fun r h => pj_T_gi hI rfl rfl h) ?_
      show pj_X _ _ G 51 [(0, .ref 171), (1, .int g), (2, .int op), (3, .int v3), (4, .int v4)] [.int (pj_fi G 171 4), .int v4] _
      refine pj_X_eqi (show pj_fi G 171 4 = y23 from hy23.symm) ?_
      cases b24 : pj_c1 .ge v4 y23 with
      | true =>
        have ub24 := pj_u_geT b24
        refine pj_X_of (fun r h => pj_R_icT 151 rfl rfl b24 h) ?_
        refine pj_X_of (fun r h => pj_R_to (G, 154, [(3, .int (v3 + Int32.ofInt 1)), (0, .ref 171), (1, .int g), (2, .int op), (4, .int v4)], [], 0, 0) 154 2 (fun _ => rfl) h) ?_
        obtain ⟨z25, hz25⟩ : ∃ z : Int32, z = v3 + Int32.ofInt 1 := ⟨_, rfl⟩
        rw [← hz25]
        have fz25_0 : z25.toInt = v3.toInt + (Int32.ofInt 1).toInt := by rw [hz25]; exact pj_addI (by have := pj_i32 v3; have := pj_i32 (Int32.ofInt 1); omega) (by have := pj_i32 v3; have := pj_i32 (Int32.ofInt 1); omega)
        refine pj_X_of (fun r h => pj_R_to (G, 34, [(3, .int z25), (0, .ref 171), (1, .int g), (2, .int op), (4, .int v4)], [], 0, 0) 34 2 (fun _ => rfl) h) ?_
        have q26 : (pj_fi G 171 3).toInt = y22.toInt := by rw [show pj_fi G 171 3 = y22 from hy22.symm]
        have q27 : (pj_fi G 171 4).toInt = y23.toInt := by rw [show pj_fi G 171 4 = y23 from hy23.symm]
        exact pj_X_sub [(0, .ref 171), (1, .int g), (2, .int op), (3, .int z25)] (show List.Nodup [0, 1, 2, 3] by decide) ⟨rfl, rfl, rfl, rfl, trivial⟩ (ih.2.1 G hI hK z25 ⟨by omega, by omega⟩ x0_ (by rw [show z25.toInt = v3.toInt + 1 by omega]; intro u w h q; exact x2_ u w (pj_ed_m (by omega) h) q) (by omega) (by omega) (by omega))
      | false =>
        have ub24 := pj_u_geF b24
        refine pj_X_of (fun r h => pj_R_icF rfl b24 h) ?_
        refine pj_X_of (fun r h => pj_R_to (G, 57, [(0, .ref 171), (1, .int g), (2, .int op), (3, .int v3), (4, .int v4)], [.int v4, .int op], 0, 0) 57 3 (fun _ => rfl) h) ?_
        have q28 : (pj_fi G 171 3).toInt = y22.toInt := by rw [show pj_fi G 171 3 = y22 from hy22.symm]
        have q29 : (pj_fi G 171 4).toInt = y23.toInt := by rw [show pj_fi G 171 4 = y23 from hy23.symm]
        refine pj_X_ca (vs := [.int op, .int v4]) rfl (fun _ => rfl) ⟨Nat.le_of_ble_eq_true rfl, Nat.le_of_ble_eq_true rfl, rfl⟩ ⟨rfl, rfl⟩ (pj_Y_up (by decide) (ct_171cx G hI op v4)) ?_
        rintro _ _ ⟨y30, rfl, rfl, ry30, ey30, fy30⟩
        show pj_X _ _ G 60 [(0, .ref 171), (1, .int g), (2, .int op), (3, .int v3), (4, .int v4)] [.int y30] _
        cases b31 : pj_c1 .eq y30 0 with
        | true =>
          have ub31 := pj_u0_eqT b31
          refine pj_X_of (fun r h => pj_R_ifT 145 rfl rfl b31 h) ?_
          refine pj_X_of (fun r h => pj_R_to (G, 148, [(4, .int (v4 + Int32.ofInt 1)), (0, .ref 171), (1, .int g), (2, .int op), (3, .int v3)], [], 0, 0) 148 2 (fun _ => rfl) h) ?_
          obtain ⟨z32, hz32⟩ : ∃ z : Int32, z = v4 + Int32.ofInt 1 := ⟨_, rfl⟩
          rw [← hz32]
          have fz32_0 : z32.toInt = v4.toInt + (Int32.ofInt 1).toInt := by rw [hz32]; exact pj_addI (by have := pj_i32 v4; have := pj_i32 (Int32.ofInt 1); omega) (by have := pj_i32 v4; have := pj_i32 (Int32.ofInt 1); omega)
          refine pj_X_of (fun r h => pj_R_to (G, 45, [(4, .int z32), (0, .ref 171), (1, .int g), (2, .int op), (3, .int v3)], [], 0, 0) 45 2 (fun _ => rfl) h) ?_
          have q33 : (pj_fi G 171 3).toInt = y22.toInt := by rw [show pj_fi G 171 3 = y22 from hy22.symm]
          have q34 : (pj_fi G 171 4).toInt = y23.toInt := by rw [show pj_fi G 171 4 = y23 from hy23.symm]
          exact pj_X_sub [(0, .ref 171), (1, .int g), (2, .int op), (3, .int v3), (4, .int z32)] (show List.Nodup [0, 1, 2, 3, 4] by decide) ⟨rfl, rfl, rfl, rfl, rfl, trivial⟩ (ih.2.2 G hI hK v3 z32 ⟨by omega, by omega⟩ ⟨by omega, by omega⟩ x0_ x1_ (by rw [show z32.toInt = v4.toInt + 1 by omega]; intro u w h q; exact x2_ u w (pj_ed_0 (c := v4) rfl (ey30.2 (by omega)) h) q) (by omega) (by omega) (by omega))
        | false =>
          have ub31 := pj_u0_eqF b31
          refine pj_X_of (fun r h => pj_R_ifF rfl b31 h) ?_
          refine pj_X_of (fun r h => pj_R_to (G, 64, [(0, .ref 171), (1, .int g), (2, .int op), (3, .int v3), (4, .int v4)], [.ref 171], 0, 0) 64 2 (fun _ => rfl) h) ?_
          refine pj_X_of (fun r h => pj_T_gr hI rfl rfl rfl h) ?_
          refine pj_X_of (fun r h => pj_R_to (G, 68, [(0, .ref 171), (1, .int g), (2, .int op), (3, .int v3), (4, .int v4)], [.ref 171, .ref 190], 0, 0) 68 2 (fun _ => rfl) h) ?_
          refine pj_X_of (fun r h => pj_T_gr hI rfl rfl rfl h) ?_
          refine pj_X_of (fun r h => pj_R_to (G, 73, [(0, .ref 171), (1, .int g), (2, .int op), (3, .int v3), (4, .int v4)], [.int v4, .ref 173, .ref 190], 0, 0) 73 2 (fun _ => rfl) h) ?_
          refine pj_X_of (fun r h => pj_T_il hI rfl rfl (by omega) (by omega) h) ?_
          show pj_X _ _ G 74 [(0, .ref 171), (1, .int g), (2, .int op), (3, .int v3), (4, .int v4)] [.int (pj_ai G 173 v4.toInt.toNat), .ref 190] _
          obtain ⟨z35, hz35⟩ : ∃ z : Int32, z = pj_ai G 173 v4.toInt.toNat := ⟨_, rfl⟩
          refine pj_X_eqi hz35.symm ?_
          have ez35 : (pj_ai G 173 v4.toInt.toNat).toInt = z35.toInt := by rw [hz35]
          have fz35_0 : (0 : Int) ≤ z35.toInt ∧ z35.toInt ≤ 7 ∧ (z35.toInt ≤ 0 ∨ 0 ≤ z35.toInt) := by rw [hz35]; exact hI.2.2.1 173 (10, 0, 7, 0, 0) rfl _ (by show _ < 10; omega)
          refine pj_X_of (fun r h => pj_R_to (G, 75, [(0, .ref 171), (1, .int g), (2, .int op), (3, .int v3), (4, .int v4)], [.ref 171, .int z35, .ref 190], 0, 0) 75 2 (fun _ => rfl) h) ?_
          refine pj_X_of (fun r h => pj_T_gr hI rfl rfl rfl h) ?_
          refine pj_X_of (fun r h => pj_R_to (G, 79, [(0, .ref 171), (1, .int g), (2, .int op), (3, .int v3), (4, .int v4)], [.ref 171, .ref 190, .int z35, .ref 190], 0, 0) 79 2 (fun _ => rfl) h) ?_
          refine pj_X_of (fun r h => pj_T_gr hI rfl rfl rfl h) ?_
          refine pj_X_of (fun r h => pj_R_to (G, 84, [(0, .ref 171), (1, .int g), (2, .int op), (3, .int v3), (4, .int v4)], [.int v4, .ref 173, .ref 190, .int z35, .ref 190], 0, 0) 84 2 (fun _ => rfl) h) ?_
          refine pj_X_of (fun r h => pj_T_il hI rfl rfl (by omega) (by omega) h) ?_
          show pj_X _ _ G 85 [(0, .ref 171), (1, .int g), (2, .int op), (3, .int v3), (4, .int v4)] [.int (pj_ai G 173 v4.toInt.toNat), .ref 190, .int z35, .ref 190] _
          refine pj_X_eqi hz35.symm ?_
          refine pj_X_of (fun r h => pj_T_il hI rfl rfl (by omega) (by omega) h) ?_
          show pj_X _ _ G 86 [(0, .ref 171), (1, .int g), (2, .int op), (3, .int v3), (4, .int v4)] [.int (pj_ai G 190 z35.toInt.toNat), .int z35, .ref 190] _
          obtain ⟨z36, hz36⟩ : ∃ z : Int32, z = pj_ai G 190 z35.toInt.toNat := ⟨_, rfl⟩
          refine pj_X_eqi hz36.symm ?_
          have ez36 : (pj_ai G 190 z35.toInt.toNat).toInt = z36.toInt := by rw [hz36]
          have fz36_0 : (0 : Int) ≤ z36.toInt ∧ z36.toInt ≤ 1000 ∧ (z36.toInt ≤ 0 ∨ 0 ≤ z36.toInt) := by rw [hz36]; exact hI.2.2.1 190 (8, 0, 1000, 0, 0) rfl _ (by show _ < 8; omega)
          refine pj_X_of (fun r h => pj_R_to (G, 87, [(0, .ref 171), (1, .int g), (2, .int op), (3, .int v3), (4, .int v4)], [.ref 171, .int z36, .int z35, .ref 190], 0, 0) 87 2 (fun _ => rfl) h) ?_
          refine pj_X_of (fun r h => pj_T_gr hI rfl rfl rfl h) ?_
          refine pj_X_of (fun r h => pj_R_to (G, 91, [(0, .ref 171), (1, .int g), (2, .int op), (3, .int v3), (4, .int v4)], [.ref 171, .ref 190, .int z36, .int z35, .ref 190], 0, 0) 91 2 (fun _ => rfl) h) ?_
          refine pj_X_of (fun r h => pj_T_gr hI rfl rfl rfl h) ?_
          refine pj_X_of (fun r h => pj_R_to (G, 96, [(0, .ref 171), (1, .int g), (2, .int op), (3, .int v3), (4, .int v4)], [.int v4, .ref 174, .ref 190, .int z36, .int z35, .ref 190], 0, 0) 96 2 (fun _ => rfl) h) ?_
          refine pj_X_of (fun r h => pj_T_il hI rfl rfl (by omega) (by omega) h) ?_
          show pj_X _ _ G 97 [(0, .ref 171), (1, .int g), (2, .int op), (3, .int v3), (4, .int v4)] [.int (pj_ai G 174 v4.toInt.toNat), .ref 190, .int z36, .int z35, .ref 190] _
          obtain ⟨z37, hz37⟩ : ∃ z : Int32, z = pj_ai G 174 v4.toInt.toNat := ⟨_, rfl⟩
          refine pj_X_eqi hz37.symm ?_
          have ez37 : (pj_ai G 174 v4.toInt.toNat).toInt = z37.toInt := by rw [hz37]
          have fz37_0 : (0 : Int) ≤ z37.toInt ∧ z37.toInt ≤ 7 ∧ (z37.toInt ≤ 0 ∨ 0 ≤ z37.toInt) := by rw [hz37]; exact hI.2.2.1 174 (10, 0, 7, 0, 0) rfl _ (by show _ < 10; omega)
          refine pj_X_of (fun r h => pj_T_il hI rfl rfl (by omega) (by omega) h) ?_
          show pj_X _ _ G 98 [(0, .ref 171), (1, .int g), (2, .int op), (3, .int v3), (4, .int v4)] [.int (pj_ai G 190 z37.toInt.toNat), .int z36, .int z35, .ref 190] _
          obtain ⟨z38, hz38⟩ : ∃ z : Int32, z = pj_ai G 190 z37.toInt.toNat := ⟨_, rfl⟩
          refine pj_X_eqi hz38.symm ?_
          have ez38 : (pj_ai G 190 z37.toInt.toNat).toInt = z38.toInt := by rw [hz38]
          have fz38_0 : (0 : Int) ≤ z38.toInt ∧ z38.toInt ≤ 1000 ∧ (z38.toInt ≤ 0 ∨ 0 ≤ z38.toInt) := by rw [hz38]; exact hI.2.2.1 190 (8, 0, 1000, 0, 0) rfl _ (by show _ < 8; omega)
          refine pj_X_of (fun r h => pj_R_to (G, 100, [(0, .ref 171), (1, .int g), (2, .int op), (3, .int v3), (4, .int v4)], [.int (z38 + (Int32.ofInt 1)), .int z36, .int z35, .ref 190], 0, 0) 100 3 (fun _ => rfl) h) ?_
          obtain ⟨z39, hz39⟩ : ∃ z : Int32, z = z38 + (Int32.ofInt 1) := ⟨_, rfl⟩
          refine pj_X_eqi hz39.symm ?_
          have fz39_0 : z39.toInt = z38.toInt + (Int32.ofInt 1).toInt := by rw [hz39]; exact pj_addI (by have := pj_i32 z38; have := pj_i32 (Int32.ofInt 1); omega) (by have := pj_i32 z38; have := pj_i32 (Int32.ofInt 1); omega)
          refine pj_X_of (fun r h => pj_R_mn (v := (if z39 < z36 then z39 else z36)) rfl rfl rfl (Nat.le_of_ble_eq_true rfl) h) ?_
          show pj_X _ _ G 103 [(0, .ref 171), (1, .int g), (2, .int op), (3, .int v3), (4, .int v4)] [.int (if z39 < z36 then z39 else z36), .int z35, .ref 190] _
          obtain ⟨z40, hz40⟩ : ∃ z : Int32, z = (if z39 < z36 then z39 else z36) := ⟨_, rfl⟩
          refine pj_X_eqi hz40.symm ?_
          have fz40_0 : z40.toInt ≤ z36.toInt ∧ z40.toInt ≤ z39.toInt ∧ (z40.toInt = z36.toInt ∨ z40.toInt = z39.toInt) := by rw [hz40]; exact pj_minI
          refine pj_X_of (fun r h => pj_T_is hI rfl rfl (by omega) (by omega) h) ?_
          show pj_X _ _ (pj_wa G 190 z35.toInt.toNat z40) 104 [(0, .ref 171), (1, .int g), (2, .int op), (3, .int v3), (4, .int v4)] [] _
          obtain ⟨G41, hG41⟩ : ∃ H, H = pj_wa G 190 z35.toInt.toNat z40 := ⟨_, rfl⟩
          have iG41 : pj_Inv G41 := by rw [hG41]; exact pj_Inv_wa hI rfl (fun q hq => by cases hq; exact ⟨by show (0 : Int) ≤ _; omega, by show _ ≤ (1000 : Int); omega, by show _ ≤ (0 : Int) ∨ (0 : Int) ≤ _; omega⟩) (fun n hn => by cases hn)
          have kG41 : pj_kpt kc_232 G0 G41 := by rw [hG41]; exact pj_kpt_a hK rfl
          rw [← hG41]
          refine pj_X_of (fun r h => pj_R_to (G41, 105, [(0, .ref 171), (1, .int g), (2, .int op), (3, .int v3), (4, .int v4)], [.ref 171], 0, 0) 105 2 (fun _ => rfl) h) ?_
          refine pj_X_of (fun r h => pj_T_gr iG41 rfl rfl rfl h) ?_
          refine pj_X_of (fun r h => pj_R_to (G41, 109, [(0, .ref 171), (1, .int g), (2, .int op), (3, .int v3), (4, .int v4)], [.ref 171, .ref 190], 0, 0) 109 2 (fun _ => rfl) h) ?_
          refine pj_X_of (fun r h => pj_T_gr iG41 rfl rfl rfl h) ?_
          refine pj_X_of (fun r h => pj_R_to (G41, 114, [(0, .ref 171), (1, .int g), (2, .int op), (3, .int v3), (4, .int v4)], [.int v4, .ref 174, .ref 190], 0, 0) 114 2 (fun _ => rfl) h) ?_
          refine pj_X_of (fun r h => pj_T_il iG41 rfl rfl (by omega) (by omega) h) ?_
          show pj_X _ _ G41 115 [(0, .ref 171), (1, .int g), (2, .int op), (3, .int v3), (4, .int v4)] [.int (pj_ai G41 174 v4.toInt.toNat), .ref 190] _
          obtain ⟨z42, hz42⟩ : ∃ z : Int32, z = pj_ai G41 174 v4.toInt.toNat := ⟨_, rfl⟩
          refine pj_X_eqi hz42.symm ?_
          have ez42 : (pj_ai G41 174 v4.toInt.toNat).toInt = z42.toInt := by rw [hz42]
          have fz42_0 : (0 : Int) ≤ z42.toInt ∧ z42.toInt ≤ 7 ∧ (z42.toInt ≤ 0 ∨ 0 ≤ z42.toInt) := by rw [hz42]; exact iG41.2.2.1 174 (10, 0, 7, 0, 0) rfl _ (by show _ < 10; omega)
          have xz42_z37 : z42.toInt = z37.toInt := by rw [hz42, hG41, pj_ai_wa_ne _ _ _ _ _ _ (by decide), show v4.toInt.toNat = v4.toInt.toNat by omega, hz37]
          refine pj_X_of (fun r h => pj_R_to (G41, 116, [(0, .ref 171), (1, .int g), (2, .int op), (3, .int v3), (4, .int v4)], [.ref 171, .int z42, .ref 190], 0, 0) 116 2 (fun _ => rfl) h) ?_
          refine pj_X_of (fun r h => pj_T_gr iG41 rfl rfl rfl h) ?_
          refine pj_X_of (fun r h => pj_R_to (G41, 120, [(0, .ref 171), (1, .int g), (2, .int op), (3, .int v3), (4, .int v4)], [.ref 171, .ref 190, .int z42, .ref 190], 0, 0) 120 2 (fun _ => rfl) h) ?_
          refine pj_X_of (fun r h => pj_T_gr iG41 rfl rfl rfl h) ?_
          refine pj_X_of (fun r h => pj_R_to (G41, 125, [(0, .ref 171), (1, .int g), (2, .int op), (3, .int v3), (4, .int v4)], [.int v4, .ref 174, .ref 190, .int z42, .ref 190], 0, 0) 125 2 (fun _ => rfl) h) ?_
          refine pj_X_of (fun r h => pj_T_il iG41 rfl rfl (by omega) (by omega) h) ?_
          show pj_X _ _ G41 126 [(0, .ref 171), (1, .int g), (2, .int op), (3, .int v3), (4, .int v4)] [.int (pj_ai G41 174 v4.toInt.toNat), .ref 190, .int z42, .ref 190] _
          refine pj_X_eqi hz42.symm ?_
          refine pj_X_of (fun r h => pj_T_il iG41 rfl rfl (by omega) (by omega) h) ?_
          show pj_X _ _ G41 127 [(0, .ref 171), (1, .int g), (2, .int op), (3, .int v3), (4, .int v4)] [.int (pj_ai G41 190 z42.toInt.toNat), .int z42, .ref 190] _
          obtain ⟨z43, hz43⟩ : ∃ z : Int32, z = pj_ai G41 190 z42.toInt.toNat := ⟨_, rfl⟩
          refine pj_X_eqi hz43.symm ?_
          have ez43 : (pj_ai G41 190 z42.toInt.toNat).toInt = z43.toInt := by rw [hz43]
          have fz43_0 : (0 : Int) ≤ z43.toInt ∧ z43.toInt ≤ 1000 ∧ (z43.toInt ≤ 0 ∨ 0 ≤ z43.toInt) := by rw [hz43]; exact iG41.2.2.1 190 (8, 0, 1000, 0, 0) rfl _ (by show _ < 8; omega)
          refine pj_X_of (fun r h => pj_R_to (G41, 128, [(0, .ref 171), (1, .int g), (2, .int op), (3, .int v3), (4, .int v4)], [.ref 171, .int z43, .int z42, .ref 190], 0, 0) 128 2 (fun _ => rfl) h) ?_
          refine pj_X_of (fun r h => pj_T_gr iG41 rfl rfl rfl h) ?_
          refine pj_X_of (fun r h => pj_R_to (G41, 132, [(0, .ref 171), (1, .int g), (2, .int op), (3, .int v3), (4, .int v4)], [.ref 171, .ref 190, .int z43, .int z42, .ref 190], 0, 0) 132 2 (fun _ => rfl) h) ?_
          refine pj_X_of (fun r h => pj_T_gr iG41 rfl rfl rfl h) ?_
          refine pj_X_of (fun r h => pj_R_to (G41, 137, [(0, .ref 171), (1, .int g), (2, .int op), (3, .int v3), (4, .int v4)], [.int v4, .ref 173, .ref 190, .int z43, .int z42, .ref 190], 0, 0) 137 2 (fun _ => rfl) h) ?_
          refine pj_X_of (fun r h => pj_T_il iG41 rfl rfl (by omega) (by omega) h) ?_
          show pj_X _ _ G41 138 [(0, .ref 171), (1, .int g), (2, .int op), (3, .int v3), (4, .int v4)] [.int (pj_ai G41 173 v4.toInt.toNat), .ref 190, .int z43, .int z42, .ref 190] _
          obtain ⟨z44, hz44⟩ : ∃ z : Int32, z = pj_ai G41 173 v4.toInt.toNat := ⟨_, rfl⟩
          refine pj_X_eqi hz44.symm ?_
          have ez44 : (pj_ai G41 173 v4.toInt.toNat).toInt = z44.toInt := by rw [hz44]
          have fz44_0 : (0 : Int) ≤ z44.toInt ∧ z44.toInt ≤ 7 ∧ (z44.toInt ≤ 0 ∨ 0 ≤ z44.toInt) := by rw [hz44]; exact iG41.2.2.1 173 (10, 0, 7, 0, 0) rfl _ (by show _ < 10; omega)
          have xz44_z35 : z44.toInt = z35.toInt := by rw [hz44, hG41, pj_ai_wa_ne _ _ _ _ _ _ (by decide), show v4.toInt.toNat = v4.toInt.toNat by omega, hz35]
          refine pj_X_of (fun r h => pj_T_il iG41 rfl rfl (by omega) (by omega) h) ?_
          show pj_X _ _ G41 139 [(0, .ref 171), (1, .int g), (2, .int op), (3, .int v3), (4, .int v4)] [.int (pj_ai G41 190 z44.toInt.toNat), .int z43, .int z42, .ref 190] _
          obtain ⟨z45, hz45⟩ : ∃ z : Int32, z = pj_ai G41 190 z44.toInt.toNat := ⟨_, rfl⟩
          refine pj_X_eqi hz45.symm ?_
          have ez45 : (pj_ai G41 190 z44.toInt.toNat).toInt = z45.toInt := by rw [hz45]
          have fz45_0 : (0 : Int) ≤ z45.toInt ∧ z45.toInt ≤ 1000 ∧ (z45.toInt ≤ 0 ∨ 0 ≤ z45.toInt) := by rw [hz45]; exact iG41.2.2.1 190 (8, 0, 1000, 0, 0) rfl _ (by show _ < 8; omega)
          refine pj_X_of (fun r h => pj_R_to (G41, 141, [(0, .ref 171), (1, .int g), (2, .int op), (3, .int v3), (4, .int v4)], [.int (z45 + (Int32.ofInt 1)), .int z43, .int z42, .ref 190], 0, 0) 141 3 (fun _ => rfl) h) ?_
          obtain ⟨z46, hz46⟩ : ∃ z : Int32, z = z45 + (Int32.ofInt 1) := ⟨_, rfl⟩
          refine pj_X_eqi hz46.symm ?_
          have fz46_0 : z46.toInt = z45.toInt + (Int32.ofInt 1).toInt := by rw [hz46]; exact pj_addI (by have := pj_i32 z45; have := pj_i32 (Int32.ofInt 1); omega) (by have := pj_i32 z45; have := pj_i32 (Int32.ofInt 1); omega)
          refine pj_X_of (fun r h => pj_R_mn (v := (if z46 < z43 then z46 else z43)) rfl rfl rfl (Nat.le_of_ble_eq_true rfl) h) ?_
          show pj_X _ _ G41 144 [(0, .ref 171), (1, .int g), (2, .int op), (3, .int v3), (4, .int v4)] [.int (if z46 < z43 then z46 else z43), .int z42, .ref 190] _
          obtain ⟨z47, hz47⟩ : ∃ z : Int32, z = (if z46 < z43 then z46 else z43) := ⟨_, rfl⟩
          refine pj_X_eqi hz47.symm ?_
          have fz47_0 : z47.toInt ≤ z43.toInt ∧ z47.toInt ≤ z46.toInt ∧ (z47.toInt = z43.toInt ∨ z47.toInt = z46.toInt) := by rw [hz47]; exact pj_minI
          refine pj_X_of (fun r h => pj_T_is iG41 rfl rfl (by omega) (by omega) h) ?_
          show pj_X _ _ (pj_wa G41 190 z42.toInt.toNat z47) 145 [(0, .ref 171), (1, .int g), (2, .int op), (3, .int v3), (4, .int v4)] [] _
          obtain ⟨G48, hG48⟩ : ∃ H, H = pj_wa G41 190 z42.toInt.toNat z47 := ⟨_, rfl⟩
          have iG48 : pj_Inv G48 := by rw [hG48]; exact pj_Inv_wa iG41 rfl (fun q hq => by cases hq; exact ⟨by show (0 : Int) ≤ _; omega, by show _ ≤ (1000 : Int); omega, by show _ ≤ (0 : Int) ∨ (0 : Int) ≤ _; omega⟩) (fun n hn => by cases hn)
          have kG48 : pj_kpt kc_232 G0 G48 := by rw [hG48]; exact pj_kpt_a kG41 rfl
          rw [← hG48]
          refine pj_X_of (fun r h => pj_R_to (G48, 148, [(4, .int (v4 + Int32.ofInt 1)), (0, .ref 171), (1, .int g), (2, .int op), (3, .int v3)], [], 0, 0) 148 2 (fun _ => rfl) h) ?_
          obtain ⟨z49, hz49⟩ : ∃ z : Int32, z = v4 + Int32.ofInt 1 := ⟨_, rfl⟩
          rw [← hz49]
          have fz49_0 : z49.toInt = v4.toInt + (Int32.ofInt 1).toInt := by rw [hz49]; exact pj_addI (by have := pj_i32 v4; have := pj_i32 (Int32.ofInt 1); omega) (by have := pj_i32 v4; have := pj_i32 (Int32.ofInt 1); omega)
          refine pj_X_of (fun r h => pj_R_to (G48, 45, [(4, .int z49), (0, .ref 171), (1, .int g), (2, .int op), (3, .int v3)], [], 0, 0) 45 2 (fun _ => rfl) h) ?_
          have q50 : (pj_fi G48 171 3).toInt = y22.toInt := by rw [show pj_fi G48 171 3 = y22 from by rw [hG48, pj_fi_wa]; exact (by rw [hG41, pj_fi_wa]; exact hy22.symm)]
          have q51 : (pj_fi G48 171 4).toInt = y23.toInt := by rw [show pj_fi G48 171 4 = y23 from by rw [hG48, pj_fi_wa]; exact (by rw [hG41, pj_fi_wa]; exact hy23.symm)]
          have ev0 : (pj_ai G41 190 z35.toInt.toNat).toInt = z40.toInt := by rw [hG41, pj_ai_wa_eq hI.1 rfl]
          have hx0 : pj_rx (pj_fa G) (pj_fa G41) z37.toInt.toNat z35.toInt.toNat := ⟨fun j hj => by show (pj_ai G41 190 j).toInt = (pj_ai G 190 j).toInt; rw [hG41, pj_ai_wa_nj _ _ _ _ _ hj], by show (pj_ai G41 190 _).toInt ≤ (pj_ai G 190 _).toInt; omega, by show (pj_ai G41 190 _).toInt ≤ (pj_ai G 190 _).toInt + 1; omega, by show (pj_ai G41 190 _).toInt = (pj_ai G 190 _).toInt ∨ (pj_ai G41 190 _).toInt = (pj_ai G 190 _).toInt + 1; omega⟩
          have ev1 : (pj_ai G48 190 z42.toInt.toNat).toInt = z47.toInt := by rw [hG48, pj_ai_wa_eq iG41.1 rfl]
          have hx1 : pj_rx (pj_fa G41) (pj_fa G48) z44.toInt.toNat z42.toInt.toNat := ⟨fun j hj => by show (pj_ai G48 190 j).toInt = (pj_ai G41 190 j).toInt; rw [hG48, pj_ai_wa_nj _ _ _ _ _ hj], by show (pj_ai G48 190 _).toInt ≤ (pj_ai G41 190 _).toInt; omega, by show (pj_ai G48 190 _).toInt ≤ (pj_ai G41 190 _).toInt + 1; omega, by show (pj_ai G48 190 _).toInt = (pj_ai G41 190 _).toInt ∨ (pj_ai G48 190 _).toInt = (pj_ai G41 190 _).toInt + 1; omega⟩
          have hn2 : z42.toInt.toNat = z37.toInt.toNat := by omega
          have hn3 : z44.toInt.toNat = z35.toInt.toNat := by omega
          rw [hn2, hn3] at hx1
          have at0 : (pj_ai G0 173 v4.toInt.toNat).toInt = ((z35.toInt.toNat : Nat) : Int) := by rw [← hK.2.2 173 (by decide), ← hz35]; omega
          have ao0 : (pj_ai G0 174 v4.toInt.toNat).toInt = ((z37.toInt.toNat : Nat) : Int) := by rw [← hK.2.2 174 (by decide), ← hz37]; omega
          have r1 : (pj_ed G0 op (pj_fi G0 171 4).toInt) z37.toInt.toNat z35.toInt.toNat := ⟨v4, ⟨by omega, by omega, by omega⟩, ey30.1 (by omega), Or.inr ⟨at0, ao0⟩⟩
          obtain ⟨hA2, hS2⟩ := pj_S_2 x1_ x2_ r1 (pj_ed_s r1) hx0 hx1 (fun u v h => pj_ed_1 (c := v4) rfl at0 ao0 h)
          have hW2 := pj_W_x (pj_W_x x0_ (by omega) r1 hx0) (by omega) (pj_ed_s r1) hx1
          exact pj_X_sub [(0, .ref 171), (1, .int g), (2, .int op), (3, .int v3), (4, .int z49)] (show List.Nodup [0, 1, 2, 3, 4] by decide) ⟨rfl, rfl, rfl, rfl, rfl, trivial⟩ (ih.2.2 G48 iG48 kG48 v3 z49 ⟨by omega, by omega⟩ ⟨by omega, by omega⟩ hW2 hA2 (by rw [show z49.toInt = v4.toInt + 1 by omega]; exact hS2) (by omega) (by omega) (by omega))
theorem ct_232 (G0 : pj_G) (hI : pj_Inv G0) (g : Int32) (op : Int32) (rg : (0 : Int) ≤ g.toInt ∧ g.toInt ≤ 7) : pj_Y 2 232 [.ref 171, .int g, .int op] G0 (fun v G' => v = none ∧ pj_Inv G' ∧ pj_kpt kc_232 G0 G' ∧ (pj_far G' g op)) := by
  have c0_ : ((Int16.ofInt 1000).toInt32).toInt = 1000 := by decide
  have c1_ : ((Int8.ofInt 8).toInt32).toInt = 8 := by decide
  have c2_ : (Int32.ofInt 0).toInt = 0 := by decide
  have c3_ : (Int32.ofInt 1).toInt = 1 := by decide
  refine pj_Y_X (M := pj_m232) rfl rfl (Nat.le_of_ble_eq_true rfl) ?_
  have hK : pj_kpt kc_232 G0 G0 := pj_kpt_r _ _
  show pj_X _ _ G0 0 [(0, .ref 171), (1, .int g), (2, .int op)] [] _
  obtain ⟨y52, hy52⟩ : ∃ z : Int32, z = pj_fi G0 171 3 := ⟨_, rfl⟩
  have ey52 : (pj_fi G0 171 3).toInt = y52.toInt := by rw [hy52]
  have ry52 : (0 : Int) ≤ y52.toInt ∧ y52.toInt ≤ 8 := by rw [hy52]; exact hI.2.1 171 3 (0, 8) rfl
  obtain ⟨y53, hy53⟩ : ∃ z : Int32, z = pj_fi G0 171 4 := ⟨_, rfl⟩
  have ey53 : (pj_fi G0 171 4).toInt = y53.toInt := by rw [hy53]
  have ry53 : (0 : Int) ≤ y53.toInt ∧ y53.toInt ≤ 10 := by rw [hy53]; exact hI.2.1 171 4 (0, 10) rfl
  refine pj_X_of (fun r h => pj_R_to (G0, 2, [(3, .int (Int32.ofInt 0)), (0, .ref 171), (1, .int g), (2, .int op)], [], 0, 0) 2 3 (fun _ => rfl) h) ?_
  have q54 : (pj_fi G0 171 3).toInt = y52.toInt := by rw [show pj_fi G0 171 3 = y52 from hy52.symm]
  have q55 : (pj_fi G0 171 4).toInt = y53.toInt := by rw [show pj_fi G0 171 4 = y53 from hy53.symm]
  exact pj_X_sub [(0, .ref 171), (1, .int g), (2, .int op), (3, .int (Int32.ofInt 0))] (show List.Nodup [0, 1, 2, 3] by decide) ⟨rfl, rfl, rfl, rfl, trivial⟩ ((lp_ct_232 G0 hI g op rg 6001).1 G0 hI hK (Int32.ofInt 0) ⟨by omega, by omega⟩ (fun j hj => absurd hj (by omega)) (by omega) (by omega))
