/-! THE LAW'S CALLS BY INTERVALS, its helpers that catch too -/
def pj_isI (p : pj_AV) : Bool := match p.1 with
  | .int _ => true
  | _ => false
theorem pj_isI_s {p : pj_AV} {v : Value} (h : pj_isI p = true) (hg : pj_ga p v) : ∃ x : Int32, v = .int x := by
  obtain ⟨w, q⟩ := p
  cases w
  case int x => exact pj_ga_int hg
  all_goals cases h
noncomputable def pj_hz (M : pj_M) (tp a : Nat) (ps : List pj_AV) (G : pj_G) : pj_AW := match pj_get G a with
  | some (.inr (c, _)) => if c = 11 ∧ ps.all pj_isI = true then (match pj_zto (pj_zexec pj_prog 20000 40) M tp 60 (G, 0, pj_yargs 0 ((.ref a, none) :: ps), [], 0, 0) with
    | some (_, _, _, [], _, _) => some (some (.int 1, none), (G.1, false), 1, 6)
    | _ => none) else none
  | _ => none
theorem pj_hz_s {M : pj_M} {tp a : Nat} {ps : List pj_AV} {G : pj_G} {r : Option pj_AV × pj_G × Nat × Nat} (h : pj_hz M tp a ps G = some r) {vs : List Value} (hg : pj_gs ps vs) : r = (some (.int 1, none), (G.1, false), 1, 6) ∧ ps.all pj_isI = true ∧ (∃ fs, pj_get G a = some (.inr (11, fs))) ∧ ∃ L', pj_to (pj_exec pj_prog pj_nat 20000 998) 0 pj_x0 M tp 20000 (G, 0, lv_args 0 (.ref a :: vs), [], 0, 0) = some (G, tp, L', [], 0, 0) := by
  unfold pj_hz at h
  split at h
  · rename_i c fs hget
    split at h
    · rename_i hc
      obtain ⟨hc, hi⟩ := hc
      subst hc
      split at h
      · rename_i t0 t1 t2 t4 t5 ht
        cases h
        obtain ⟨ho, hk⟩ := pj_zexec_s (P := pj_prog) (bi := pj_nat) (f := 20000) 40
        have hg2 : pj_gs ((.ref a, none) :: ps) (.ref a :: vs) := ⟨rfl, hg⟩
        obtain ⟨L', S', h1, h2⟩ := pj_zto_s ho hk 60 G 0 _ [] 0 0 (lv_args 0 (.ref a :: vs)) [] _ ht (pj_yargs_s 0 hg2) trivial
        have h2 := pj_gs_nil h2
        subst h2
        exact ⟨rfl, hi, ⟨fs, hget⟩, L', pj_to_le (pj_exec_le (Nat.le_refl _) 40 998 (by decide)) (Or.inr rfl) 60 20000 _ _ (by decide) h1⟩
      · cases h
    · cases h
  · cases h
noncomputable def pj_lac : pj_AF := fun mi as G => if mi < 1000 then pj_yexec pj_prog pj_nat 20000 40 mi as G else (match mi - 1000 with
  | 0 => (match as with
    | [(.ref a, none), p0, p1, (.ref _, none)] => pj_hz pj_m123 20 a [p0, p1] G
    | _ => none)
  | 1 => (match as with
    | [(.ref a, none), p0, p1, (.ref _, none)] => pj_hz pj_m124 20 a [p0, p1] G
    | _ => none)
  | 2 => (match as with
    | [(.ref a, none), p0, p1, (.ref _, none)] => pj_hz pj_m125 20 a [p0, p1] G
    | _ => none)
  | 3 => (match as with
    | [(.ref a, none), p0, (.ref _, none)] => pj_hz pj_m160 15 a [p0] G
    | _ => none)
  | _ => none)
theorem pj_gs_4 {a o : Nat} {p0 p1 : pj_AV} {vs : List Value} (h : pj_gs [(.ref a, none), p0, p1, (.ref o, none)] vs) : ∃ v0 v1, vs = [.ref a, v0, v1, .ref o] ∧ pj_ga p0 v0 ∧ pj_ga p1 v1 := by
  obtain ⟨w1, t1, rfl, g1, h⟩ := pj_gs_cons h
  obtain ⟨w2, t2, rfl, g2, h⟩ := pj_gs_cons h
  obtain ⟨w3, t3, rfl, g3, h⟩ := pj_gs_cons h
  obtain ⟨w4, t4, rfl, g4, h⟩ := pj_gs_cons h
  have h := pj_gs_nil h
  subst h
  have g1 : w1 = .ref a := g1
  have g4 : w4 = .ref o := g4
  subst g1 g4
  exact ⟨w2, w3, rfl, g2, g3⟩
theorem pj_gs_3 {a o : Nat} {p0 : pj_AV} {vs : List Value} (h : pj_gs [(.ref a, none), p0, (.ref o, none)] vs) : ∃ v0, vs = [.ref a, v0, .ref o] ∧ pj_ga p0 v0 := by
  obtain ⟨w1, t1, rfl, g1, h⟩ := pj_gs_cons h
  obtain ⟨w2, t2, rfl, g2, h⟩ := pj_gs_cons h
  obtain ⟨w4, t4, rfl, g4, h⟩ := pj_gs_cons h
  have h := pj_gs_nil h
  subst h
  have g1 : w1 = .ref a := g1
  have g4 : w4 = .ref o := g4
  subst g1 g4
  exact ⟨w2, rfl, g2⟩
theorem pj_lac_s : pj_okA pj_lac (pj_lc 20000) := fun mi as G vs r hg h => by
  unfold pj_lac at h
  split at h
  · rename_i hm
    obtain ⟨v, h1, h2⟩ := pj_yexec_s (P := pj_prog) (bi := pj_nat) (f := 20000) 40 mi as G vs r hg h
    exact ⟨v, h1, pj_sub_lc (Nat.le_refl 20000) (by decide) _ _ _ _ h2⟩
  · rename_i hm
    have e1 : mi = 1000 + (mi - 1000) := by omega
    rw [e1, pj_lc_hi]
    generalize mi - 1000 = j at h
    split at h
    · split at h
      · rename_i a p0 p1 o
        obtain ⟨v0, v1, rfl, g0, g1⟩ := pj_gs_4 hg
        obtain ⟨rfl, hi, hfs, hL⟩ := pj_hz_s h (vs := [v0, v1]) ⟨g0, g1, trivial⟩
        simp only [List.all_cons, List.all_nil, Bool.and_true, Bool.and_eq_true] at hi
        obtain ⟨x0, rfl⟩ := pj_isI_s hi.1 g0
        obtain ⟨x1, rfl⟩ := pj_isI_s hi.2 g1
        exact ⟨some (.int 1), rfl, if_pos (show pj_hx0 20000 a x0 x1 G from ⟨hfs, hL⟩)⟩
      · cases h
    · split at h
      · rename_i a p0 p1 o
        obtain ⟨v0, v1, rfl, g0, g1⟩ := pj_gs_4 hg
        obtain ⟨rfl, hi, hfs, hL⟩ := pj_hz_s h (vs := [v0, v1]) ⟨g0, g1, trivial⟩
        simp only [List.all_cons, List.all_nil, Bool.and_true, Bool.and_eq_true] at hi
        obtain ⟨x0, rfl⟩ := pj_isI_s hi.1 g0
        obtain ⟨x1, rfl⟩ := pj_isI_s hi.2 g1
        exact ⟨some (.int 1), rfl, if_pos (show pj_hx1 20000 a x0 x1 G from ⟨hfs, hL⟩)⟩
      · cases h
    · split at h
      · rename_i a p0 p1 o
        obtain ⟨v0, v1, rfl, g0, g1⟩ := pj_gs_4 hg
        obtain ⟨rfl, hi, hfs, hL⟩ := pj_hz_s h (vs := [v0, v1]) ⟨g0, g1, trivial⟩
        simp only [List.all_cons, List.all_nil, Bool.and_true, Bool.and_eq_true] at hi
        obtain ⟨x0, rfl⟩ := pj_isI_s hi.1 g0
        obtain ⟨x1, rfl⟩ := pj_isI_s hi.2 g1
        exact ⟨some (.int 1), rfl, if_pos (show pj_hx2 20000 a x0 x1 G from ⟨hfs, hL⟩)⟩
      · cases h
    · split at h
      · rename_i a p0 o
        obtain ⟨v0, rfl, g0⟩ := pj_gs_3 hg
        obtain ⟨rfl, hi, hfs, hL⟩ := pj_hz_s h (vs := [v0]) ⟨g0, trivial⟩
        simp only [List.all_cons, List.all_nil, Bool.and_true] at hi
        obtain ⟨x0, rfl⟩ := pj_isI_s hi g0
        exact ⟨some (.int 1), rfl, if_pos (show pj_hx3 20000 a x0 G from ⟨hfs, hL⟩)⟩
      · cases h
    · cases h
noncomputable def pj_chkH (c : Int32) (sc : List pj_AV) : Bool := match pj_yrun 6 sc pj_lac pj_law 60 (pj_t0.1, 39, pj_t0.2.2.1.map (fun q => (q.1, (q.2, none))), [(.int c, none)], pj_t0.2.2.2.2.1, pj_t0.2.2.2.2.2) with
  | some (some (.int x, none), _, mc, ms) => decide (x = 1) && (Nat.ble mc 600002 && Nat.ble ms 7302232)
  | _ => false
set_option maxRecDepth 100000 in
theorem pj_chkH_s {c : Int32} {sc : List pj_AV} (hchk : pj_chkH c sc = true) (xs : Nat → Int32) (h0 : xs 0 &&& 63 = c) (hsc : ∀ (j : Nat) (a : pj_AV), sc[j]? = some a → pj_ga a (.int (xs j))) : pj_goal xs := by
  unfold pj_chkH at hchk
  split at hchk
  · rename_i x G' mc ms hy
    simp only [Bool.and_eq_true, decide_eq_true_eq] at hchk
    obtain ⟨hx1, hm, hs⟩ := hchk
    obtain ⟨v, hv, hr⟩ := pj_yrun_s pj_lac_s hsc 60 pj_t0.1 39 (pj_t0.2.2.1.map (fun q => (q.1, (q.2, none)))) [(.int c, none)] pj_t0.2.2.2.2.1 pj_t0.2.2.2.2.2 pj_t0.2.2.1 [.int c] (some (.int x, none), G', mc, ms) hy (pj_gl_ex _) (And.intro rfl True.intro)
    have hv2 : v = some (.int 1) := by
      cases v with
      | none => exact hv.elim
      | some w => rw [show w = .int x from hv, hx1]
    subst hv2
    exact pj_join h0 hr (Nat.le_of_ble_eq_true hm) (Nat.le_of_ble_eq_true hs)
  · cases hchk
/-- any check, box by box -/
def pj_allg (chk : List pj_AV → Bool) : List (List Int) → List pj_AV → Bool
  | [], acc => chk acc
  | cs :: t, acc => (pj_cov (-2147483648) cs).all (fun q => pj_allg chk t (acc ++ [pj_box q]))
theorem pj_acc_s {xs : Nat → Int32} {acc : List pj_AV} (ha : ∀ (j : Nat) (a : pj_AV), acc[j]? = some a → pj_ga a (.int (xs j))) {q : Int × Int} (h3 : q.1 ≤ (xs acc.length).toInt ∧ (xs acc.length).toInt ≤ q.2) : ∀ (j : Nat) (a : pj_AV), (acc ++ [pj_box q])[j]? = some a → pj_ga a (.int (xs j)) := fun j a hj => by
  rw [List.getElem?_append] at hj
  split at hj
  · exact ha j a hj
  · rename_i hlt
    by_cases e : j = acc.length
    · subst e
      rw [Nat.sub_self] at hj
      cases hj
      exact pj_box_s h3
    · have : j - acc.length ≠ 0 := by omega
      obtain ⟨n, hn⟩ := Nat.exists_eq_succ_of_ne_zero this
      rw [hn] at hj
      cases hj
theorem pj_allg_s {chk : List pj_AV → Bool} {xs : Nat → Int32} : ∀ (css : List (List Int)) (acc : List pj_AV), pj_allg chk css acc = true → (∀ (j : Nat) (a : pj_AV), acc[j]? = some a → pj_ga a (.int (xs j))) → ∃ sc, chk sc = true ∧ ∀ (j : Nat) (a : pj_AV), sc[j]? = some a → pj_ga a (.int (xs j))
  | [], acc, h, ha => ⟨acc, h, ha⟩
  | cs :: t, acc, h, ha => by
    have b1 : (-2147483648 : Int) ≤ (xs acc.length).toInt := Int32.le_toInt _
    have b2 : (xs acc.length).toInt ≤ 2147483647 := Int32.toInt_le _
    obtain ⟨q, hq, h3⟩ := pj_cov_s cs b1 b2
    have h4 := List.all_eq_true.mp (show (pj_cov (-2147483648) cs).all (fun q => pj_allg chk t (acc ++ [pj_box q])) = true from h) q hq
    exact pj_allg_s t _ h4 (pj_acc_s ha h3)
theorem pj_gH {c : Int32} {css : List (List Int)} (h : pj_allg (pj_chkH c) css [] = true) {xs : Nat → Int32} (h0 : xs 0 &&& 63 = c) : pj_goal xs := by
  obtain ⟨sc, h1, h2⟩ := pj_allg_s css [] h (fun j a h => by cases h)
  exact pj_chkH_s h1 xs h0 h2
theorem pj_gK {c : Int32} {css : List (List Int)} (h : pj_allk c css [] = true) {xs : Nat → Int32} (h0 : xs 0 &&& 63 = c) : pj_goal xs := by
  obtain ⟨sc, h1, h2⟩ := pj_allk_s css [] h (fun j a h => by cases h)
  exact pj_long_of h1 xs h0 h2
theorem pj_gC {c : Int32} {acc : List pj_AV} (h : pj_chk c acc = true) {xs : Nat → Int32} (h0 : xs 0 &&& 63 = c) (ha : ∀ (j : Nat) (a : pj_AV), acc[j]? = some a → pj_ga a (.int (xs j))) : pj_goal xs := pj_long_of h xs h0 ha
