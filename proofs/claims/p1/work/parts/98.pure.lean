/-! ALL CASES -/
def pj_cvr (xs : Nat → Int32) : Nat → List pj_AV → Prop
  | _, [] => True
  | i, a :: t => pj_ga a (.int (xs i)) ∧ pj_cvr xs (i + 1) t
theorem pj_cvr_s {xs : Nat → Int32} : ∀ (sc : List pj_AV) (i : Nat), pj_cvr xs i sc → ∀ (j : Nat) (a : pj_AV), sc[j]? = some a → pj_ga a (.int (xs (i + j)))
  | [], i, _, j, a, h => by cases h
  | b :: t, i, hc, 0, a, h => by
    cases h
    exact hc.1
  | b :: t, i, hc, j + 1, a, h => by
    have e := pj_cvr_s t (i + 1) hc.2 j a h
    rw [show i + (j + 1) = i + 1 + j by omega]
    exact e
theorem pj_gB {c : Int32} {sc : List pj_AV} (h : pj_chk c sc = true) {xs : Nat → Int32} (h0 : xs 0 &&& 63 = c) (ha : pj_cvr xs 0 sc) : pj_goal xs := pj_gC h h0 (fun j a hj => by
  have e := pj_cvr_s sc 0 ha j a hj
  rw [Nat.zero_add] at e
  exact e)
theorem pj_bA (x : Int32) : pj_ga (pj_box (-2147483648, 2147483647)) (.int x) := pj_box_s ⟨Int32.le_toInt x, Int32.toInt_le x⟩
theorem pj_bL {x : Int32} {h : Int} (hx : x.toInt ≤ h) : pj_ga (pj_box (-2147483648, h)) (.int x) := pj_box_s ⟨Int32.le_toInt x, hx⟩
theorem pj_bH {x : Int32} {l : Int} (hx : l ≤ x.toInt) : pj_ga (pj_box (l, 2147483647)) (.int x) := pj_box_s ⟨hx, Int32.toInt_le x⟩
theorem pj_bM {x : Int32} {l h : Int} (h1 : l ≤ x.toInt) (h2 : x.toInt ≤ h) : pj_ga (pj_box (l, h)) (.int x) := pj_box_s ⟨h1, h2⟩
theorem pj_bE {x : Int32} {l : Int} (h1 : x.toInt = l) : pj_ga (pj_box (l, l)) (.int x) := pj_box_s ⟨by show l ≤ _; omega, by show _ ≤ l; omega⟩
theorem pj_g14 {xs : Nat → Int32} (h0 : xs 0 &&& 63 = 14) : pj_goal xs := by
  by_cases h1 : (xs 1).toInt < 0
  · exact pj_gB (pj_cs14 _ List.mem_cons_self) h0 ⟨pj_bA (xs 0), pj_bL (x := xs 1) (by omega), trivial⟩
  · by_cases h2 : 99 < (xs 1).toInt
    · exact pj_gB (pj_cs14 _ (List.mem_cons_of_mem _ List.mem_cons_self)) h0 ⟨pj_bA (xs 0), pj_bH (x := xs 1) (by omega), trivial⟩
    · exact pj_gv14 h0 ⟨by omega, by omega⟩
theorem pj_g37 {xs : Nat → Int32} (h0 : xs 0 &&& 63 = 37) : pj_goal xs := by
  by_cases h1 : (xs 1).toInt < 0
  · exact pj_gB (pj_cs37 _ List.mem_cons_self) h0 ⟨pj_bA (xs 0), pj_bL (x := xs 1) (by omega), trivial⟩
  · by_cases h2 : 9 < (xs 1).toInt
    · exact pj_gB (pj_cs37 _ (List.mem_cons_of_mem _ List.mem_cons_self)) h0 ⟨pj_bA (xs 0), pj_bH (x := xs 1) (by omega), trivial⟩
    · exact pj_gv37 h0 ⟨by omega, by omega⟩
theorem pj_g35 {xs : Nat → Int32} (h0 : xs 0 &&& 63 = 35) : pj_goal xs := by
  by_cases a1 : (xs 1).toInt < 0
  · exact pj_gB (pj_cs35 _ List.mem_cons_self) h0 ⟨pj_bA (xs 0), pj_bL (x := xs 1) (by omega), pj_bA (xs 2), pj_bA (xs 3), pj_bA (xs 4), trivial⟩
  by_cases b1 : 16777215 < (xs 1).toInt
  · exact pj_gB (pj_cs35 _ (List.mem_cons_of_mem _ List.mem_cons_self)) h0 ⟨pj_bA (xs 0), pj_bH (x := xs 1) (by omega), pj_bA (xs 2), pj_bA (xs 3), pj_bA (xs 4), trivial⟩
  by_cases a2 : (xs 2).toInt < 0
  · exact pj_gB (pj_cs35 _ (List.mem_cons_of_mem _ (List.mem_cons_of_mem _ List.mem_cons_self))) h0 ⟨pj_bA (xs 0), pj_bM (x := xs 1) (by omega) (by omega), pj_bL (x := xs 2) (by omega), pj_bA (xs 3), pj_bA (xs 4), trivial⟩
  by_cases b2 : 16777215 < (xs 2).toInt
  · exact pj_gB (pj_cs35 _ (List.mem_cons_of_mem _ (List.mem_cons_of_mem _ (List.mem_cons_of_mem _ List.mem_cons_self)))) h0 ⟨pj_bA (xs 0), pj_bM (x := xs 1) (by omega) (by omega), pj_bH (x := xs 2) (by omega), pj_bA (xs 3), pj_bA (xs 4), trivial⟩
  by_cases a3 : (xs 3).toInt < 1
  · exact pj_gB (pj_cs35 _ (List.mem_cons_of_mem _ (List.mem_cons_of_mem _ (List.mem_cons_of_mem _ (List.mem_cons_of_mem _ List.mem_cons_self))))) h0 ⟨pj_bA (xs 0), pj_bM (x := xs 1) (by omega) (by omega), pj_bM (x := xs 2) (by omega) (by omega), pj_bL (x := xs 3) (by omega), pj_bA (xs 4), trivial⟩
  by_cases b3 : 48 < (xs 3).toInt
  · exact pj_gB (pj_cs35 _ (List.mem_cons_of_mem _ (List.mem_cons_of_mem _ (List.mem_cons_of_mem _ (List.mem_cons_of_mem _ (List.mem_cons_of_mem _ List.mem_cons_self)))))) h0 ⟨pj_bA (xs 0), pj_bM (x := xs 1) (by omega) (by omega), pj_bM (x := xs 2) (by omega) (by omega), pj_bH (x := xs 3) (by omega), pj_bA (xs 4), trivial⟩
  by_cases a4 : (xs 4).toInt < 1
  · exact pj_gB (pj_cs35 _ (List.mem_cons_of_mem _ (List.mem_cons_of_mem _ (List.mem_cons_of_mem _ (List.mem_cons_of_mem _ (List.mem_cons_of_mem _ (List.mem_cons_of_mem _ List.mem_cons_self))))))) h0 ⟨pj_bA (xs 0), pj_bM (x := xs 1) (by omega) (by omega), pj_bM (x := xs 2) (by omega) (by omega), pj_bM (x := xs 3) (by omega) (by omega), pj_bL (x := xs 4) (by omega), trivial⟩
  by_cases b4 : 48 < (xs 4).toInt
  · exact pj_gB (pj_cs35 _ (List.mem_cons_of_mem _ (List.mem_cons_of_mem _ (List.mem_cons_of_mem _ (List.mem_cons_of_mem _ (List.mem_cons_of_mem _ (List.mem_cons_of_mem _ (List.mem_cons_of_mem _ List.mem_cons_self)))))))) h0 ⟨pj_bA (xs 0), pj_bM (x := xs 1) (by omega) (by omega), pj_bM (x := xs 2) (by omega) (by omega), pj_bM (x := xs 3) (by omega) (by omega), pj_bH (x := xs 4) (by omega), trivial⟩
  exact pj_gv35 h0 ⟨by omega, by omega⟩ ⟨by omega, by omega⟩ ⟨by omega, by omega⟩ ⟨by omega, by omega⟩
theorem pj_g36 {xs : Nat → Int32} (h0 : xs 0 &&& 63 = 36) : pj_goal xs := by
  by_cases a1 : (xs 1).toInt < 0
  · exact pj_gB (pj_cs36 _ List.mem_cons_self) h0 ⟨pj_bA (xs 0), pj_bL (x := xs 1) (by omega), pj_bA (xs 2), pj_bA (xs 3), trivial⟩
  by_cases b1 : 16777215 < (xs 1).toInt
  · exact pj_gB (pj_cs36 _ (List.mem_cons_of_mem _ List.mem_cons_self)) h0 ⟨pj_bA (xs 0), pj_bH (x := xs 1) (by omega), pj_bA (xs 2), pj_bA (xs 3), trivial⟩
  by_cases a2 : (xs 2).toInt < 0
  · exact pj_gB (pj_cs36 _ (List.mem_cons_of_mem _ (List.mem_cons_of_mem _ List.mem_cons_self))) h0 ⟨pj_bA (xs 0), pj_bM (x := xs 1) (by omega) (by omega), pj_bL (x := xs 2) (by omega), pj_bA (xs 3), trivial⟩
  by_cases b2 : 16777215 < (xs 2).toInt
  · exact pj_gB (pj_cs36 _ (List.mem_cons_of_mem _ (List.mem_cons_of_mem _ (List.mem_cons_of_mem _ List.mem_cons_self)))) h0 ⟨pj_bA (xs 0), pj_bM (x := xs 1) (by omega) (by omega), pj_bH (x := xs 2) (by omega), pj_bA (xs 3), trivial⟩
  by_cases a3 : (xs 3).toInt < 1
  · exact pj_gB (pj_cs36 _ (List.mem_cons_of_mem _ (List.mem_cons_of_mem _ (List.mem_cons_of_mem _ (List.mem_cons_of_mem _ List.mem_cons_self))))) h0 ⟨pj_bA (xs 0), pj_bM (x := xs 1) (by omega) (by omega), pj_bM (x := xs 2) (by omega) (by omega), pj_bL (x := xs 3) (by omega), trivial⟩
  by_cases b3 : 48 < (xs 3).toInt
  · exact pj_gB (pj_cs36 _ (List.mem_cons_of_mem _ (List.mem_cons_of_mem _ (List.mem_cons_of_mem _ (List.mem_cons_of_mem _ (List.mem_cons_of_mem _ List.mem_cons_self)))))) h0 ⟨pj_bA (xs 0), pj_bM (x := xs 1) (by omega) (by omega), pj_bM (x := xs 2) (by omega) (by omega), pj_bH (x := xs 3) (by omega), trivial⟩
  exact pj_gv36 h0 ⟨by omega, by omega⟩ ⟨by omega, by omega⟩ ⟨by omega, by omega⟩
theorem pj_g31 {xs : Nat → Int32} (h0 : xs 0 &&& 63 = 31) : pj_goal xs := by
  by_cases a1 : (xs 1).toInt < 0
  · exact pj_gB (pj_cs31r _ List.mem_cons_self) h0 ⟨pj_bA (xs 0), pj_bL (x := xs 1) (by omega), pj_bA (xs 2), pj_bA (xs 3), trivial⟩
  by_cases b1 : 3 < (xs 1).toInt
  · exact pj_gB (pj_cs31r _ (List.mem_cons_of_mem _ List.mem_cons_self)) h0 ⟨pj_bA (xs 0), pj_bH (x := xs 1) (by omega), pj_bA (xs 2), pj_bA (xs 3), trivial⟩
  have hw : (xs 1).toInt = 0 ∨ (xs 1).toInt = 1 ∨ (xs 1).toInt = 2 ∨ (xs 1).toInt = 3 := by omega
  have e3 : (((xs 3).toInt.toNat : Nat) : Int) = (xs 3).toInt ∨ (xs 3).toInt < 0 := by omega
  have e2 : (((xs 2).toInt.toNat : Nat) : Int) = (xs 2).toInt ∨ (xs 2).toInt < 0 := by omega
  rcases hw with hw | hw | hw | hw
  · by_cases a2 : (xs 2).toInt < 0
    · exact pj_gB (pj_cs31r _ (List.mem_cons_of_mem _ (List.mem_cons_of_mem _ List.mem_cons_self))) h0 ⟨pj_bA (xs 0), pj_bE (x := xs 1) hw, pj_bL (x := xs 2) (by omega), pj_bA (xs 3), trivial⟩
    by_cases b2 : 18 < (xs 2).toInt
    · exact pj_gB (pj_cs31r _ (List.mem_cons_of_mem _ (List.mem_cons_of_mem _ (List.mem_cons_of_mem _ (List.mem_cons_of_mem _ (List.mem_cons_of_mem _ (List.mem_cons_of_mem _ List.mem_cons_self))))))) h0 ⟨pj_bA (xs 0), pj_bE (x := xs 1) hw, pj_bH (x := xs 2) (by omega), pj_bA (xs 3), trivial⟩
    by_cases a3 : (xs 3).toInt < 0
    · exact pj_gB (pj_cs31r _ (List.mem_cons_of_mem _ (List.mem_cons_of_mem _ (List.mem_cons_of_mem _ (List.mem_cons_of_mem _ (List.mem_cons_of_mem _ (List.mem_cons_of_mem _ (List.mem_cons_of_mem _ (List.mem_cons_of_mem _ (List.mem_cons_of_mem _ (List.mem_cons_of_mem _ List.mem_cons_self))))))))))) h0 ⟨pj_bA (xs 0), pj_bE (x := xs 1) hw, pj_bM (x := xs 2) (by omega) (by omega), pj_bL (x := xs 3) (by omega), trivial⟩
    by_cases b3 : 1 < (xs 3).toInt
    · exact pj_gB (pj_cs31r _ (List.mem_cons_of_mem _ (List.mem_cons_of_mem _ (List.mem_cons_of_mem _ (List.mem_cons_of_mem _ (List.mem_cons_of_mem _ (List.mem_cons_of_mem _ (List.mem_cons_of_mem _ (List.mem_cons_of_mem _ (List.mem_cons_of_mem _ (List.mem_cons_of_mem _ (List.mem_cons_of_mem _ List.mem_cons_self)))))))))))) h0 ⟨pj_bA (xs 0), pj_bE (x := xs 1) hw, pj_bM (x := xs 2) (by omega) (by omega), pj_bH (x := xs 3) (by omega), trivial⟩
    have ew : xs 1 = 0 := by
      rw [← Int32.toInt_inj]
      exact hw
    exact pj_gv31 h0 (Int8.ofInt 18).toInt32 ⟨by omega, by omega⟩ ⟨by omega, by rw [pj_l18]; omega⟩ ⟨by omega, by omega⟩ (fun G => by rw [ew]; exact pj_grt0 G) (fun G => by rw [ew]; exact pj_isq0 G (xs 2) ⟨by omega, by omega⟩)
  · by_cases a2 : (xs 2).toInt < 0
    · exact pj_gB (pj_cs31r _ (List.mem_cons_of_mem _ (List.mem_cons_of_mem _ (List.mem_cons_of_mem _ List.mem_cons_self)))) h0 ⟨pj_bA (xs 0), pj_bE (x := xs 1) hw, pj_bL (x := xs 2) (by omega), pj_bA (xs 3), trivial⟩
    by_cases b2 : 18 < (xs 2).toInt
    · exact pj_gB (pj_cs31r _ (List.mem_cons_of_mem _ (List.mem_cons_of_mem _ (List.mem_cons_of_mem _ (List.mem_cons_of_mem _ (List.mem_cons_of_mem _ (List.mem_cons_of_mem _ (List.mem_cons_of_mem _ List.mem_cons_self)))))))) h0 ⟨pj_bA (xs 0), pj_bE (x := xs 1) hw, pj_bH (x := xs 2) (by omega), pj_bA (xs 3), trivial⟩
    by_cases a3 : (xs 3).toInt < 0
    · exact pj_gB (pj_cs31r _ (List.mem_cons_of_mem _ (List.mem_cons_of_mem _ (List.mem_cons_of_mem _ (List.mem_cons_of_mem _ (List.mem_cons_of_mem _ (List.mem_cons_of_mem _ (List.mem_cons_of_mem _ (List.mem_cons_of_mem _ (List.mem_cons_of_mem _ (List.mem_cons_of_mem _ (List.mem_cons_of_mem _ (List.mem_cons_of_mem _ List.mem_cons_self))))))))))))) h0 ⟨pj_bA (xs 0), pj_bE (x := xs 1) hw, pj_bM (x := xs 2) (by omega) (by omega), pj_bL (x := xs 3) (by omega), trivial⟩
    by_cases b3 : 1 < (xs 3).toInt
    · exact pj_gB (pj_cs31r _ (List.mem_cons_of_mem _ (List.mem_cons_of_mem _ (List.mem_cons_of_mem _ (List.mem_cons_of_mem _ (List.mem_cons_of_mem _ (List.mem_cons_of_mem _ (List.mem_cons_of_mem _ (List.mem_cons_of_mem _ (List.mem_cons_of_mem _ (List.mem_cons_of_mem _ (List.mem_cons_of_mem _ (List.mem_cons_of_mem _ (List.mem_cons_of_mem _ List.mem_cons_self)))))))))))))) h0 ⟨pj_bA (xs 0), pj_bE (x := xs 1) hw, pj_bM (x := xs 2) (by omega) (by omega), pj_bH (x := xs 3) (by omega), trivial⟩
    have ew : xs 1 = 1 := by
      rw [← Int32.toInt_inj]
      exact hw
    exact pj_gv31 h0 (Int8.ofInt 18).toInt32 ⟨by omega, by omega⟩ ⟨by omega, by rw [pj_l18]; omega⟩ ⟨by omega, by omega⟩ (fun G => by rw [ew]; exact pj_grt1 G) (fun G => by rw [ew]; exact pj_isq1 G (xs 2) ⟨by omega, by omega⟩)
  · by_cases a2 : (xs 2).toInt < 0
    · exact pj_gB (pj_cs31r _ (List.mem_cons_of_mem _ (List.mem_cons_of_mem _ (List.mem_cons_of_mem _ (List.mem_cons_of_mem _ List.mem_cons_self))))) h0 ⟨pj_bA (xs 0), pj_bE (x := xs 1) hw, pj_bL (x := xs 2) (by omega), pj_bA (xs 3), trivial⟩
    by_cases b2 : 6 < (xs 2).toInt
    · exact pj_gB (pj_cs31r _ (List.mem_cons_of_mem _ (List.mem_cons_of_mem _ (List.mem_cons_of_mem _ (List.mem_cons_of_mem _ (List.mem_cons_of_mem _ (List.mem_cons_of_mem _ (List.mem_cons_of_mem _ (List.mem_cons_of_mem _ List.mem_cons_self))))))))) h0 ⟨pj_bA (xs 0), pj_bE (x := xs 1) hw, pj_bH (x := xs 2) (by omega), pj_bA (xs 3), trivial⟩
    by_cases a3 : (xs 3).toInt < 0
    · exact pj_gB (pj_cs31r _ (List.mem_cons_of_mem _ (List.mem_cons_of_mem _ (List.mem_cons_of_mem _ (List.mem_cons_of_mem _ (List.mem_cons_of_mem _ (List.mem_cons_of_mem _ (List.mem_cons_of_mem _ (List.mem_cons_of_mem _ (List.mem_cons_of_mem _ (List.mem_cons_of_mem _ (List.mem_cons_of_mem _ (List.mem_cons_of_mem _ (List.mem_cons_of_mem _ (List.mem_cons_of_mem _ List.mem_cons_self))))))))))))))) h0 ⟨pj_bA (xs 0), pj_bE (x := xs 1) hw, pj_bM (x := xs 2) (by omega) (by omega), pj_bL (x := xs 3) (by omega), trivial⟩
    by_cases b3 : 1 < (xs 3).toInt
    · exact pj_gB (pj_cs31r _ (List.mem_cons_of_mem _ (List.mem_cons_of_mem _ (List.mem_cons_of_mem _ (List.mem_cons_of_mem _ (List.mem_cons_of_mem _ (List.mem_cons_of_mem _ (List.mem_cons_of_mem _ (List.mem_cons_of_mem _ (List.mem_cons_of_mem _ (List.mem_cons_of_mem _ (List.mem_cons_of_mem _ (List.mem_cons_of_mem _ (List.mem_cons_of_mem _ (List.mem_cons_of_mem _ (List.mem_cons_of_mem _ List.mem_cons_self)))))))))))))))) h0 ⟨pj_bA (xs 0), pj_bE (x := xs 1) hw, pj_bM (x := xs 2) (by omega) (by omega), pj_bH (x := xs 3) (by omega), trivial⟩
    have ew : xs 1 = 2 := by
      rw [← Int32.toInt_inj]
      exact hw
    exact pj_gv31 h0 (Int8.ofInt 6).toInt32 ⟨by omega, by omega⟩ ⟨by omega, by rw [pj_l6]; omega⟩ ⟨by omega, by omega⟩ (fun G => by rw [ew]; exact pj_grt2 G) (fun G => by rw [ew]; exact pj_isq2 G (xs 2) ⟨by omega, by omega⟩)
  · by_cases a2 : (xs 2).toInt < 0
    · exact pj_gB (pj_cs31r _ (List.mem_cons_of_mem _ (List.mem_cons_of_mem _ (List.mem_cons_of_mem _ (List.mem_cons_of_mem _ (List.mem_cons_of_mem _ List.mem_cons_self)))))) h0 ⟨pj_bA (xs 0), pj_bE (x := xs 1) hw, pj_bL (x := xs 2) (by omega), pj_bA (xs 3), trivial⟩
    by_cases b2 : 1 < (xs 2).toInt
    · exact pj_gB (pj_cs31r _ (List.mem_cons_of_mem _ (List.mem_cons_of_mem _ (List.mem_cons_of_mem _ (List.mem_cons_of_mem _ (List.mem_cons_of_mem _ (List.mem_cons_of_mem _ (List.mem_cons_of_mem _ (List.mem_cons_of_mem _ (List.mem_cons_of_mem _ List.mem_cons_self)))))))))) h0 ⟨pj_bA (xs 0), pj_bE (x := xs 1) hw, pj_bH (x := xs 2) (by omega), pj_bA (xs 3), trivial⟩
    have hv : (xs 2).toInt = 0 ∨ (xs 2).toInt = 1 := by omega
    by_cases a3 : (xs 3).toInt < 0
    · rcases hv with hv | hv
      · exact pj_gB (pj_cs31r _ (List.mem_cons_of_mem _ (List.mem_cons_of_mem _ (List.mem_cons_of_mem _ (List.mem_cons_of_mem _ (List.mem_cons_of_mem _ (List.mem_cons_of_mem _ (List.mem_cons_of_mem _ (List.mem_cons_of_mem _ (List.mem_cons_of_mem _ (List.mem_cons_of_mem _ (List.mem_cons_of_mem _ (List.mem_cons_of_mem _ (List.mem_cons_of_mem _ (List.mem_cons_of_mem _ (List.mem_cons_of_mem _ (List.mem_cons_of_mem _ List.mem_cons_self))))))))))))))))) h0 ⟨pj_bA (xs 0), pj_bE (x := xs 1) hw, pj_bE (x := xs 2) hv, pj_bL (x := xs 3) (by omega), trivial⟩
      · exact pj_gB (pj_cs31r _ (List.mem_cons_of_mem _ (List.mem_cons_of_mem _ (List.mem_cons_of_mem _ (List.mem_cons_of_mem _ (List.mem_cons_of_mem _ (List.mem_cons_of_mem _ (List.mem_cons_of_mem _ (List.mem_cons_of_mem _ (List.mem_cons_of_mem _ (List.mem_cons_of_mem _ (List.mem_cons_of_mem _ (List.mem_cons_of_mem _ (List.mem_cons_of_mem _ (List.mem_cons_of_mem _ (List.mem_cons_of_mem _ (List.mem_cons_of_mem _ (List.mem_cons_of_mem _ List.mem_cons_self)))))))))))))))))) h0 ⟨pj_bA (xs 0), pj_bE (x := xs 1) hw, pj_bE (x := xs 2) hv, pj_bL (x := xs 3) (by omega), trivial⟩
    by_cases b3 : 1 < (xs 3).toInt
    · rcases hv with hv | hv
      · exact pj_gB (pj_cs31r _ (List.mem_cons_of_mem _ (List.mem_cons_of_mem _ (List.mem_cons_of_mem _ (List.mem_cons_of_mem _ (List.mem_cons_of_mem _ (List.mem_cons_of_mem _ (List.mem_cons_of_mem _ (List.mem_cons_of_mem _ (List.mem_cons_of_mem _ (List.mem_cons_of_mem _ (List.mem_cons_of_mem _ (List.mem_cons_of_mem _ (List.mem_cons_of_mem _ (List.mem_cons_of_mem _ (List.mem_cons_of_mem _ (List.mem_cons_of_mem _ (List.mem_cons_of_mem _ (List.mem_cons_of_mem _ List.mem_cons_self))))))))))))))))))) h0 ⟨pj_bA (xs 0), pj_bE (x := xs 1) hw, pj_bE (x := xs 2) hv, pj_bH (x := xs 3) (by omega), trivial⟩
      · exact pj_gB (pj_cs31r _ (List.mem_cons_of_mem _ (List.mem_cons_of_mem _ (List.mem_cons_of_mem _ (List.mem_cons_of_mem _ (List.mem_cons_of_mem _ (List.mem_cons_of_mem _ (List.mem_cons_of_mem _ (List.mem_cons_of_mem _ (List.mem_cons_of_mem _ (List.mem_cons_of_mem _ (List.mem_cons_of_mem _ (List.mem_cons_of_mem _ (List.mem_cons_of_mem _ (List.mem_cons_of_mem _ (List.mem_cons_of_mem _ (List.mem_cons_of_mem _ (List.mem_cons_of_mem _ (List.mem_cons_of_mem _ (List.mem_cons_of_mem _ List.mem_cons_self)))))))))))))))))))) h0 ⟨pj_bA (xs 0), pj_bE (x := xs 1) hw, pj_bE (x := xs 2) hv, pj_bH (x := xs 3) (by omega), trivial⟩
    have ew : xs 1 = 3 := by
      rw [← Int32.toInt_inj]
      exact hw
    exact pj_gv31 h0 (Int32.ofInt 1) ⟨by omega, by omega⟩ ⟨by omega, by rw [pj_li1]; omega⟩ ⟨by omega, by omega⟩ (fun G => by rw [ew]; exact pj_grt3 G) (fun G => by rw [ew]; exact pj_isq3 G (xs 2) ⟨by omega, by omega⟩)
theorem pj_c64 (x : Int32) : x &&& 63 ∈ ([0, 1, 2, 3, 4, 5, 6, 7, 8, 9, 10, 11, 12, 13, 14, 15, 16, 17, 18, 19, 20, 21, 22, 23, 24, 25, 26, 27, 28, 29, 30, 31, 32, 33, 34, 35, 36, 37, 38, 39, 40, 41, 42, 43, 44, 45, 46, 47, 48, 49, 50, 51, 52, 53, 54, 55, 56, 57, 58, 59, 60, 61, 62, 63] : List Int32) := by
  have h : (x &&& 63).toBitVec.toNat ≤ 63 := by
    rw [Int32.toBitVec_and, BitVec.toNat_and]
    exact Nat.and_le_right
  have key : ∀ k : Nat, k < 64 → Int32.ofBitVec (BitVec.ofNat 32 k) ∈ ([0, 1, 2, 3, 4, 5, 6, 7, 8, 9, 10, 11, 12, 13, 14, 15, 16, 17, 18, 19, 20, 21, 22, 23, 24, 25, 26, 27, 28, 29, 30, 31, 32, 33, 34, 35, 36, 37, 38, 39, 40, 41, 42, 43, 44, 45, 46, 47, 48, 49, 50, 51, 52, 53, 54, 55, 56, 57, 58, 59, 60, 61, 62, 63] : List Int32) := by decide +kernel
  have e := key _ (Nat.lt_succ_of_le h)
  have e2 : BitVec.ofNat 32 (x &&& 63).toBitVec.toNat = (x &&& 63).toBitVec := by simp
  rw [e2] at e
  exact e
theorem pj_long (xs : Nat → Int32) : pj_goal xs := by
  have e := pj_c64 (xs 0)
  rcases List.mem_cons.mp e with h | e
  · exact pj_g0 h
  rcases List.mem_cons.mp e with h | e
  · exact pj_gK pj_cs1 h
  rcases List.mem_cons.mp e with h | e
  · exact pj_gC (pj_c_no1 2 (by decide)) h (fun j a h => by cases h)
  rcases List.mem_cons.mp e with h | e
  · exact pj_gC (pj_c_no1 3 (by decide)) h (fun j a h => by cases h)
  rcases List.mem_cons.mp e with h | e
  · exact pj_gC (pj_c_no1 4 (by decide)) h (fun j a h => by cases h)
  rcases List.mem_cons.mp e with h | e
  · exact pj_gC (pj_c_no1 5 (by decide)) h (fun j a h => by cases h)
  rcases List.mem_cons.mp e with h | e
  · exact pj_gH pj_cs6 h
  rcases List.mem_cons.mp e with h | e
  · exact pj_gH pj_cs7 h
  rcases List.mem_cons.mp e with h | e
  · exact pj_gH pj_cs8 h
  rcases List.mem_cons.mp e with h | e
  · exact pj_gK pj_cs9 h
  rcases List.mem_cons.mp e with h | e
  · exact pj_gK pj_cs10 h
  rcases List.mem_cons.mp e with h | e
  · exact pj_gK pj_cs11 h
  rcases List.mem_cons.mp e with h | e
  · exact pj_gK pj_cs12 h
  rcases List.mem_cons.mp e with h | e
  · exact pj_gK pj_cs13 h
  rcases List.mem_cons.mp e with h | e
  · exact pj_g14 h
  rcases List.mem_cons.mp e with h | e
  · exact pj_gC (pj_c_no1 15 (by decide)) h (fun j a h => by cases h)
  rcases List.mem_cons.mp e with h | e
  · exact pj_gC (pj_c_no2 16 (by decide)) h (fun j a h => by cases h)
  rcases List.mem_cons.mp e with h | e
  · exact pj_gK pj_cs17 h
  rcases List.mem_cons.mp e with h | e
  · exact pj_gK pj_cs18 h
  rcases List.mem_cons.mp e with h | e
  · exact pj_gK pj_cs19 h
  rcases List.mem_cons.mp e with h | e
  · exact pj_gK pj_cs20 h
  rcases List.mem_cons.mp e with h | e
  · exact pj_gC (pj_c_no2 21 (by decide)) h (fun j a h => by cases h)
  rcases List.mem_cons.mp e with h | e
  · exact pj_gK pj_cs22 h
  rcases List.mem_cons.mp e with h | e
  · exact pj_gK pj_cs23 h
  rcases List.mem_cons.mp e with h | e
  · exact pj_gC (pj_c_no2 24 (by decide)) h (fun j a h => by cases h)
  rcases List.mem_cons.mp e with h | e
  · exact pj_gC (pj_c_no2 25 (by decide)) h (fun j a h => by cases h)
  rcases List.mem_cons.mp e with h | e
  · exact pj_gK pj_cs26 h
  rcases List.mem_cons.mp e with h | e
  · exact pj_gC (pj_c_no2 27 (by decide)) h (fun j a h => by cases h)
  rcases List.mem_cons.mp e with h | e
  · exact pj_gK pj_cs28 h
  rcases List.mem_cons.mp e with h | e
  · exact pj_gK pj_cs29 h
  rcases List.mem_cons.mp e with h | e
  · exact pj_gK pj_cs30 h
  rcases List.mem_cons.mp e with h | e
  · exact pj_g31 h
  rcases List.mem_cons.mp e with h | e
  · exact pj_gC (pj_c_no3 32 (by decide)) h (fun j a h => by cases h)
  rcases List.mem_cons.mp e with h | e
  · exact pj_gC (pj_c_no3 33 (by decide)) h (fun j a h => by cases h)
  rcases List.mem_cons.mp e with h | e
  · exact pj_gC (pj_c_no3 34 (by decide)) h (fun j a h => by cases h)
  rcases List.mem_cons.mp e with h | e
  · exact pj_g35 h
  rcases List.mem_cons.mp e with h | e
  · exact pj_g36 h
  rcases List.mem_cons.mp e with h | e
  · exact pj_g37 h
  rcases List.mem_cons.mp e with h | e
  · exact pj_gC (pj_c_no3 38 (by decide)) h (fun j a h => by cases h)
  rcases List.mem_cons.mp e with h | e
  · exact pj_gK pj_cs39 h
  rcases List.mem_cons.mp e with h | e
  · exact pj_gK pj_cs40 h
  rcases List.mem_cons.mp e with h | e
  · exact pj_gK pj_cs41 h
  rcases List.mem_cons.mp e with h | e
  · exact pj_gK pj_cs42 h
  rcases List.mem_cons.mp e with h | e
  · exact pj_gH pj_cs43 h
  rcases List.mem_cons.mp e with h | e
  · exact pj_gC (pj_c_dflt 44 (by decide)) h (fun j a h => by cases h)
  rcases List.mem_cons.mp e with h | e
  · exact pj_gC (pj_c_dflt 45 (by decide)) h (fun j a h => by cases h)
  rcases List.mem_cons.mp e with h | e
  · exact pj_gC (pj_c_dflt 46 (by decide)) h (fun j a h => by cases h)
  rcases List.mem_cons.mp e with h | e
  · exact pj_gC (pj_c_dflt 47 (by decide)) h (fun j a h => by cases h)
  rcases List.mem_cons.mp e with h | e
  · exact pj_gC (pj_c_dflt 48 (by decide)) h (fun j a h => by cases h)
  rcases List.mem_cons.mp e with h | e
  · exact pj_gC (pj_c_dflt 49 (by decide)) h (fun j a h => by cases h)
  rcases List.mem_cons.mp e with h | e
  · exact pj_gC (pj_c_dflt 50 (by decide)) h (fun j a h => by cases h)
  rcases List.mem_cons.mp e with h | e
  · exact pj_gC (pj_c_dflt 51 (by decide)) h (fun j a h => by cases h)
  rcases List.mem_cons.mp e with h | e
  · exact pj_gC (pj_c_dflt 52 (by decide)) h (fun j a h => by cases h)
  rcases List.mem_cons.mp e with h | e
  · exact pj_gC (pj_c_dflt 53 (by decide)) h (fun j a h => by cases h)
  rcases List.mem_cons.mp e with h | e
  · exact pj_gC (pj_c_dflt 54 (by decide)) h (fun j a h => by cases h)
  rcases List.mem_cons.mp e with h | e
  · exact pj_gC (pj_c_dflt 55 (by decide)) h (fun j a h => by cases h)
  rcases List.mem_cons.mp e with h | e
  · exact pj_gC (pj_c_dflt 56 (by decide)) h (fun j a h => by cases h)
  rcases List.mem_cons.mp e with h | e
  · exact pj_gC (pj_c_dflt 57 (by decide)) h (fun j a h => by cases h)
  rcases List.mem_cons.mp e with h | e
  · exact pj_gC (pj_c_dflt 58 (by decide)) h (fun j a h => by cases h)
  rcases List.mem_cons.mp e with h | e
  · exact pj_gC (pj_c_dflt 59 (by decide)) h (fun j a h => by cases h)
  rcases List.mem_cons.mp e with h | e
  · exact pj_gC (pj_c_dflt 60 (by decide)) h (fun j a h => by cases h)
  rcases List.mem_cons.mp e with h | e
  · exact pj_gC (pj_c_dflt 61 (by decide)) h (fun j a h => by cases h)
  rcases List.mem_cons.mp e with h | e
  · exact pj_gC (pj_c_dflt 62 (by decide)) h (fun j a h => by cases h)
  rcases List.mem_cons.mp e with h | e
  · exact pj_gC (pj_c_dflt 63 (by decide)) h (fun j a h => by cases h)
  cases e
theorem pj_pure (L : Nat) (hL : L ≤ 5) (xs : Nat → Int32) : ∃ (f : Nat) (G' : pj_G) (mc ms : Nat), pj_run (pj_lc f) (L + 1) xs pj_law f (([], true), 0, [(0, .ref 0)], [], 0, 0) = some (some (.int 1), G', mc, ms) ∧ mc ≤ 600002 ∧ ms ≤ 7302232 := by
  by_cases h : L ≤ 4
  · exact pj_short L h xs
  · have e : L = 5 := by omega
    subst e
    exact pj_long xs
