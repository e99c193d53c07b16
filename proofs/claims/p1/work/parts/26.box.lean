/-! BOXES -/
def pj_box (q : Int × Int) : pj_AV := if q.1 = q.2 then (.int (Int32.ofInt q.1), none) else (.int (Int32.ofInt q.1), some q)
theorem pj_box_s {x : Int32} {q : Int × Int} (h : q.1 ≤ x.toInt ∧ x.toInt ≤ q.2) : pj_ga (pj_box q) (.int x) := by
  unfold pj_box
  split
  · rename_i e
    have e1 : x.toInt = q.1 := by omega
    show Value.int x = Value.int (Int32.ofInt q.1)
    rw [← e1, Int32.ofInt_toInt]
  · exact ⟨x, rfl, h.1, h.2⟩
def pj_cov (lo : Int) : List Int → List (Int × Int)
  | [] => [(lo, 2147483647)]
  | c :: t => (lo, c - 1) :: pj_cov c t
theorem pj_cov_s : ∀ (cs : List Int) {lo x : Int}, lo ≤ x → x ≤ 2147483647 → ∃ q ∈ pj_cov lo cs, q.1 ≤ x ∧ x ≤ q.2
  | [], lo, x, h1, h2 => ⟨_, List.mem_cons_self, h1, h2⟩
  | c :: t, lo, x, h1, h2 => by
    by_cases h : x < c
    · exact ⟨_, List.mem_cons_self, h1, by show x ≤ c - 1; omega⟩
    · obtain ⟨q, hq, h3⟩ := pj_cov_s t (lo := c) (by omega) h2
      exact ⟨q, List.mem_cons_of_mem _ hq, h3⟩
noncomputable def pj_allk (c : Int32) : List (List Int) → List pj_AV → Bool
  | [], acc => pj_chk c acc
  | cs :: t, acc => (pj_cov (-2147483648) cs).all (fun q => pj_allk c t (acc ++ [pj_box q]))
theorem pj_allk_s {c : Int32} {xs : Nat → Int32} : ∀ (css : List (List Int)) (acc : List pj_AV), pj_allk c css acc = true → (∀ (j : Nat) (a : pj_AV), acc[j]? = some a → pj_ga a (.int (xs j))) → ∃ sc, pj_chk c sc = true ∧ ∀ (j : Nat) (a : pj_AV), sc[j]? = some a → pj_ga a (.int (xs j))
  | [], acc, h, ha => ⟨acc, h, ha⟩
  | cs :: t, acc, h, ha => by
    have b1 : (-2147483648 : Int) ≤ (xs acc.length).toInt := Int32.le_toInt _
    have b2 : (xs acc.length).toInt ≤ 2147483647 := Int32.toInt_le _
    obtain ⟨q, hq, h3⟩ := pj_cov_s cs b1 b2
    have h4 := List.all_eq_true.mp (show (pj_cov (-2147483648) cs).all (fun q => pj_allk c t (acc ++ [pj_box q])) = true from h) q hq
    refine pj_allk_s t _ h4 (fun j a hj => ?_)
    rw [List.getElem?_append] at hj
    split at hj
    · exact ha j a hj
    · rename_i hlt
      by_cases e : j = acc.length
      · subst e
        rw [Nat.sub_self] at hj
        cases hj
        exact pj_box_s h3
      · have : j - acc.length ≠ 0 := by omega
        obtain ⟨n, hn⟩ := Nat.exists_eq_succ_of_ne_zero this
        rw [hn] at hj
        cases hj
