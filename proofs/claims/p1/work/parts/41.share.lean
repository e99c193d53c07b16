/-! SHARING BY HAND: has, within, hoursWanted -/
def pj_qq2 (h k : Int32) : Int32 := h / k - h / k / Int32.ofInt 2 * Int32.ofInt 2
def pj_h24 (h : Int32) : Int32 := h - h / (Int8.ofInt 24).toInt32 * (Int8.ofInt 24).toInt32
def pj_bit (w j : Int32) : Bool := decide ((w >>> (j &&& 31)) &&& Int32.ofInt 1 = Int32.ofInt 1)
def pj_b2 (b : Bool) : Int32 := match b with
  | true => Int32.ofInt 1
  | false => Int32.ofInt 0
def pj_cnd (w k who h : Int32) : Bool := decide (pj_qq2 h k = who) && pj_bit w (pj_h24 h)
def pj_cn (w k who : Int32) : Nat → Int32 → Int32 → Int32
  | 0, _, x => x
  | d + 1, h, x => pj_cn w k who d (h + Int32.ofInt 1) (match pj_cnd w k who h with
    | true => x + Int32.ofInt 1
    | false => x)
theorem pj_neT {w j : Int32} (h : pj_bit w j = true) : pj_c1 .ne ((w >>> (j &&& 31)) &&& Int32.ofInt 1) (Int32.ofInt 1) = false := by
  have h := of_decide_eq_true h
  exact decide_eq_false (fun z => z h)
theorem pj_neF {w j : Int32} (h : pj_bit w j = false) : pj_c1 .ne ((w >>> (j &&& 31)) &&& Int32.ofInt 1) (Int32.ofInt 1) = true := by
  have h := of_decide_eq_false h
  exact decide_eq_true h
theorem pj_hasX (G : pj_G) (w j : Int32) : pj_E (pj_cx 1) 163 [.int w, .int j] G (some (.int (pj_b2 (pj_bit w j))), G, 0, 0) := by
  refine pj_E_R (M := pj_m163) rfl rfl (Nat.le_of_ble_eq_true rfl) ?_
  show pj_R _ _ _ _ (G, 0, [(0, .int w), (1, .int j)], [], 0, 0) _
  cases hb : pj_bit w j with
  | true =>
    refine pj_R_to (G, 6, [(0, .int w), (1, .int j)], [.int (Int32.ofInt 1), .int ((w >>> (j &&& 31)) &&& (Int32.ofInt 1))], 0, 0) 6 7 (fun _ => rfl) ?_
    refine pj_R_icF rfl (pj_neT hb) ?_
    refine pj_R_to (G, 14, [(0, .int w), (1, .int j)], [.int (Int32.ofInt 1)], 0, 0) 14 3 (fun _ => rfl) ?_
    exact pj_R_rt rfl rfl
  | false =>
    refine pj_R_to (G, 6, [(0, .int w), (1, .int j)], [.int (Int32.ofInt 1), .int ((w >>> (j &&& 31)) &&& (Int32.ofInt 1))], 0, 0) 6 7 (fun _ => rfl) ?_
    refine pj_R_icT 13 rfl rfl (pj_neF hb) ?_
    refine pj_R_to (G, 14, [(0, .int w), (1, .int j)], [.int (Int32.ofInt 0)], 0, 0) 14 2 (fun _ => rfl) ?_
    exact pj_R_rt rfl rfl
theorem pj_hasM (G : pj_G) (w j : Int32) : pj_E (pj_cx 1) 172 [.int w, .int j] G (some (.int (pj_b2 (pj_bit w j))), G, 0, 0) := by
  refine pj_E_R (M := pj_m172) rfl rfl (Nat.le_of_ble_eq_true rfl) ?_
  show pj_R _ _ _ _ (G, 0, [(0, .int w), (1, .int j)], [], 0, 0) _
  cases hb : pj_bit w j with
  | true =>
    refine pj_R_to (G, 6, [(0, .int w), (1, .int j)], [.int (Int32.ofInt 1), .int ((w >>> (j &&& 31)) &&& (Int32.ofInt 1))], 0, 0) 6 7 (fun _ => rfl) ?_
    refine pj_R_icF rfl (pj_neT hb) ?_
    refine pj_R_to (G, 14, [(0, .int w), (1, .int j)], [.int (Int32.ofInt 1)], 0, 0) 14 3 (fun _ => rfl) ?_
    exact pj_R_rt rfl rfl
  | false =>
    refine pj_R_to (G, 6, [(0, .int w), (1, .int j)], [.int (Int32.ofInt 1), .int ((w >>> (j &&& 31)) &&& (Int32.ofInt 1))], 0, 0) 6 7 (fun _ => rfl) ?_
    refine pj_R_icT 13 rfl rfl (pj_neF hb) ?_
    refine pj_R_to (G, 14, [(0, .int w), (1, .int j)], [.int (Int32.ofInt 0)], 0, 0) 14 2 (fun _ => rfl) ?_
    exact pj_R_rt rfl rfl
theorem pj_within (G : pj_G) (w j : Int32) (hw : w >>> (j &&& 31) = 0) : pj_E (pj_cx 1) 164 [.int w, .int j] G (some (.int (Int32.ofInt 1)), G, 0, 0) := by
  refine pj_E_R (M := pj_m164) rfl rfl (Nat.le_of_ble_eq_true rfl) ?_
  show pj_R _ _ _ _ (G, 0, [(0, .int w), (1, .int j)], [], 0, 0) _
  refine pj_R_to (G, 3, [(0, .int w), (1, .int j)], [.int (w >>> (j &&& 31))], 0, 0) 3 4 (fun _ => rfl) ?_
  refine pj_R_ifF rfl (decide_eq_false (fun z => z hw)) ?_
  refine pj_R_to (G, 11, [(0, .int w), (1, .int j)], [.int (Int32.ofInt 1)], 0, 0) 11 3 (fun _ => rfl) ?_
  exact pj_R_rt rfl rfl
theorem pj_li0 : (Int32.ofInt 0).toInt = 0 := by decide
theorem pj_li1 : (Int32.ofInt 1).toInt = 1 := by decide
theorem pj_lz0 : (0 : Int32).toInt = 0 := by decide
theorem pj_inc {h n : Int32} (h1 : h.toInt < n.toInt) : (h + Int32.ofInt 1).toInt = h.toInt + 1 := by
  have b1 : n.toInt ≤ 2147483647 := Int32.toInt_le n
  have b2 : (-2147483648 : Int) ≤ h.toInt := Int32.le_toInt h
  rw [Int32.toInt_add, pj_li1]
  exact Int.bmod_eq_of_le (by omega) (by omega)
theorem pj_hw_loop (G : pj_G) (w n k who : Int32) (hk : 0 < k.toInt) : ∀ (d : Nat) (h x : Int32), n.toInt - h.toInt = d → pj_R (pj_cx 1) 0 pj_x0 pj_m165 (G, 6, [(5, .int h), (4, .int x), (0, .int w), (1, .int n), (2, .int k), (3, .int who)], [], 0, 0) (some (.int (pj_cn w k who d h x)), G, 0, 0)
  | 0, h, x, hd => by
    refine pj_R_to (G, 9, [(5, .int h), (4, .int x), (0, .int w), (1, .int n), (2, .int k), (3, .int who)], [.int n, .int h], 0, 0) 9 3 (fun _ => rfl) ?_
    refine pj_R_icT 47 rfl rfl (by simp only [pj_c1, decide_eq_true_eq, decide_eq_false_iff_not, Int32.le_iff_toInt_le]; omega) ?_
    refine pj_R_to (G, 49, [(5, .int h), (4, .int x), (0, .int w), (1, .int n), (2, .int k), (3, .int who)], [.int x], 0, 0) 49 2 (fun _ => rfl) ?_
    exact pj_R_rt rfl rfl
  | d + 1, h, x, hd => by
    have hlt : h.toInt < n.toInt := by omega
    have hn : n.toInt - (h + Int32.ofInt 1).toInt = d := by
      rw [pj_inc hlt]
      omega
    have hk0 : ¬ k = 0 := fun z => by
      rw [z, pj_lz0] at hk
      omega
    have ih := fun y => pj_hw_loop G w n k who hk d (h + Int32.ofInt 1) y hn
    show pj_R _ _ _ _ _ (some (.int (pj_cn w k who d (h + Int32.ofInt 1) (match pj_cnd w k who h with
      | true => x + Int32.ofInt 1
      | false => x))), G, 0, 0)
    refine pj_R_to (G, 9, [(5, .int h), (4, .int x), (0, .int w), (1, .int n), (2, .int k), (3, .int who)], [.int n, .int h], 0, 0) 9 3 (fun _ => rfl) ?_
    refine pj_R_icF rfl (by simp only [pj_c1, decide_eq_true_eq, decide_eq_false_iff_not, Int32.le_iff_toInt_le]; omega) ?_
    refine pj_R_to (G, 13, [(5, .int h), (4, .int x), (0, .int w), (1, .int n), (2, .int k), (3, .int who)], [.int k], 0, 0) 13 2 (fun _ => rfl) ?_
    refine pj_R_ifF rfl (by simp only [pj_c1, decide_eq_false_iff_not, Int32.le_iff_toInt_le, pj_lz0]; omega) ?_
    refine pj_R_to (G, 19, [(5, .int h), (4, .int x), (0, .int w), (1, .int n), (2, .int k), (3, .int who)], [.int k, .int h], 0, 0) 19 3 (fun _ => rfl) ?_
    refine pj_R_dv rfl hk0 ?_
    refine pj_R_to (G, 21, [(5, .int h), (4, .int x), (0, .int w), (1, .int n), (2, .int k), (3, .int who)], [.int (Int32.ofInt 2), .int (h / k)], 0, 0) 21 2 (fun _ => rfl) ?_
    refine pj_R_rm rfl (by decide) ?_
    refine pj_R_to (G, 23, [(5, .int h), (4, .int x), (0, .int w), (1, .int n), (2, .int k), (3, .int who)], [.int who, .int ((h / k) - (h / k) / (Int32.ofInt 2) * (Int32.ofInt 2))], 0, 0) 23 2 (fun _ => rfl) ?_
    by_cases hq : pj_qq2 h k = who
    · have e1 : pj_cnd w k who h = pj_bit w (pj_h24 h) := by
        unfold pj_cnd
        rw [decide_eq_true hq, Bool.true_and]
      rw [e1]
      refine pj_R_icF rfl (decide_eq_false (fun z => z hq)) ?_
      refine pj_R_to (G, 31, [(5, .int h), (4, .int x), (0, .int w), (1, .int n), (2, .int k), (3, .int who)], [.int ((Int8.ofInt 24).toInt32), .int h, .int w], 0, 0) 31 4 (fun _ => rfl) ?_
      refine pj_R_rm rfl (by decide) ?_
      refine pj_R_ca (pj_cx_mon _) (vs := [.int w, .int (h - h / ((Int8.ofInt 24).toInt32) * ((Int8.ofInt 24).toInt32))]) (S2 := [.int (pj_b2 (pj_bit w (pj_h24 h)))]) rfl (fun _ => rfl) ⟨Nat.le_of_ble_eq_true rfl, Nat.le_of_ble_eq_true rfl, rfl⟩ ⟨rfl, rfl, rfl⟩ (pj_hasX G w (pj_h24 h)) ?_
      show pj_R _ _ _ _ (G, 35, [(5, .int h), (4, .int x), (0, .int w), (1, .int n), (2, .int k), (3, .int who)], [.int (pj_b2 (pj_bit w (pj_h24 h)))], 0, 0) _
      cases hb : pj_bit w (pj_h24 h) with
      | true =>
        refine pj_R_ifF rfl (by decide) ?_
        refine pj_R_to (G, 6, [(5, .int (h + Int32.ofInt 1)), (4, .int (x + Int32.ofInt 1)), (0, .int w), (1, .int n), (2, .int k), (3, .int who)], [], 0, 0) 6 4 (fun _ => rfl) ?_
        exact ih _
      | false =>
        refine pj_R_ifT 41 rfl rfl (by decide) ?_
        refine pj_R_to (G, 6, [(5, .int (h + Int32.ofInt 1)), (4, .int x), (0, .int w), (1, .int n), (2, .int k), (3, .int who)], [], 0, 0) 6 3 (fun _ => rfl) ?_
        exact ih _
    · have e1 : pj_cnd w k who h = false := by
        unfold pj_cnd
        rw [decide_eq_false hq, Bool.false_and]
      rw [e1]
      refine pj_R_icT 41 rfl rfl (decide_eq_true hq) ?_
      refine pj_R_to (G, 6, [(5, .int (h + Int32.ofInt 1)), (4, .int x), (0, .int w), (1, .int n), (2, .int k), (3, .int who)], [], 0, 0) 6 3 (fun _ => rfl) ?_
      exact ih _
/-- the hours that one wants while it is his turn -/
def pj_hwf (w n k who : Int32) : Int32 := pj_cn w k who n.toInt.toNat (Int32.ofInt 0) (Int32.ofInt 0)
theorem pj_hw_E (G : pj_G) (w n k who : Int32) (hk : 0 < k.toInt) (hn : 0 ≤ n.toInt) : pj_E (pj_cx 2) 165 [.int w, .int n, .int k, .int who] G (some (.int (pj_hwf w n k who)), G, 0, 0) := by
  refine pj_E_R (M := pj_m165) rfl rfl (Nat.le_of_ble_eq_true rfl) ?_
  show pj_R _ _ _ _ (G, 0, [(0, .int w), (1, .int n), (2, .int k), (3, .int who)], [], 0, 0) _
  refine pj_R_to (G, 6, [(5, .int (Int32.ofInt 0)), (4, .int (Int32.ofInt 0)), (0, .int w), (1, .int n), (2, .int k), (3, .int who)], [], 0, 0) 6 5 (fun _ => rfl) ?_
  exact pj_hw_loop G w n k who hk _ _ _ (by rw [pj_li0]; omega)
