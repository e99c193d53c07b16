def pj_KH : pj_KT := ([], [203], [])
theorem hb_0 (G0 : pj_G) (hI : pj_Inv G0) (c : Int32) (w : Int32) (hY : pj_Y 7 123 [.ref 1, .int c, .int w] G0 (fun v G' => ∃ y : Int32, v = some (.int y) ∧ G0 = G')) : pj_X 999 pj_hb0 G0 0 [(0, .ref 1), (1, .int c), (2, .int w), (3, .ref 203)] [] (fun v G' => ∃ y : Int32, v = some (.int y) ∧ pj_Inv G' ∧ pj_kpt pj_KH G0 G' ∧ ((0 : Int) ≤ y.toInt ∧ y.toInt ≤ 0)) := by
  have c0_ : (Int32.ofInt 0).toInt = 0 := by decide
  have hK : pj_kpt pj_KH G0 G0 := pj_kpt_r _ _
  show pj_X _ _ G0 0 [(0, .ref 1), (1, .int c), (2, .int w), (3, .ref 203)] [] _
  refine pj_X_of (fun r h => pj_R_to (G0, 5, [(0, .ref 1), (1, .int c), (2, .int w), (3, .ref 203)], [.int w, .int c, .ref 1, .int (Int32.ofInt 0), .ref 203], 0, 0) 5 6 (fun _ => rfl) h) ?_
  refine pj_X_ca (vs := [.ref 1, .int c, .int w]) rfl (fun _ => rfl) ⟨Nat.le_of_ble_eq_true rfl, Nat.le_of_ble_eq_true rfl, pj_T_rcv hI rfl⟩ ⟨rfl, rfl⟩ (pj_Y_up (by decide) (hY)) ?_
  rintro _ _ ⟨y1, rfl, rfl⟩
  show pj_X _ _ G0 8 [(0, .ref 1), (1, .int c), (2, .int w), (3, .ref 203)] [.int y1, .int (Int32.ofInt 0), .ref 203] _
  refine pj_X_of (fun r h => pj_R_to (G0, 9, [(0, .ref 1), (1, .int c), (2, .int w), (3, .ref 203)], [.long y1.toInt64, .int (Int32.ofInt 0), .ref 203], 0, 0) 9 2 (fun _ => rfl) h) ?_
  refine pj_X_of (fun r h => pj_T_ls hI rfl rfl (by omega) (by omega) h) ?_
  show pj_X _ _ (pj_wl G0 203 (Int32.ofInt 0).toInt.toNat y1.toInt64) 10 [(0, .ref 1), (1, .int c), (2, .int w), (3, .ref 203)] [] _
  obtain ⟨G2, hG2⟩ : ∃ H, H = pj_wl G0 203 (Int32.ofInt 0).toInt.toNat y1.toInt64 := ⟨_, rfl⟩
  have iG2 : pj_Inv G2 := by rw [hG2]; exact pj_Inv_wl hI rfl
  have kG2 : pj_kpt pj_KH G0 G2 := by rw [hG2]; exact pj_kpt_l hK rfl
  rw [← hG2]
  refine pj_X_of (fun r h => pj_R_to (G2, 18, [(0, .ref 1), (1, .int c), (2, .int w), (3, .ref 203)], [.int (Int32.ofInt 0)], 0, 0) 18 3 (fun _ => rfl) h) ?_
  exact pj_X_rt rfl rfl ⟨_, rfl, iG2, kG2, ⟨by omega, by omega⟩⟩
theorem pj_cl0 (G : pj_G) (hI : pj_Inv G) (c w : Int32) : (∃ f, pj_hcl f 0 [.ref 1, .int c, .int w, .ref 203] G = some (some (.int 1), (G.1, false), 1, 6)) ∨ pj_Y 7 123 [.ref 1, .int c, .int w] G (fun v G' => ∃ y : Int32, v = some (.int y) ∧ G = G') := by
  obtain ⟨v0, G0', hE0, yh, rfl, rfl, hy, ey⟩ := ct_94x G hI c
  have hE := pj_E_up (k := 2) (by decide) hE0
  by_cases hc : yh.toInt = 0 ∨ w.toInt < 0 ∨ 5 < w.toInt
  · refine Or.inl ?_
    obtain ⟨v, G', ⟨f, n, hr⟩, rfl, rfl⟩ := tx_123 G hI c w yh hE hy hc
    obtain ⟨L', ht⟩ := pj_mT_to (M := pj_m123) (tp := 20) (by decide) n _ hr
    obtain ⟨fs, -, hg, -⟩ := pj_kd_s hI.1 (a := 1) (ci := 11) (k := 0) rfl
    refine ⟨max f n, ?_⟩
    have hx : pj_hx0 (max f n) 1 c w G := ⟨⟨fs, hg⟩, L', pj_to_le (pj_exec_le (Nat.le_max_left f n) 6 998 (by decide)) (Or.inl ⟨rfl, rfl⟩) n (max f n) _ _ (Nat.le_max_right f n) ht⟩
    exact if_pos hx
  · exact Or.inr (pj_Y_mo (ct_123x G hI c w yh hE hy ⟨hc, by omega, by omega⟩) (fun v G' h => by obtain ⟨y, h1, h2, -⟩ := h; exact ⟨y, h1, h2⟩))
theorem pj_hz0 (G : pj_G) (hI : pj_Inv G) (c w : Int32) : ∃ (y : Int32) (G' : pj_G) (dc ds : Nat), pj_hz 0 [.ref 1, .int c, .int w, .ref 203] G = some (some (.int y), G', dc, ds) ∧ pj_Inv G' ∧ pj_kpt pj_KH G G' ∧ dc ≤ 1 ∧ ds ≤ 6 := by
  rcases pj_cl0 G hI c w with ⟨f, h⟩ | h
  · exact ⟨1, (G.1, false), 1, 6, pj_hz_t h, hI, ⟨fun _ _ => rfl, ⟨fun _ _ => rfl, fun _ _ => rfl⟩, fun _ _ _ => rfl⟩, by decide, by decide⟩
  · obtain ⟨v, G', ⟨f, n, hr⟩, y, rfl, i1, k1, -⟩ := hb_0 G hI c w h
    have h2 : pj_hrn (max f n) 0 [.ref 1, .int c, .int w, .ref 203] G = some (some (.int y), G', 0, 0) := by
      unfold pj_hrn
      exact (if_pos (Nat.le_of_ble_eq_true rfl)).trans (pj_run_le (pj_exec_le (Nat.le_max_left f n) 999 999 (Nat.le_refl _)) (Or.inl ⟨rfl, rfl⟩) n (max f n) _ _ (Nat.le_max_right f n) hr)
    rcases pj_hz_r h2 with q | q
    · exact ⟨y, G', 0, 0, q, i1, k1, by decide, by decide⟩
    · exact ⟨1, (G.1, false), 1, 6, q, hI, ⟨fun _ _ => rfl, ⟨fun _ _ => rfl, fun _ _ => rfl⟩, fun _ _ _ => rfl⟩, by decide, by decide⟩
theorem hb_1 (G0 : pj_G) (hI : pj_Inv G0) (c : Int32) (w : Int32) (hY : pj_Y 7 124 [.ref 1, .int c, .int w] G0 (fun v G' => ∃ y : Int32, v = some (.int y) ∧ G0 = G')) : pj_X 999 pj_hb1 G0 0 [(0, .ref 1), (1, .int c), (2, .int w), (3, .ref 203)] [] (fun v G' => ∃ y : Int32, v = some (.int y) ∧ pj_Inv G' ∧ pj_kpt pj_KH G0 G' ∧ ((0 : Int) ≤ y.toInt ∧ y.toInt ≤ 0)) := by
  have c0_ : (Int32.ofInt 0).toInt = 0 := by decide
  have hK : pj_kpt pj_KH G0 G0 := pj_kpt_r _ _
  show pj_X _ _ G0 0 [(0, .ref 1), (1, .int c), (2, .int w), (3, .ref 203)] [] _
  refine pj_X_of (fun r h => pj_R_to (G0, 5, [(0, .ref 1), (1, .int c), (2, .int w), (3, .ref 203)], [.int w, .int c, .ref 1, .int (Int32.ofInt 0), .ref 203], 0, 0) 5 6 (fun _ => rfl) h) ?_
  refine pj_X_ca (vs := [.ref 1, .int c, .int w]) rfl (fun _ => rfl) ⟨Nat.le_of_ble_eq_true rfl, Nat.le_of_ble_eq_true rfl, pj_T_rcv hI rfl⟩ ⟨rfl, rfl⟩ (pj_Y_up (by decide) (hY)) ?_
  rintro _ _ ⟨y1, rfl, rfl⟩
  show pj_X _ _ G0 8 [(0, .ref 1), (1, .int c), (2, .int w), (3, .ref 203)] [.int y1, .int (Int32.ofInt 0), .ref 203] _
  refine pj_X_of (fun r h => pj_R_to (G0, 9, [(0, .ref 1), (1, .int c), (2, .int w), (3, .ref 203)], [.long y1.toInt64, .int (Int32.ofInt 0), .ref 203], 0, 0) 9 2 (fun _ => rfl) h) ?_
  refine pj_X_of (fun r h => pj_T_ls hI rfl rfl (by omega) (by omega) h) ?_
  show pj_X _ _ (pj_wl G0 203 (Int32.ofInt 0).toInt.toNat y1.toInt64) 10 [(0, .ref 1), (1, .int c), (2, .int w), (3, .ref 203)] [] _
  obtain ⟨G2, hG2⟩ : ∃ H, H = pj_wl G0 203 (Int32.ofInt 0).toInt.toNat y1.toInt64 := ⟨_, rfl⟩
  have iG2 : pj_Inv G2 := by rw [hG2]; exact pj_Inv_wl hI rfl
  have kG2 : pj_kpt pj_KH G0 G2 := by rw [hG2]; exact pj_kpt_l hK rfl
  rw [← hG2]
  refine pj_X_of (fun r h => pj_R_to (G2, 18, [(0, .ref 1), (1, .int c), (2, .int w), (3, .ref 203)], [.int (Int32.ofInt 0)], 0, 0) 18 3 (fun _ => rfl) h) ?_
  exact pj_X_rt rfl rfl ⟨_, rfl, iG2, kG2, ⟨by omega, by omega⟩⟩
theorem pj_cl1 (G : pj_G) (hI : pj_Inv G) (c w : Int32) : (∃ f, pj_hcl f 1 [.ref 1, .int c, .int w, .ref 203] G = some (some (.int 1), (G.1, false), 1, 6)) ∨ pj_Y 7 124 [.ref 1, .int c, .int w] G (fun v G' => ∃ y : Int32, v = some (.int y) ∧ G = G') := by
  obtain ⟨v0, G0', hE0, yh, rfl, rfl, hy, ey⟩ := ct_95x G hI c
  have hE := pj_E_up (k := 2) (by decide) hE0
  by_cases hc : yh.toInt = 0 ∨ w.toInt < 0 ∨ 4 < w.toInt
  · refine Or.inl ?_
    obtain ⟨v, G', ⟨f, n, hr⟩, rfl, rfl⟩ := tx_124 G hI c w yh hE hy hc
    obtain ⟨L', ht⟩ := pj_mT_to (M := pj_m124) (tp := 20) (by decide) n _ hr
    obtain ⟨fs, -, hg, -⟩ := pj_kd_s hI.1 (a := 1) (ci := 11) (k := 0) rfl
    refine ⟨max f n, ?_⟩
    have hx : pj_hx1 (max f n) 1 c w G := ⟨⟨fs, hg⟩, L', pj_to_le (pj_exec_le (Nat.le_max_left f n) 6 998 (by decide)) (Or.inl ⟨rfl, rfl⟩) n (max f n) _ _ (Nat.le_max_right f n) ht⟩
    exact if_pos hx
  · exact Or.inr (pj_Y_mo (ct_124x G hI c w yh hE hy ⟨hc, by omega, by omega⟩) (fun v G' h => by obtain ⟨y, h1, h2, -⟩ := h; exact ⟨y, h1, h2⟩))
theorem pj_hz1 (G : pj_G) (hI : pj_Inv G) (c w : Int32) : ∃ (y : Int32) (G' : pj_G) (dc ds : Nat), pj_hz 1 [.ref 1, .int c, .int w, .ref 203] G = some (some (.int y), G', dc, ds) ∧ pj_Inv G' ∧ pj_kpt pj_KH G G' ∧ dc ≤ 1 ∧ ds ≤ 6 := by
  rcases pj_cl1 G hI c w with ⟨f, h⟩ | h
  · exact ⟨1, (G.1, false), 1, 6, pj_hz_t h, hI, ⟨fun _ _ => rfl, ⟨fun _ _ => rfl, fun _ _ => rfl⟩, fun _ _ _ => rfl⟩, by decide, by decide⟩
  · obtain ⟨v, G', ⟨f, n, hr⟩, y, rfl, i1, k1, -⟩ := hb_1 G hI c w h
    have h2 : pj_hrn (max f n) 1 [.ref 1, .int c, .int w, .ref 203] G = some (some (.int y), G', 0, 0) := by
      unfold pj_hrn
      exact (if_pos (Nat.le_of_ble_eq_true rfl)).trans (pj_run_le (pj_exec_le (Nat.le_max_left f n) 999 999 (Nat.le_refl _)) (Or.inl ⟨rfl, rfl⟩) n (max f n) _ _ (Nat.le_max_right f n) hr)
    rcases pj_hz_r h2 with q | q
    · exact ⟨y, G', 0, 0, q, i1, k1, by decide, by decide⟩
    · exact ⟨1, (G.1, false), 1, 6, q, hI, ⟨fun _ _ => rfl, ⟨fun _ _ => rfl, fun _ _ => rfl⟩, fun _ _ _ => rfl⟩, by decide, by decide⟩
theorem hb_2 (G0 : pj_G) (hI : pj_Inv G0) (c : Int32) (w : Int32) (hY : pj_Y 7 125 [.ref 1, .int c, .int w] G0 (fun v G' => ∃ y : Int32, v = some (.int y) ∧ G0 = G')) : pj_X 999 pj_hb2 G0 0 [(0, .ref 1), (1, .int c), (2, .int w), (3, .ref 203)] [] (fun v G' => ∃ y : Int32, v = some (.int y) ∧ pj_Inv G' ∧ pj_kpt pj_KH G0 G' ∧ ((0 : Int) ≤ y.toInt ∧ y.toInt ≤ 0)) := by
  have c0_ : (Int32.ofInt 0).toInt = 0 := by decide
  have hK : pj_kpt pj_KH G0 G0 := pj_kpt_r _ _
  show pj_X _ _ G0 0 [(0, .ref 1), (1, .int c), (2, .int w), (3, .ref 203)] [] _
  refine pj_X_of (fun r h => pj_R_to (G0, 5, [(0, .ref 1), (1, .int c), (2, .int w), (3, .ref 203)], [.int w, .int c, .ref 1, .int (Int32.ofInt 0), .ref 203], 0, 0) 5 6 (fun _ => rfl) h) ?_
  refine pj_X_ca (vs := [.ref 1, .int c, .int w]) rfl (fun _ => rfl) ⟨Nat.le_of_ble_eq_true rfl, Nat.le_of_ble_eq_true rfl, pj_T_rcv hI rfl⟩ ⟨rfl, rfl⟩ (pj_Y_up (by decide) (hY)) ?_
  rintro _ _ ⟨y1, rfl, rfl⟩
  show pj_X _ _ G0 8 [(0, .ref 1), (1, .int c), (2, .int w), (3, .ref 203)] [.int y1, .int (Int32.ofInt 0), .ref 203] _
  refine pj_X_of (fun r h => pj_R_to (G0, 9, [(0, .ref 1), (1, .int c), (2, .int w), (3, .ref 203)], [.long y1.toInt64, .int (Int32.ofInt 0), .ref 203], 0, 0) 9 2 (fun _ => rfl) h) ?_
  refine pj_X_of (fun r h => pj_T_ls hI rfl rfl (by omega) (by omega) h) ?_
  show pj_X _ _ (pj_wl G0 203 (Int32.ofInt 0).toInt.toNat y1.toInt64) 10 [(0, .ref 1), (1, .int c), (2, .int w), (3, .ref 203)] [] _
  obtain ⟨G2, hG2⟩ : ∃ H, H = pj_wl G0 203 (Int32.ofInt 0).toInt.toNat y1.toInt64 := ⟨_, rfl⟩
  have iG2 : pj_Inv G2 := by rw [hG2]; exact pj_Inv_wl hI rfl
  have kG2 : pj_kpt pj_KH G0 G2 := by rw [hG2]; exact pj_kpt_l hK rfl
  rw [← hG2]
  refine pj_X_of (fun r h => pj_R_to (G2, 18, [(0, .ref 1), (1, .int c), (2, .int w), (3, .ref 203)], [.int (Int32.ofInt 0)], 0, 0) 18 3 (fun _ => rfl) h) ?_
  exact pj_X_rt rfl rfl ⟨_, rfl, iG2, kG2, ⟨by omega, by omega⟩⟩
theorem pj_cl2 (G : pj_G) (hI : pj_Inv G) (c w : Int32) : (∃ f, pj_hcl f 2 [.ref 1, .int c, .int w, .ref 203] G = some (some (.int 1), (G.1, false), 1, 6)) ∨ pj_Y 7 125 [.ref 1, .int c, .int w] G (fun v G' => ∃ y : Int32, v = some (.int y) ∧ G = G') := by
  obtain ⟨v0, G0', hE0, yh, rfl, rfl, hy, ey⟩ := ct_96x G hI c
  have hE := pj_E_up (k := 2) (by decide) hE0
  by_cases hc : yh.toInt = 0 ∨ w.toInt < 0 ∨ 1 < w.toInt
  · refine Or.inl ?_
    obtain ⟨v, G', ⟨f, n, hr⟩, rfl, rfl⟩ := tx_125 G hI c w yh hE hy hc
    obtain ⟨L', ht⟩ := pj_mT_to (M := pj_m125) (tp := 20) (by decide) n _ hr
    obtain ⟨fs, -, hg, -⟩ := pj_kd_s hI.1 (a := 1) (ci := 11) (k := 0) rfl
    refine ⟨max f n, ?_⟩
    have hx : pj_hx2 (max f n) 1 c w G := ⟨⟨fs, hg⟩, L', pj_to_le (pj_exec_le (Nat.le_max_left f n) 6 998 (by decide)) (Or.inl ⟨rfl, rfl⟩) n (max f n) _ _ (Nat.le_max_right f n) ht⟩
    exact if_pos hx
  · exact Or.inr (pj_Y_mo (ct_125x G hI c w yh hE hy ⟨hc, by omega, by omega⟩) (fun v G' h => by obtain ⟨y, h1, h2, -⟩ := h; exact ⟨y, h1, h2⟩))
theorem pj_hz2 (G : pj_G) (hI : pj_Inv G) (c w : Int32) : ∃ (y : Int32) (G' : pj_G) (dc ds : Nat), pj_hz 2 [.ref 1, .int c, .int w, .ref 203] G = some (some (.int y), G', dc, ds) ∧ pj_Inv G' ∧ pj_kpt pj_KH G G' ∧ dc ≤ 1 ∧ ds ≤ 6 := by
  rcases pj_cl2 G hI c w with ⟨f, h⟩ | h
  · exact ⟨1, (G.1, false), 1, 6, pj_hz_t h, hI, ⟨fun _ _ => rfl, ⟨fun _ _ => rfl, fun _ _ => rfl⟩, fun _ _ _ => rfl⟩, by decide, by decide⟩
  · obtain ⟨v, G', ⟨f, n, hr⟩, y, rfl, i1, k1, -⟩ := hb_2 G hI c w h
    have h2 : pj_hrn (max f n) 2 [.ref 1, .int c, .int w, .ref 203] G = some (some (.int y), G', 0, 0) := by
      unfold pj_hrn
      exact (if_pos (Nat.le_of_ble_eq_true rfl)).trans (pj_run_le (pj_exec_le (Nat.le_max_left f n) 999 999 (Nat.le_refl _)) (Or.inl ⟨rfl, rfl⟩) n (max f n) _ _ (Nat.le_max_right f n) hr)
    rcases pj_hz_r h2 with q | q
    · exact ⟨y, G', 0, 0, q, i1, k1, by decide, by decide⟩
    · exact ⟨1, (G.1, false), 1, 6, q, hI, ⟨fun _ _ => rfl, ⟨fun _ _ => rfl, fun _ _ => rfl⟩, fun _ _ _ => rfl⟩, by decide, by decide⟩
theorem hb_3 (G0 : pj_G) (hI : pj_Inv G0) (i : Int32) (hY : pj_Y 7 160 [.ref 1, .int i] G0 (fun v G' => ∃ y : Int64, v = some (.long y) ∧ G0 = G')) : pj_X 999 pj_hb3 G0 0 [(0, .ref 1), (1, .int i), (2, .ref 203)] [] (fun v G' => ∃ y : Int32, v = some (.int y) ∧ pj_Inv G' ∧ pj_kpt pj_KH G0 G' ∧ ((0 : Int) ≤ y.toInt ∧ y.toInt ≤ 0)) := by
  have c0_ : (Int32.ofInt 0).toInt = 0 := by decide
  have hK : pj_kpt pj_KH G0 G0 := pj_kpt_r _ _
  show pj_X _ _ G0 0 [(0, .ref 1), (1, .int i), (2, .ref 203)] [] _
  refine pj_X_of (fun r h => pj_R_to (G0, 4, [(0, .ref 1), (1, .int i), (2, .ref 203)], [.int i, .ref 1, .int (Int32.ofInt 0), .ref 203], 0, 0) 4 5 (fun _ => rfl) h) ?_
  refine pj_X_ca (vs := [.ref 1, .int i]) rfl (fun _ => rfl) ⟨Nat.le_of_ble_eq_true rfl, Nat.le_of_ble_eq_true rfl, pj_T_rcv hI rfl⟩ ⟨rfl, rfl⟩ (pj_Y_up (by decide) (hY)) ?_
  rintro _ _ ⟨y1, rfl, rfl⟩
  show pj_X _ _ G0 7 [(0, .ref 1), (1, .int i), (2, .ref 203)] [.long y1, .int (Int32.ofInt 0), .ref 203] _
  refine pj_X_of (fun r h => pj_T_ls hI rfl rfl (by omega) (by omega) h) ?_
  show pj_X _ _ (pj_wl G0 203 (Int32.ofInt 0).toInt.toNat y1) 8 [(0, .ref 1), (1, .int i), (2, .ref 203)] [] _
  obtain ⟨G2, hG2⟩ : ∃ H, H = pj_wl G0 203 (Int32.ofInt 0).toInt.toNat y1 := ⟨_, rfl⟩
  have iG2 : pj_Inv G2 := by rw [hG2]; exact pj_Inv_wl hI rfl
  have kG2 : pj_kpt pj_KH G0 G2 := by rw [hG2]; exact pj_kpt_l hK rfl
  rw [← hG2]
  refine pj_X_of (fun r h => pj_R_to (G2, 15, [(0, .ref 1), (1, .int i), (2, .ref 203)], [.int (Int32.ofInt 0)], 0, 0) 15 3 (fun _ => rfl) h) ?_
  exact pj_X_rt rfl rfl ⟨_, rfl, iG2, kG2, ⟨by omega, by omega⟩⟩
theorem pj_cl3 (G : pj_G) (hI : pj_Inv G) (i : Int32) : (∃ f, pj_hcl f 3 [.ref 1, .int i, .ref 203] G = some (some (.int 1), (G.1, false), 1, 6)) ∨ pj_Y 7 160 [.ref 1, .int i] G (fun v G' => ∃ y : Int64, v = some (.long y) ∧ G = G') := by
  by_cases hc : i.toInt < 0 ∨ (pj_fi G 4 1).toInt ≤ i.toInt
  · refine Or.inl ?_
    obtain ⟨v, G', ⟨f, n, hr⟩, rfl, rfl⟩ := tx_160 G hI i hc
    obtain ⟨L', ht⟩ := pj_mT_to (M := pj_m160) (tp := 15) (by decide) n _ hr
    obtain ⟨fs, -, hg, -⟩ := pj_kd_s hI.1 (a := 1) (ci := 11) (k := 0) rfl
    refine ⟨max f n, ?_⟩
    have hx : pj_hx3 (max f n) 1 i G := ⟨⟨fs, hg⟩, L', pj_to_le (pj_exec_le (Nat.le_max_left f n) 6 998 (by decide)) (Or.inl ⟨rfl, rfl⟩) n (max f n) _ _ (Nat.le_max_right f n) ht⟩
    exact if_pos hx
  · exact Or.inr (ct_160x G hI i hc)
theorem pj_hz3 (G : pj_G) (hI : pj_Inv G) (i : Int32) : ∃ (y : Int32) (G' : pj_G) (dc ds : Nat), pj_hz 3 [.ref 1, .int i, .ref 203] G = some (some (.int y), G', dc, ds) ∧ pj_Inv G' ∧ pj_kpt pj_KH G G' ∧ dc ≤ 1 ∧ ds ≤ 6 := by
  rcases pj_cl3 G hI i with ⟨f, h⟩ | h
  · exact ⟨1, (G.1, false), 1, 6, pj_hz_t h, hI, ⟨fun _ _ => rfl, ⟨fun _ _ => rfl, fun _ _ => rfl⟩, fun _ _ _ => rfl⟩, by decide, by decide⟩
  · obtain ⟨v, G', ⟨f, n, hr⟩, y, rfl, i1, k1, -⟩ := hb_3 G hI i h
    have h2 : pj_hrn (max f n) 3 [.ref 1, .int i, .ref 203] G = some (some (.int y), G', 0, 0) := by
      unfold pj_hrn
      exact (if_pos (Nat.le_of_ble_eq_true rfl)).trans (pj_run_le (pj_exec_le (Nat.le_max_left f n) 999 999 (Nat.le_refl _)) (Or.inl ⟨rfl, rfl⟩) n (max f n) _ _ (Nat.le_max_right f n) hr)
    rcases pj_hz_r h2 with q | q
    · exact ⟨y, G', 0, 0, q, i1, k1, by decide, by decide⟩
    · exact ⟨1, (G.1, false), 1, 6, q, hI, ⟨fun _ _ => rfl, ⟨fun _ _ => rfl, fun _ _ => rfl⟩, fun _ _ _ => rfl⟩, by decide, by decide⟩
