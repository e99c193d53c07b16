theorem pr_sw5 : ∀ i, i < 3 → (i = 0 → ((pj_byt 5).getD i 0).toInt = 60) ∧ (i = 1 → ((pj_byt 5).getD i 0).toInt = 62) ∧ (i = 2 → ((pj_byt 5).getD i 0).toInt = 61) := by decide +kernel
theorem pr_sw6 : ∀ i, i < 2 → (i = 0 → ((pj_byt 6).getD i 0).toInt = 43) ∧ (i = 1 → ((pj_byt 6).getD i 0).toInt = 45) := by decide +kernel
theorem pr_sw7 : ∀ i, i < 2 → (i = 0 → ((pj_byt 7).getD i 0).toInt = 42) ∧ (i = 1 → ((pj_byt 7).getD i 0).toInt = 47) := by decide +kernel
theorem pr_sw8 : ∀ i, i < 7 → (i = 0 → ((pj_byt 8).getD i 0).toInt = 100) ∧ (i = 1 → ((pj_byt 8).getD i 0).toInt = 117) ∧ (i = 2 → ((pj_byt 8).getD i 0).toInt = 108) ∧ (i = 3 → ((pj_byt 8).getD i 0).toInt = 115) ∧ (i = 4 → ((pj_byt 8).getD i 0).toInt = 119) ∧ (i = 5 → ((pj_byt 8).getD i 0).toInt = 98) ∧ (i = 6 → ((pj_byt 8).getD i 0).toInt = 110) := by decide +kernel
theorem pr_sw11 : ∀ i, i < 7 → (i = 0 → ((pj_byt 11).getD i 0).toInt = 100) ∧ (i = 1 → ((pj_byt 11).getD i 0).toInt = 117) ∧ (i = 2 → ((pj_byt 11).getD i 0).toInt = 108) ∧ (i = 3 → ((pj_byt 11).getD i 0).toInt = 115) ∧ (i = 4 → ((pj_byt 11).getD i 0).toInt = 119) ∧ (i = 5 → ((pj_byt 11).getD i 0).toInt = 98) ∧ (i = 6 → ((pj_byt 11).getD i 0).toInt = 110) := by decide +kernel
theorem pr_sw12 : ∀ i, i < 3 → (i = 0 → ((pj_byt 12).getD i 0).toInt = 60) ∧ (i = 1 → ((pj_byt 12).getD i 0).toInt = 62) ∧ (i = 2 → ((pj_byt 12).getD i 0).toInt = 61) := by decide +kernel
theorem pr_sw13 : ∀ i, i < 2 → (i = 0 → ((pj_byt 13).getD i 0).toInt = 43) ∧ (i = 1 → ((pj_byt 13).getD i 0).toInt = 45) := by decide +kernel
theorem pr_sw14 : ∀ i, i < 2 → (i = 0 → ((pj_byt 14).getD i 0).toInt = 42) ∧ (i = 1 → ((pj_byt 14).getD i 0).toInt = 47) := by decide +kernel
noncomputable def F_289_s5x (G0 : pj_G) : Int32 := Int32.ofNat (pj_byt 5).length
theorem F_289_s5x_e (G0 : pj_G) : F_289_s5x G0 = Int32.ofNat (pj_byt 5).length := rfl
theorem ct_288_s5x (G0 : pj_G) (hI : pj_Inv G0) : pj_Y 13 288 [.retAddr 5] G0 (fun v' G' => ∃ y : Int32, v' = some (.int y) ∧ G0 = G' ∧ ((3 : Int) ≤ y.toInt ∧ y.toInt ≤ 3) ∧ (y = F_289_s5x G0)) := by
  refine ⟨_, _, pj_E_nat (M := pj_m288) rfl rfl (Nat.le_refl _) (pj_nat_len G0 (by decide)), _, rfl, rfl, ?_, rfl⟩
  rw [pj_bl5]
  decide
noncomputable def F_290_s5x (G0 : pj_G) (i : Int32) : Int32 := (pj_byt 5).getD i.toNatClampNeg 0
theorem F_290_s5x_e (G0 : pj_G) (i : Int32) : F_290_s5x G0 i = (pj_byt 5).getD i.toNatClampNeg 0 := rfl
theorem ct_289_s5x (G0 : pj_G) (hI : pj_Inv G0) (i : Int32) (ri : (0 : Int) ≤ i.toInt ∧ i.toInt ≤ 2) : pj_Y 13 289 [.retAddr 5, .int i] G0 (fun v' G' => ∃ y : Int32, v' = some (.int y) ∧ G0 = G' ∧ ((0 : Int) ≤ y.toInt ∧ y.toInt ≤ 255) ∧ ((i.toInt = 0 → y.toInt = 60) ∧ (i.toInt = 1 → y.toInt = 62) ∧ (i.toInt = 2 → y.toInt = 61)) ∧ (y = F_290_s5x G0 i)) := by
  have hn : i.toNatClampNeg < (pj_byt 5).length := by
    rw [pj_bl5]
    show i.toInt.toNat < 3
    omega
  have hq : (i.toInt = 0 → ((pj_byt 5).getD i.toNatClampNeg 0).toInt = 60) ∧ (i.toInt = 1 → ((pj_byt 5).getD i.toNatClampNeg 0).toInt = 62) ∧ (i.toInt = 2 → ((pj_byt 5).getD i.toNatClampNeg 0).toInt = 61) := by
    have q := pr_sw5 i.toInt.toNat (by omega)
    exact ⟨fun e => q.1 (by omega), fun e => q.2.1 (by omega), fun e => q.2.2 (by omega)⟩
  exact ⟨_, _, pj_E_nat (M := pj_m289) rfl rfl (Nat.le_refl _) (pj_nat_chr G0 (by decide) (by rw [Int32.le_iff_toInt_le, pj_lz0]; omega) hn), _, rfl, rfl, pj_chb 5 (by decide) _ hn, hq, rfl⟩
noncomputable def F_289_s6x (G0 : pj_G) : Int32 := Int32.ofNat (pj_byt 6).length
theorem F_289_s6x_e (G0 : pj_G) : F_289_s6x G0 = Int32.ofNat (pj_byt 6).length := rfl
theorem ct_288_s6x (G0 : pj_G) (hI : pj_Inv G0) : pj_Y 13 288 [.retAddr 6] G0 (fun v' G' => ∃ y : Int32, v' = some (.int y) ∧ G0 = G' ∧ ((2 : Int) ≤ y.toInt ∧ y.toInt ≤ 2) ∧ (y = F_289_s6x G0)) := by
  refine ⟨_, _, pj_E_nat (M := pj_m288) rfl rfl (Nat.le_refl _) (pj_nat_len G0 (by decide)), _, rfl, rfl, ?_, rfl⟩
  rw [pj_bl6]
  decide
noncomputable def F_290_s6x (G0 : pj_G) (i : Int32) : Int32 := (pj_byt 6).getD i.toNatClampNeg 0
theorem F_290_s6x_e (G0 : pj_G) (i : Int32) : F_290_s6x G0 i = (pj_byt 6).getD i.toNatClampNeg 0 := rfl
theorem ct_289_s6x (G0 : pj_G) (hI : pj_Inv G0) (i : Int32) (ri : (0 : Int) ≤ i.toInt ∧ i.toInt ≤ 1) : pj_Y 13 289 [.retAddr 6, .int i] G0 (fun v' G' => ∃ y : Int32, v' = some (.int y) ∧ G0 = G' ∧ ((0 : Int) ≤ y.toInt ∧ y.toInt ≤ 255) ∧ ((i.toInt = 0 → y.toInt = 43) ∧ (i.toInt = 1 → y.toInt = 45)) ∧ (y = F_290_s6x G0 i)) := by
  have hn : i.toNatClampNeg < (pj_byt 6).length := by
    rw [pj_bl6]
    show i.toInt.toNat < 2
    omega
  have hq : (i.toInt = 0 → ((pj_byt 6).getD i.toNatClampNeg 0).toInt = 43) ∧ (i.toInt = 1 → ((pj_byt 6).getD i.toNatClampNeg 0).toInt = 45) := by
    have q := pr_sw6 i.toInt.toNat (by omega)
    exact ⟨fun e => q.1 (by omega), fun e => q.2 (by omega)⟩
  exact ⟨_, _, pj_E_nat (M := pj_m289) rfl rfl (Nat.le_refl _) (pj_nat_chr G0 (by decide) (by rw [Int32.le_iff_toInt_le, pj_lz0]; omega) hn), _, rfl, rfl, pj_chb 6 (by decide) _ hn, hq, rfl⟩
noncomputable def F_289_s7x (G0 : pj_G) : Int32 := Int32.ofNat (pj_byt 7).length
theorem F_289_s7x_e (G0 : pj_G) : F_289_s7x G0 = Int32.ofNat (pj_byt 7).length := rfl
theorem ct_288_s7x (G0 : pj_G) (hI : pj_Inv G0) : pj_Y 13 288 [.retAddr 7] G0 (fun v' G' => ∃ y : Int32, v' = some (.int y) ∧ G0 = G' ∧ ((2 : Int) ≤ y.toInt ∧ y.toInt ≤ 2) ∧ (y = F_289_s7x G0)) := by
  refine ⟨_, _, pj_E_nat (M := pj_m288) rfl rfl (Nat.le_refl _) (pj_nat_len G0 (by decide)), _, rfl, rfl, ?_, rfl⟩
  rw [pj_bl7]
  decide
noncomputable def F_290_s7x (G0 : pj_G) (i : Int32) : Int32 := (pj_byt 7).getD i.toNatClampNeg 0
theorem F_290_s7x_e (G0 : pj_G) (i : Int32) : F_290_s7x G0 i = (pj_byt 7).getD i.toNatClampNeg 0 := rfl
theorem ct_289_s7x (G0 : pj_G) (hI : pj_Inv G0) (i : Int32) (ri : (0 : Int) ≤ i.toInt ∧ i.toInt ≤ 1) : pj_Y 13 289 [.retAddr 7, .int i] G0 (fun v' G' => ∃ y : Int32, v' = some (.int y) ∧ G0 = G' ∧ ((0 : Int) ≤ y.toInt ∧ y.toInt ≤ 255) ∧ ((i.toInt = 0 → y.toInt = 42) ∧ (i.toInt = 1 → y.toInt = 47)) ∧ (y = F_290_s7x G0 i)) := by
  have hn : i.toNatClampNeg < (pj_byt 7).length := by
    rw [pj_bl7]
    show i.toInt.toNat < 2
    omega
  have hq : (i.toInt = 0 → ((pj_byt 7).getD i.toNatClampNeg 0).toInt = 42) ∧ (i.toInt = 1 → ((pj_byt 7).getD i.toNatClampNeg 0).toInt = 47) := by
    have q := pr_sw7 i.toInt.toNat (by omega)
    exact ⟨fun e => q.1 (by omega), fun e => q.2 (by omega)⟩
  exact ⟨_, _, pj_E_nat (M := pj_m289) rfl rfl (Nat.le_refl _) (pj_nat_chr G0 (by decide) (by rw [Int32.le_iff_toInt_le, pj_lz0]; omega) hn), _, rfl, rfl, pj_chb 7 (by decide) _ hn, hq, rfl⟩
noncomputable def F_289_s8x (G0 : pj_G) : Int32 := Int32.ofNat (pj_byt 8).length
theorem F_289_s8x_e (G0 : pj_G) : F_289_s8x G0 = Int32.ofNat (pj_byt 8).length := rfl
theorem ct_288_s8x (G0 : pj_G) (hI : pj_Inv G0) : pj_Y 13 288 [.retAddr 8] G0 (fun v' G' => ∃ y : Int32, v' = some (.int y) ∧ G0 = G' ∧ ((7 : Int) ≤ y.toInt ∧ y.toInt ≤ 7) ∧ (y = F_289_s8x G0)) := by
  refine ⟨_, _, pj_E_nat (M := pj_m288) rfl rfl (Nat.le_refl _) (pj_nat_len G0 (by decide)), _, rfl, rfl, ?_, rfl⟩
  rw [pj_bl8]
  decide
noncomputable def F_290_s8x (G0 : pj_G) (i : Int32) : Int32 := (pj_byt 8).getD i.toNatClampNeg 0
theorem F_290_s8x_e (G0 : pj_G) (i : Int32) : F_290_s8x G0 i = (pj_byt 8).getD i.toNatClampNeg 0 := rfl
theorem ct_289_s8x (G0 : pj_G) (hI : pj_Inv G0) (i : Int32) (ri : (0 : Int) ≤ i.toInt ∧ i.toInt ≤ 6) : pj_Y 13 289 [.retAddr 8, .int i] G0 (fun v' G' => ∃ y : Int32, v' = some (.int y) ∧ G0 = G' ∧ ((0 : Int) ≤ y.toInt ∧ y.toInt ≤ 255) ∧ ((i.toInt = 0 → y.toInt = 100) ∧ (i.toInt = 1 → y.toInt = 117) ∧ (i.toInt = 2 → y.toInt = 108) ∧ (i.toInt = 3 → y.toInt = 115) ∧ (i.toInt = 4 → y.toInt = 119) ∧ (i.toInt = 5 → y.toInt = 98) ∧ (i.toInt = 6 → y.toInt = 110)) ∧ (y = F_290_s8x G0 i)) := by
  have hn : i.toNatClampNeg < (pj_byt 8).length := by
    rw [pj_bl8]
    show i.toInt.toNat < 7
    omega
  have hq : (i.toInt = 0 → ((pj_byt 8).getD i.toNatClampNeg 0).toInt = 100) ∧ (i.toInt = 1 → ((pj_byt 8).getD i.toNatClampNeg 0).toInt = 117) ∧ (i.toInt = 2 → ((pj_byt 8).getD i.toNatClampNeg 0).toInt = 108) ∧ (i.toInt = 3 → ((pj_byt 8).getD i.toNatClampNeg 0).toInt = 115) ∧ (i.toInt = 4 → ((pj_byt 8).getD i.toNatClampNeg 0).toInt = 119) ∧ (i.toInt = 5 → ((pj_byt 8).getD i.toNatClampNeg 0).toInt = 98) ∧ (i.toInt = 6 → ((pj_byt 8).getD i.toNatClampNeg 0).toInt = 110) := by
    have q := pr_sw8 i.toInt.toNat (by omega)
    exact ⟨fun e => q.1 (by omega), fun e => q.2.1 (by omega), fun e => q.2.2.1 (by omega), fun e => q.2.2.2.1 (by omega), fun e => q.2.2.2.2.1 (by omega), fun e => q.2.2.2.2.2.1 (by omega), fun e => q.2.2.2.2.2.2 (by omega)⟩
  exact ⟨_, _, pj_E_nat (M := pj_m289) rfl rfl (Nat.le_refl _) (pj_nat_chr G0 (by decide) (by rw [Int32.le_iff_toInt_le, pj_lz0]; omega) hn), _, rfl, rfl, pj_chb 8 (by decide) _ hn, hq, rfl⟩
noncomputable def F_289_s11x (G0 : pj_G) : Int32 := Int32.ofNat (pj_byt 11).length
theorem F_289_s11x_e (G0 : pj_G) : F_289_s11x G0 = Int32.ofNat (pj_byt 11).length := rfl
theorem ct_288_s11x (G0 : pj_G) (hI : pj_Inv G0) : pj_Y 13 288 [.retAddr 11] G0 (fun v' G' => ∃ y : Int32, v' = some (.int y) ∧ G0 = G' ∧ ((7 : Int) ≤ y.toInt ∧ y.toInt ≤ 7) ∧ (y = F_289_s11x G0)) := by
  refine ⟨_, _, pj_E_nat (M := pj_m288) rfl rfl (Nat.le_refl _) (pj_nat_len G0 (by decide)), _, rfl, rfl, ?_, rfl⟩
  rw [pj_bl11]
  decide
noncomputable def F_290_s11x (G0 : pj_G) (i : Int32) : Int32 := (pj_byt 11).getD i.toNatClampNeg 0
theorem F_290_s11x_e (G0 : pj_G) (i : Int32) : F_290_s11x G0 i = (pj_byt 11).getD i.toNatClampNeg 0 := rfl
theorem ct_289_s11x (G0 : pj_G) (hI : pj_Inv G0) (i : Int32) (ri : (0 : Int) ≤ i.toInt ∧ i.toInt ≤ 6) : pj_Y 13 289 [.retAddr 11, .int i] G0 (fun v' G' => ∃ y : Int32, v' = some (.int y) ∧ G0 = G' ∧ ((0 : Int) ≤ y.toInt ∧ y.toInt ≤ 255) ∧ ((i.toInt = 0 → y.toInt = 100) ∧ (i.toInt = 1 → y.toInt = 117) ∧ (i.toInt = 2 → y.toInt = 108) ∧ (i.toInt = 3 → y.toInt = 115) ∧ (i.toInt = 4 → y.toInt = 119) ∧ (i.toInt = 5 → y.toInt = 98) ∧ (i.toInt = 6 → y.toInt = 110)) ∧ (y = F_290_s11x G0 i)) := by
  have hn : i.toNatClampNeg < (pj_byt 11).length := by
    rw [pj_bl11]
    show i.toInt.toNat < 7
    omega
  have hq : (i.toInt = 0 → ((pj_byt 11).getD i.toNatClampNeg 0).toInt = 100) ∧ (i.toInt = 1 → ((pj_byt 11).getD i.toNatClampNeg 0).toInt = 117) ∧ (i.toInt = 2 → ((pj_byt 11).getD i.toNatClampNeg 0).toInt = 108) ∧ (i.toInt = 3 → ((pj_byt 11).getD i.toNatClampNeg 0).toInt = 115) ∧ (i.toInt = 4 → ((pj_byt 11).getD i.toNatClampNeg 0).toInt = 119) ∧ (i.toInt = 5 → ((pj_byt 11).getD i.toNatClampNeg 0).toInt = 98) ∧ (i.toInt = 6 → ((pj_byt 11).getD i.toNatClampNeg 0).toInt = 110) := by
    have q := pr_sw11 i.toInt.toNat (by omega)
    exact ⟨fun e => q.1 (by omega), fun e => q.2.1 (by omega), fun e => q.2.2.1 (by omega), fun e => q.2.2.2.1 (by omega), fun e => q.2.2.2.2.1 (by omega), fun e => q.2.2.2.2.2.1 (by omega), fun e => q.2.2.2.2.2.2 (by omega)⟩
  exact ⟨_, _, pj_E_nat (M := pj_m289) rfl rfl (Nat.le_refl _) (pj_nat_chr G0 (by decide) (by rw [Int32.le_iff_toInt_le, pj_lz0]; omega) hn), _, rfl, rfl, pj_chb 11 (by decide) _ hn, hq, rfl⟩
noncomputable def F_289_s12x (G0 : pj_G) : Int32 := Int32.ofNat (pj_byt 12).length
theorem F_289_s12x_e (G0 : pj_G) : F_289_s12x G0 = Int32.ofNat (pj_byt 12).length := rfl
theorem ct_288_s12x (G0 : pj_G) (hI : pj_Inv G0) : pj_Y 13 288 [.retAddr 12] G0 (fun v' G' => ∃ y : Int32, v' = some (.int y) ∧ G0 = G' ∧ ((3 : Int) ≤ y.toInt ∧ y.toInt ≤ 3) ∧ (y = F_289_s12x G0)) := by
  refine ⟨_, _, pj_E_nat (M := pj_m288) rfl rfl (Nat.le_refl _) (pj_nat_len G0 (by decide)), _, rfl, rfl, ?_, rfl⟩
  rw [pj_bl12]
  decide
noncomputable def F_290_s12x (G0 : pj_G) (i : Int32) : Int32 := (pj_byt 12).getD i.toNatClampNeg 0
theorem F_290_s12x_e (G0 : pj_G) (i : Int32) : F_290_s12x G0 i = (pj_byt 12).getD i.toNatClampNeg 0 := rfl
theorem ct_289_s12x (G0 : pj_G) (hI : pj_Inv G0) (i : Int32) (ri : (0 : Int) ≤ i.toInt ∧ i.toInt ≤ 2) : pj_Y 13 289 [.retAddr 12, .int i] G0 (fun v' G' => ∃ y : Int32, v' = some (.int y) ∧ G0 = G' ∧ ((0 : Int) ≤ y.toInt ∧ y.toInt ≤ 255) ∧ ((i.toInt = 0 → y.toInt = 60) ∧ (i.toInt = 1 → y.toInt = 62) ∧ (i.toInt = 2 → y.toInt = 61)) ∧ (y = F_290_s12x G0 i)) := by
  have hn : i.toNatClampNeg < (pj_byt 12).length := by
    rw [pj_bl12]
    show i.toInt.toNat < 3
    omega
  have hq : (i.toInt = 0 → ((pj_byt 12).getD i.toNatClampNeg 0).toInt = 60) ∧ (i.toInt = 1 → ((pj_byt 12).getD i.toNatClampNeg 0).toInt = 62) ∧ (i.toInt = 2 → ((pj_byt 12).getD i.toNatClampNeg 0).toInt = 61) := by
    have q := pr_sw12 i.toInt.toNat (by omega)
    exact ⟨fun e => q.1 (by omega), fun e => q.2.1 (by omega), fun e => q.2.2 (by omega)⟩
  exact ⟨_, _, pj_E_nat (M := pj_m289) rfl rfl (Nat.le_refl _) (pj_nat_chr G0 (by decide) (by rw [Int32.le_iff_toInt_le, pj_lz0]; omega) hn), _, rfl, rfl, pj_chb 12 (by decide) _ hn, hq, rfl⟩
noncomputable def F_289_s13x (G0 : pj_G) : Int32 := Int32.ofNat (pj_byt 13).length
theorem F_289_s13x_e (G0 : pj_G) : F_289_s13x G0 = Int32.ofNat (pj_byt 13).length := rfl
theorem ct_288_s13x (G0 : pj_G) (hI : pj_Inv G0) : pj_Y 13 288 [.retAddr 13] G0 (fun v' G' => ∃ y : Int32, v' = some (.int y) ∧ G0 = G' ∧ ((2 : Int) ≤ y.toInt ∧ y.toInt ≤ 2) ∧ (y = F_289_s13x G0)) := by
  refine ⟨_, _, pj_E_nat (M := pj_m288) rfl rfl (Nat.le_refl _) (pj_nat_len G0 (by decide)), _, rfl, rfl, ?_, rfl⟩
  rw [pj_bl13]
  decide
noncomputable def F_290_s13x (G0 : pj_G) (i : Int32) : Int32 := (pj_byt 13).getD i.toNatClampNeg 0
theorem F_290_s13x_e (G0 : pj_G) (i : Int32) : F_290_s13x G0 i = (pj_byt 13).getD i.toNatClampNeg 0 := rfl
theorem ct_289_s13x (G0 : pj_G) (hI : pj_Inv G0) (i : Int32) (ri : (0 : Int) ≤ i.toInt ∧ i.toInt ≤ 1) : pj_Y 13 289 [.retAddr 13, .int i] G0 (fun v' G' => ∃ y : Int32, v' = some (.int y) ∧ G0 = G' ∧ ((0 : Int) ≤ y.toInt ∧ y.toInt ≤ 255) ∧ ((i.toInt = 0 → y.toInt = 43) ∧ (i.toInt = 1 → y.toInt = 45)) ∧ (y = F_290_s13x G0 i)) := by
  have hn : i.toNatClampNeg < (pj_byt 13).length := by
    rw [pj_bl13]
    show i.toInt.toNat < 2
    omega
  have hq : (i.toInt = 0 → ((pj_byt 13).getD i.toNatClampNeg 0).toInt = 43) ∧ (i.toInt = 1 → ((pj_byt 13).getD i.toNatClampNeg 0).toInt = 45) := by
    have q := pr_sw13 i.toInt.toNat (by omega)
    exact ⟨fun e => q.1 (by omega), fun e => q.2 (by omega)⟩
  exact ⟨_, _, pj_E_nat (M := pj_m289) rfl rfl (Nat.le_refl _) (pj_nat_chr G0 (by decide) (by rw [Int32.le_iff_toInt_le, pj_lz0]; omega) hn), _, rfl, rfl, pj_chb 13 (by decide) _ hn, hq, rfl⟩
noncomputable def F_289_s14x (G0 : pj_G) : Int32 := Int32.ofNat (pj_byt 14).length
theorem F_289_s14x_e (G0 : pj_G) : F_289_s14x G0 = Int32.ofNat (pj_byt 14).length := rfl
theorem ct_288_s14x (G0 : pj_G) (hI : pj_Inv G0) : pj_Y 13 288 [.retAddr 14] G0 (fun v' G' => ∃ y : Int32, v' = some (.int y) ∧ G0 = G' ∧ ((2 : Int) ≤ y.toInt ∧ y.toInt ≤ 2) ∧ (y = F_289_s14x G0)) := by
  refine ⟨_, _, pj_E_nat (M := pj_m288) rfl rfl (Nat.le_refl _) (pj_nat_len G0 (by decide)), _, rfl, rfl, ?_, rfl⟩
  rw [pj_bl14]
  decide
noncomputable def F_290_s14x (G0 : pj_G) (i : Int32) : Int32 := (pj_byt 14).getD i.toNatClampNeg 0
theorem F_290_s14x_e (G0 : pj_G) (i : Int32) : F_290_s14x G0 i = (pj_byt 14).getD i.toNatClampNeg 0 := rfl
theorem ct_289_s14x (G0 : pj_G) (hI : pj_Inv G0) (i : Int32) (ri : (0 : Int) ≤ i.toInt ∧ i.toInt ≤ 1) : pj_Y 13 289 [.retAddr 14, .int i] G0 (fun v' G' => ∃ y : Int32, v' = some (.int y) ∧ G0 = G' ∧ ((0 : Int) ≤ y.toInt ∧ y.toInt ≤ 255) ∧ ((i.toInt = 0 → y.toInt = 42) ∧ (i.toInt = 1 → y.toInt = 47)) ∧ (y = F_290_s14x G0 i)) := by
  have hn : i.toNatClampNeg < (pj_byt 14).length := by
    rw [pj_bl14]
    show i.toInt.toNat < 2
    omega
  have hq : (i.toInt = 0 → ((pj_byt 14).getD i.toNatClampNeg 0).toInt = 42) ∧ (i.toInt = 1 → ((pj_byt 14).getD i.toNatClampNeg 0).toInt = 47) := by
    have q := pr_sw14 i.toInt.toNat (by omega)
    exact ⟨fun e => q.1 (by omega), fun e => q.2 (by omega)⟩
  exact ⟨_, _, pj_E_nat (M := pj_m289) rfl rfl (Nat.le_refl _) (pj_nat_chr G0 (by decide) (by rw [Int32.le_iff_toInt_le, pj_lz0]; omega) hn), _, rfl, rfl, pj_chb 14 (by decide) _ hn, hq, rfl⟩
noncomputable def F_291_s8x (G0 : pj_G) (i : Int32) : Int32 := pj_ix (fun j => (pj_byt 8).getD j 0) i.toInt8.toInt32 (pj_byt 8).length 0
theorem F_291_s8x_e (G0 : pj_G) (i : Int32) : F_291_s8x G0 i = pj_ix (fun j => (pj_byt 8).getD j 0) i.toInt8.toInt32 (pj_byt 8).length 0 := rfl
theorem ct_290_s8x (G0 : pj_G) (hI : pj_Inv G0) (i : Int32) (ri : (0 : Int) ≤ i.toInt ∧ i.toInt ≤ 255) : pj_Y 13 290 [.retAddr 8, .int i] G0 (fun v' G' => ∃ y : Int32, v' = some (.int y) ∧ G0 = G' ∧ ((-1 : Int) ≤ y.toInt ∧ y.toInt ≤ 6) ∧ (y = F_291_s8x G0 i)) := by
  have c255 : (255 : Int32).toInt = 255 := by decide
  refine ⟨_, _, pj_E_nat (M := pj_m290) rfl rfl (Nat.le_refl _) (pj_nat_ixo G0 (by decide) (by rw [Int32.le_iff_toInt_le, pj_lz0]; omega) (by rw [Int32.le_iff_toInt_le, c255]; omega)), _, rfl, rfl, ?_, rfl⟩
  have h := pj_ix_b (fun j => (pj_byt 8).getD j 0) i.toInt8.toInt32 (pj_byt 8).length 0 (by rw [pj_bl8]; decide)
  rw [pj_bl8] at h ⊢
  omega
def kc_84_s5x : pj_KT := ([(2, 3)], [2], [])
noncomputable def L_84_s5x (G0 : pj_G) (fu : Nat) : Int32 → pj_G → Int32 × pj_G := Nat.rec (motive := fun _ => Int32 → pj_G → Int32 × pj_G) (fun _ G => (0, G)) (fun _ ih v2 G => pj_nm (F_289_s5x G) (fun y7 => cond (pj_c1 .ge v2 y7) ((Int32.ofInt (-1), G)) (pj_nm (F_290_s5x G v2) (fun y15 => pj_bd (F_82x G y15) (fun y19 G20 => cond (pj_c1 .eq y19 0) (pj_nm (v2 + Int32.ofInt 1) (fun z27 => ih z27 G20)) (pj_nm (F_290_s5x G20 v2) (fun y34 => (y34, G20)))))))) fu
theorem L_84_s5x_s0 (G0 : pj_G) (fu : Nat) (v2 : Int32) (G : pj_G) : L_84_s5x G0 (fu + 1) v2 G = pj_nm (F_289_s5x G) (fun y7 => cond (pj_c1 .ge v2 y7) ((Int32.ofInt (-1), G)) (pj_nm (F_290_s5x G v2) (fun y15 => pj_bd (F_82x G y15) (fun y19 G20 => cond (pj_c1 .eq y19 0) (pj_nm (v2 + Int32.ofInt 1) (fun z27 => L_84_s5x G0 fu z27 G20)) (pj_nm (F_290_s5x G20 v2) (fun y34 => (y34, G20))))))) := rfl
noncomputable def F_84_s5x (G0 : pj_G) : Int32 × pj_G := L_84_s5x G0 4 (Int32.ofInt 0) G0
theorem F_84_s5x_e (G0 : pj_G) : F_84_s5x G0 = L_84_s5x G0 4 (Int32.ofInt 0) G0 := rfl
theorem lp_ct_84_s5x (G0 : pj_G) (hI0 : pj_Inv G0) : ∀ mn : Nat, (∀ (G : pj_G) (hI : pj_Inv G) (hK : pj_kpt kc_84_s5x G0 G) (v2 : Int32), ((0 : Int) ≤ v2.toInt ∧ v2.toInt ≤ 3) → ((pj_fi G 2 3).toInt = (pj_fi G0 2 3).toInt ∧ (pj_fi G 2 4).toInt = (pj_fi G0 2 4).toInt ∧ (pj_fi G 2 2).toInt = (pj_fi G0 2 2).toInt) → ((pj_ai G 3 (pj_fi G 2 3).toInt.toNat).toInt = (pj_ai G0 3 (pj_fi G0 2 3).toInt.toNat).toInt) → (0 < v2.toInt → ¬ (((pj_fi G0 2 4).toInt = -1 ∧ (pj_fi G0 2 3).toInt < (pj_fi G0 2 2).toInt) ∧ (pj_ai G0 3 (pj_fi G0 2 3).toInt.toNat).toInt = 60)) → (1 < v2.toInt → ¬ (((pj_fi G0 2 4).toInt = -1 ∧ (pj_fi G0 2 3).toInt < (pj_fi G0 2 2).toInt) ∧ (pj_ai G0 3 (pj_fi G0 2 3).toInt.toNat).toInt = 62)) → (2 < v2.toInt → ¬ (((pj_fi G0 2 4).toInt = -1 ∧ (pj_fi G0 2 3).toInt < (pj_fi G0 2 2).toInt) ∧ (pj_ai G0 3 (pj_fi G0 2 3).toInt.toNat).toInt = 61)) → 3 - v2.toInt < (mn : Int) → pj_X 14 pj_m84 G 2 [(0, .ref 2), (1, .retAddr 5), (2, .int v2)] [] (fun v' G' => ∃ y : Int32, v' = some (.int y) ∧ pj_Inv G' ∧ pj_kpt kc_84_s5x G0 G' ∧ ((-1 : Int) ≤ y.toInt ∧ y.toInt ≤ 255) ∧ (∀ H, G0 = H → ((((pj_fi H 2 4).toInt = -1 ∧ (pj_fi H 2 3).toInt < (pj_fi H 2 2).toInt) ∧ (pj_ai H 3 (pj_fi H 2 3).toInt.toNat).toInt = 60 → y.toInt = 60 ∧ (pj_fi G' 2 3).toInt = (pj_fi H 2 3).toInt + 1) ∧ (((pj_fi H 2 4).toInt = -1 ∧ (pj_fi H 2 3).toInt < (pj_fi H 2 2).toInt) ∧ (pj_ai H 3 (pj_fi H 2 3).toInt.toNat).toInt = 62 → y.toInt = 62 ∧ (pj_fi G' 2 3).toInt = (pj_fi H 2 3).toInt + 1) ∧ (((pj_fi H 2 4).toInt = -1 ∧ (pj_fi H 2 3).toInt < (pj_fi H 2 2).toInt) ∧ (pj_ai H 3 (pj_fi H 2 3).toInt.toNat).toInt = 61 → y.toInt = 61 ∧ (pj_fi G' 2 3).toInt = (pj_fi H 2 3).toInt + 1) ∧ (¬ (((pj_fi H 2 4).toInt = -1 ∧ (pj_fi H 2 3).toInt < (pj_fi H 2 2).toInt) ∧ ((pj_ai H 3 (pj_fi H 2 3).toInt.toNat).toInt = 60 ∨ (pj_ai H 3 (pj_fi H 2 3).toInt.toNat).toInt = 62 ∨ (pj_ai H 3 (pj_fi H 2 3).toInt.toNat).toInt = 61)) → y.toInt = -1 ∧ (pj_fi G' 2 3).toInt = (pj_fi H 2 3).toInt) ∧ (pj_fi G' 2 4).toInt = (pj_fi H 2 4).toInt)) ∧ ((y, G') = L_84_s5x G0 mn v2 G))) := by
  have c0_ : (Int32.ofInt (-1)).toInt = -1 := by decide
  have c1_ : (Int32.ofInt 0).toInt = 0 := by decide
  have c2_ : (Int32.ofInt 1).toInt = 1 := by decide
  intro mn
  induction mn with
  | zero =>
    intro G hI hK v2 rv2 x0_ x1_ x2_ x3_ x4_ hm
    exfalso
    omega
  | succ mn ih =>
    intro G hI hK v2 rv2 x0_ x1_ x2_ x3_ x4_ hm
    rw [L_84_s5x_s0]
    obtain ⟨y1, hy1⟩ : ∃ z : Int32, z = pj_fi G 2 2 := ⟨_, rfl⟩
    have ey1 : (pj_fi G 2 2).toInt = y1.toInt := by rw [hy1]
    have ry1 : (0 : Int) ≤ y1.toInt ∧ y1.toInt ≤ 80 := by rw [hy1]; exact hI.2.1 2 2 (0, 80) rfl
    obtain ⟨y2, hy2⟩ : ∃ z : Int32, z = pj_fi G 2 3 := ⟨_, rfl⟩
    have ey2 : (pj_fi G 2 3).toInt = y2.toInt := by rw [hy2]
    have ry2 : (0 : Int) ≤ y2.toInt ∧ y2.toInt ≤ 80 := by rw [hy2]; exact hI.2.1 2 3 (0, 80) rfl
    obtain ⟨y3, hy3⟩ : ∃ z : Int32, z = pj_fi G 2 4 := ⟨_, rfl⟩
    have ey3 : (pj_fi G 2 4).toInt = y3.toInt := by rw [hy3]
    have ry3 : (-1 : Int) ≤ y3.toInt ∧ y3.toInt ≤ 80 := by rw [hy3]; exact hI.2.1 2 4 (-1, 80) rfl
    refine pj_X_of (fun r h => pj_R_to (G, 4, [(0, .ref 2), (1, .retAddr 5), (2, .int v2)], [.retAddr 5, .int v2], 0, 0) 4 3 (fun _ => rfl) h) ?_
    have q4 : (pj_fi G 2 2).toInt = y1.toInt := by rw [show pj_fi G 2 2 = y1 from hy1.symm]
    have q5 : (pj_fi G 2 3).toInt = y2.toInt := by rw [show pj_fi G 2 3 = y2 from hy2.symm]
    have q6 : (pj_fi G 2 4).toInt = y3.toInt := by rw [show pj_fi G 2 4 = y3 from hy3.symm]
    refine pj_X_ca (vs := [.retAddr 5]) rfl (fun _ => rfl) ⟨Nat.le_of_ble_eq_true rfl, Nat.le_of_ble_eq_true rfl, rfl⟩ ⟨rfl, rfl⟩ (pj_Y_up (by decide) (ct_288_s5x G hI)) ?_
    rintro _ _ ⟨y7, rfl, rfl, ry7, fy7⟩
    rw [← fy7, pj_nm_e]
    show pj_X _ _ G 7 [(0, .ref 2), (1, .retAddr 5), (2, .int v2)] [.int y7, .int v2] _
    cases b8 : pj_c1 .ge v2 y7 with
    | true =>
      rw [pj_cT]
      have ub8 := pj_u_geT b8
      refine pj_X_of (fun r h => pj_R_icT 34 rfl rfl b8 h) ?_
      refine pj_X_of (fun r h => pj_R_to (G, 35, [(0, .ref 2), (1, .retAddr 5), (2, .int v2)], [.int (Int32.ofInt (-1))], 0, 0) 35 2 (fun _ => rfl) h) ?_
      have q9 : (pj_fi G 2 2).toInt = y1.toInt := by rw [show pj_fi G 2 2 = y1 from hy1.symm]
      have q10 : (pj_fi G 2 3).toInt = y2.toInt := by rw [show pj_fi G 2 3 = y2 from hy2.symm]
      have q11 : (pj_fi G 2 4).toInt = y3.toInt := by rw [show pj_fi G 2 4 = y3 from hy3.symm]
      exact pj_X_rt rfl rfl ⟨_, rfl, hI, hK, ⟨by omega, by omega⟩, (fun H hH => by subst hH; exact (by omega)), rfl⟩
    | false =>
      rw [pj_cF]
      have ub8 := pj_u_geF b8
      refine pj_X_of (fun r h => pj_R_icF rfl b8 h) ?_
      refine pj_X_of (fun r h => pj_R_to (G, 13, [(0, .ref 2), (1, .retAddr 5), (2, .int v2)], [.int v2, .retAddr 5, .ref 2], 0, 0) 13 4 (fun _ => rfl) h) ?_
      have q12 : (pj_fi G 2 2).toInt = y1.toInt := by rw [show pj_fi G 2 2 = y1 from hy1.symm]
      have q13 : (pj_fi G 2 3).toInt = y2.toInt := by rw [show pj_fi G 2 3 = y2 from hy2.symm]
      have q14 : (pj_fi G 2 4).toInt = y3.toInt := by rw [show pj_fi G 2 4 = y3 from hy3.symm]
      refine pj_X_ca (vs := [.retAddr 5, .int v2]) rfl (fun _ => rfl) ⟨Nat.le_of_ble_eq_true rfl, Nat.le_of_ble_eq_true rfl, rfl⟩ ⟨rfl, rfl⟩ (pj_Y_up (by decide) (ct_289_s5x G hI v2 ⟨by omega, by omega⟩)) ?_
      rintro _ _ ⟨y15, rfl, rfl, ry15, ey15, fy15⟩
      rw [← fy15, pj_nm_e]
      show pj_X _ _ G 16 [(0, .ref 2), (1, .retAddr 5), (2, .int v2)] [.int y15, .ref 2] _
      have q16 : (pj_fi G 2 2).toInt = y1.toInt := by rw [show pj_fi G 2 2 = y1 from hy1.symm]
      have q17 : (pj_fi G 2 3).toInt = y2.toInt := by rw [show pj_fi G 2 3 = y2 from hy2.symm]
      have q18 : (pj_fi G 2 4).toInt = y3.toInt := by rw [show pj_fi G 2 4 = y3 from hy3.symm]
      refine pj_X_ca (vs := [.ref 2, .int y15]) rfl (fun _ => rfl) ⟨Nat.le_of_ble_eq_true rfl, Nat.le_of_ble_eq_true rfl, pj_T_rcv hI rfl⟩ ⟨rfl, rfl⟩ (pj_Y_up (by decide) (ct_82x G hI y15 ⟨by omega, by omega⟩)) ?_
      rintro _ G20 ⟨y19, rfl, iG20, jG20, ry19, ey19, fy19⟩
      replace ey19 := ey19 _ rfl
      rw [← fy19, pj_bd_e]
      have kG20 : pj_kpt kc_84_s5x G0 G20 := pj_kpt_t hK (pj_kpt_s jG20 rfl)
      have q21 : (pj_fi G20 2 2).toInt = (pj_fi G 2 2).toInt := by rw [jG20.1 (2, 2) (by decide)]
      have q22 : (pj_fi G20 2 4).toInt = (pj_fi G 2 4).toInt := by rw [jG20.1 (2, 4) (by decide)]
      obtain ⟨y23, hy23⟩ : ∃ z : Int32, z = pj_fi G20 2 2 := ⟨_, rfl⟩
      have ey23 : (pj_fi G20 2 2).toInt = y23.toInt := by rw [hy23]
      have ry23 : (0 : Int) ≤ y23.toInt ∧ y23.toInt ≤ 80 := by rw [hy23]; exact iG20.2.1 2 2 (0, 80) rfl
      obtain ⟨y24, hy24⟩ : ∃ z : Int32, z = pj_fi G20 2 3 := ⟨_, rfl⟩
      have ey24 : (pj_fi G20 2 3).toInt = y24.toInt := by rw [hy24]
      have ry24 : (0 : Int) ≤ y24.toInt ∧ y24.toInt ≤ 80 := by rw [hy24]; exact iG20.2.1 2 3 (0, 80) rfl
      obtain ⟨y25, hy25⟩ : ∃ z : Int32, z = pj_fi G20 2 4 := ⟨_, rfl⟩
      have ey25 : (pj_fi G20 2 4).toInt = y25.toInt := by rw [hy25]
      have ry25 : (-1 : Int) ≤ y25.toInt ∧ y25.toInt ≤ 80 := by rw [hy25]; exact iG20.2.1 2 4 (-1, 80) rfl
      show pj_X _ _ G20 19 [(0, .ref 2), (1, .retAddr 5), (2, .int v2)] [.int y19] _
      cases b26 : pj_c1 .eq y19 0 with
      | true =>
        rw [pj_cT]
        have ub26 := pj_u0_eqT b26
        refine pj_X_of (fun r h => pj_R_ifT 28 rfl rfl b26 h) ?_
        refine pj_X_of (fun r h => pj_R_to (G20, 31, [(2, .int (v2 + Int32.ofInt 1)), (0, .ref 2), (1, .retAddr 5)], [], 0, 0) 31 2 (fun _ => rfl) h) ?_
        obtain ⟨z27, hz27⟩ : ∃ z : Int32, z = v2 + Int32.ofInt 1 := ⟨_, rfl⟩
        rw [← hz27]
        rw [pj_nm_e]
        have fz27_0 : z27.toInt = v2.toInt + (Int32.ofInt 1).toInt := by rw [hz27]; exact pj_addI (by have := pj_i32 v2; have := pj_i32 (Int32.ofInt 1); omega) (by have := pj_i32 v2; have := pj_i32 (Int32.ofInt 1); omega)
        refine pj_X_of (fun r h => pj_R_to (G20, 2, [(2, .int z27), (0, .ref 2), (1, .retAddr 5)], [], 0, 0) 2 2 (fun _ => rfl) h) ?_
        have q28 : (pj_fi G20 2 2).toInt = y23.toInt := by rw [show pj_fi G20 2 2 = y23 from hy23.symm]
        have q29 : (pj_fi G20 2 3).toInt = y24.toInt := by rw [show pj_fi G20 2 3 = y24 from hy24.symm]
        have q30 : (pj_fi G20 2 4).toInt = y25.toInt := by rw [show pj_fi G20 2 4 = y25 from hy25.symm]
        exact pj_X_sub [(0, .ref 2), (1, .retAddr 5), (2, .int z27)] (show List.Nodup [0, 1, 2] by decide) ⟨rfl, rfl, rfl, trivial⟩ (ih G20 iG20 kG20 z27 ⟨by omega, by omega⟩ (by omega) (by rw [jG20.2.2 3 (by decide), show (pj_fi G20 2 3).toInt = (pj_fi G 2 3).toInt by omega]; exact x1_) (by omega) (by omega) (by omega) (by omega))
      | false =>
        rw [pj_cF]
        have ub26 := pj_u0_eqF b26
        refine pj_X_of (fun r h => pj_R_ifF rfl b26 h) ?_
        refine pj_X_of (fun r h => pj_R_to (G20, 24, [(0, .ref 2), (1, .retAddr 5), (2, .int v2)], [.int v2, .retAddr 5], 0, 0) 24 3 (fun _ => rfl) h) ?_
        have q31 : (pj_fi G20 2 2).toInt = y23.toInt := by rw [show pj_fi G20 2 2 = y23 from hy23.symm]
        have q32 : (pj_fi G20 2 3).toInt = y24.toInt := by rw [show pj_fi G20 2 3 = y24 from hy24.symm]
        have q33 : (pj_fi G20 2 4).toInt = y25.toInt := by rw [show pj_fi G20 2 4 = y25 from hy25.symm]
        refine pj_X_ca (vs := [.retAddr 5, .int v2]) rfl (fun _ => rfl) ⟨Nat.le_of_ble_eq_true rfl, Nat.le_of_ble_eq_true rfl, rfl⟩ ⟨rfl, rfl⟩ (pj_Y_up (by decide) (ct_289_s5x G20 iG20 v2 ⟨by omega, by omega⟩)) ?_
        rintro _ _ ⟨y34, rfl, rfl, ry34, ey34, fy34⟩
        rw [← fy34, pj_nm_e]
        show pj_X _ _ G20 27 [(0, .ref 2), (1, .retAddr 5), (2, .int v2)] [.int y34] _
        have q35 : (pj_fi G20 2 2).toInt = y23.toInt := by rw [show pj_fi G20 2 2 = y23 from hy23.symm]
        have q36 : (pj_fi G20 2 3).toInt = y24.toInt := by rw [show pj_fi G20 2 3 = y24 from hy24.symm]
        have q37 : (pj_fi G20 2 4).toInt = y25.toInt := by rw [show pj_fi G20 2 4 = y25 from hy25.symm]
        exact pj_X_rt rfl rfl ⟨_, rfl, iG20, kG20, ⟨by omega, by omega⟩, (fun H hH => by subst hH; exact (by omega)), rfl⟩
theorem ct_84_s5x (G0 : pj_G) (hI : pj_Inv G0) : pj_Y 15 84 [.ref 2, .retAddr 5] G0 (fun v' G' => ∃ y : Int32, v' = some (.int y) ∧ pj_Inv G' ∧ pj_kpt kc_84_s5x G0 G' ∧ ((-1 : Int) ≤ y.toInt ∧ y.toInt ≤ 255) ∧ (∀ H, G0 = H → ((((pj_fi H 2 4).toInt = -1 ∧ (pj_fi H 2 3).toInt < (pj_fi H 2 2).toInt) ∧ (pj_ai H 3 (pj_fi H 2 3).toInt.toNat).toInt = 60 → y.toInt = 60 ∧ (pj_fi G' 2 3).toInt = (pj_fi H 2 3).toInt + 1) ∧ (((pj_fi H 2 4).toInt = -1 ∧ (pj_fi H 2 3).toInt < (pj_fi H 2 2).toInt) ∧ (pj_ai H 3 (pj_fi H 2 3).toInt.toNat).toInt = 62 → y.toInt = 62 ∧ (pj_fi G' 2 3).toInt = (pj_fi H 2 3).toInt + 1) ∧ (((pj_fi H 2 4).toInt = -1 ∧ (pj_fi H 2 3).toInt < (pj_fi H 2 2).toInt) ∧ (pj_ai H 3 (pj_fi H 2 3).toInt.toNat).toInt = 61 → y.toInt = 61 ∧ (pj_fi G' 2 3).toInt = (pj_fi H 2 3).toInt + 1) ∧ (¬ (((pj_fi H 2 4).toInt = -1 ∧ (pj_fi H 2 3).toInt < (pj_fi H 2 2).toInt) ∧ ((pj_ai H 3 (pj_fi H 2 3).toInt.toNat).toInt = 60 ∨ (pj_ai H 3 (pj_fi H 2 3).toInt.toNat).toInt = 62 ∨ (pj_ai H 3 (pj_fi H 2 3).toInt.toNat).toInt = 61)) → y.toInt = -1 ∧ (pj_fi G' 2 3).toInt = (pj_fi H 2 3).toInt) ∧ (pj_fi G' 2 4).toInt = (pj_fi H 2 4).toInt)) ∧ ((y, G') = F_84_s5x G0)) := by
  have c0_ : (Int32.ofInt (-1)).toInt = -1 := by decide
  have c1_ : (Int32.ofInt 0).toInt = 0 := by decide
  have c2_ : (Int32.ofInt 1).toInt = 1 := by decide
  refine pj_Y_X (M := pj_m84) rfl rfl (Nat.le_of_ble_eq_true rfl) ?_
  have hK : pj_kpt kc_84_s5x G0 G0 := pj_kpt_r _ _
  show pj_X _ _ G0 0 [(0, .ref 2), (1, .retAddr 5)] [] _
  rw [F_84_s5x_e]
  obtain ⟨y38, hy38⟩ : ∃ z : Int32, z = pj_fi G0 2 2 := ⟨_, rfl⟩
  have ey38 : (pj_fi G0 2 2).toInt = y38.toInt := by rw [hy38]
  have ry38 : (0 : Int) ≤ y38.toInt ∧ y38.toInt ≤ 80 := by rw [hy38]; exact hI.2.1 2 2 (0, 80) rfl
  obtain ⟨y39, hy39⟩ : ∃ z : Int32, z = pj_fi G0 2 3 := ⟨_, rfl⟩
  have ey39 : (pj_fi G0 2 3).toInt = y39.toInt := by rw [hy39]
  have ry39 : (0 : Int) ≤ y39.toInt ∧ y39.toInt ≤ 80 := by rw [hy39]; exact hI.2.1 2 3 (0, 80) rfl
  obtain ⟨y40, hy40⟩ : ∃ z : Int32, z = pj_fi G0 2 4 := ⟨_, rfl⟩
  have ey40 : (pj_fi G0 2 4).toInt = y40.toInt := by rw [hy40]
  have ry40 : (-1 : Int) ≤ y40.toInt ∧ y40.toInt ≤ 80 := by rw [hy40]; exact hI.2.1 2 4 (-1, 80) rfl
  refine pj_X_of (fun r h => pj_R_to (G0, 2, [(2, .int (Int32.ofInt 0)), (0, .ref 2), (1, .retAddr 5)], [], 0, 0) 2 3 (fun _ => rfl) h) ?_
  have q41 : (pj_fi G0 2 2).toInt = y38.toInt := by rw [show pj_fi G0 2 2 = y38 from hy38.symm]
  have q42 : (pj_fi G0 2 3).toInt = y39.toInt := by rw [show pj_fi G0 2 3 = y39 from hy39.symm]
  have q43 : (pj_fi G0 2 4).toInt = y40.toInt := by rw [show pj_fi G0 2 4 = y40 from hy40.symm]
  exact pj_X_sub [(0, .ref 2), (1, .retAddr 5), (2, .int (Int32.ofInt 0))] (show List.Nodup [0, 1, 2] by decide) ⟨rfl, rfl, rfl, trivial⟩ ((lp_ct_84_s5x G0 hI   4) G0 hI hK (Int32.ofInt 0) ⟨by omega, by omega⟩ (by omega) rfl (by omega) (by omega) (by omega) (by omega))
theorem fr_84_s5x (G0 : pj_G) (hI : pj_Inv G0) : pj_Inv (F_84_s5x G0).2 ∧ pj_kpt kc_84_s5x G0 (F_84_s5x G0).2 ∧ ((-1 : Int) ≤ (F_84_s5x G0).1.toInt ∧ (F_84_s5x G0).1.toInt ≤ 255) ∧ ((((pj_fi G0 2 4).toInt = -1 ∧ (pj_fi G0 2 3).toInt < (pj_fi G0 2 2).toInt) ∧ (pj_ai G0 3 (pj_fi G0 2 3).toInt.toNat).toInt = 60 → (F_84_s5x G0).1.toInt = 60 ∧ (pj_fi (F_84_s5x G0).2 2 3).toInt = (pj_fi G0 2 3).toInt + 1) ∧ (((pj_fi G0 2 4).toInt = -1 ∧ (pj_fi G0 2 3).toInt < (pj_fi G0 2 2).toInt) ∧ (pj_ai G0 3 (pj_fi G0 2 3).toInt.toNat).toInt = 62 → (F_84_s5x G0).1.toInt = 62 ∧ (pj_fi (F_84_s5x G0).2 2 3).toInt = (pj_fi G0 2 3).toInt + 1) ∧ (((pj_fi G0 2 4).toInt = -1 ∧ (pj_fi G0 2 3).toInt < (pj_fi G0 2 2).toInt) ∧ (pj_ai G0 3 (pj_fi G0 2 3).toInt.toNat).toInt = 61 → (F_84_s5x G0).1.toInt = 61 ∧ (pj_fi (F_84_s5x G0).2 2 3).toInt = (pj_fi G0 2 3).toInt + 1) ∧ (¬ (((pj_fi G0 2 4).toInt = -1 ∧ (pj_fi G0 2 3).toInt < (pj_fi G0 2 2).toInt) ∧ ((pj_ai G0 3 (pj_fi G0 2 3).toInt.toNat).toInt = 60 ∨ (pj_ai G0 3 (pj_fi G0 2 3).toInt.toNat).toInt = 62 ∨ (pj_ai G0 3 (pj_fi G0 2 3).toInt.toNat).toInt = 61)) → (F_84_s5x G0).1.toInt = -1 ∧ (pj_fi (F_84_s5x G0).2 2 3).toInt = (pj_fi G0 2 3).toInt) ∧ (pj_fi (F_84_s5x G0).2 2 4).toInt = (pj_fi G0 2 4).toInt) := by
  obtain ⟨v, G', -, y, -, i, j, r, x, e⟩ := ct_84_s5x G0 hI 
  rw [← e]
  exact ⟨i, j, r, x _ rfl⟩
def kc_84_s6x : pj_KT := ([(2, 3)], [2], [])
noncomputable def L_84_s6x (G0 : pj_G) (fu : Nat) : Int32 → pj_G → Int32 × pj_G := Nat.rec (motive := fun _ => Int32 → pj_G → Int32 × pj_G) (fun _ G => (0, G)) (fun _ ih v2 G => pj_nm (F_289_s6x G) (fun y7 => cond (pj_c1 .ge v2 y7) ((Int32.ofInt (-1), G)) (pj_nm (F_290_s6x G v2) (fun y15 => pj_bd (F_82x G y15) (fun y19 G20 => cond (pj_c1 .eq y19 0) (pj_nm (v2 + Int32.ofInt 1) (fun z27 => ih z27 G20)) (pj_nm (F_290_s6x G20 v2) (fun y34 => (y34, G20)))))))) fu
theorem L_84_s6x_s0 (G0 : pj_G) (fu : Nat) (v2 : Int32) (G : pj_G) : L_84_s6x G0 (fu + 1) v2 G = pj_nm (F_289_s6x G) (fun y7 => cond (pj_c1 .ge v2 y7) ((Int32.ofInt (-1), G)) (pj_nm (F_290_s6x G v2) (fun y15 => pj_bd (F_82x G y15) (fun y19 G20 => cond (pj_c1 .eq y19 0) (pj_nm (v2 + Int32.ofInt 1) (fun z27 => L_84_s6x G0 fu z27 G20)) (pj_nm (F_290_s6x G20 v2) (fun y34 => (y34, G20))))))) := rfl
noncomputable def F_84_s6x (G0 : pj_G) : Int32 × pj_G := L_84_s6x G0 3 (Int32.ofInt 0) G0
theorem F_84_s6x_e (G0 : pj_G) : F_84_s6x G0 = L_84_s6x G0 3 (Int32.ofInt 0) G0 := rfl
theorem lp_ct_84_s6x (G0 : pj_G) (hI0 : pj_Inv G0) : ∀ mn : Nat, (∀ (G : pj_G) (hI : pj_Inv G) (hK : pj_kpt kc_84_s6x G0 G) (v2 : Int32), ((0 : Int) ≤ v2.toInt ∧ v2.toInt ≤ 2) → ((pj_fi G 2 3).toInt = (pj_fi G0 2 3).toInt ∧ (pj_fi G 2 4).toInt = (pj_fi G0 2 4).toInt ∧ (pj_fi G 2 2).toInt = (pj_fi G0 2 2).toInt) → ((pj_ai G 3 (pj_fi G 2 3).toInt.toNat).toInt = (pj_ai G0 3 (pj_fi G0 2 3).toInt.toNat).toInt) → (0 < v2.toInt → ¬ (((pj_fi G0 2 4).toInt = -1 ∧ (pj_fi G0 2 3).toInt < (pj_fi G0 2 2).toInt) ∧ (pj_ai G0 3 (pj_fi G0 2 3).toInt.toNat).toInt = 43)) → (1 < v2.toInt → ¬ (((pj_fi G0 2 4).toInt = -1 ∧ (pj_fi G0 2 3).toInt < (pj_fi G0 2 2).toInt) ∧ (pj_ai G0 3 (pj_fi G0 2 3).toInt.toNat).toInt = 45)) → 2 - v2.toInt < (mn : Int) → pj_X 14 pj_m84 G 2 [(0, .ref 2), (1, .retAddr 6), (2, .int v2)] [] (fun v' G' => ∃ y : Int32, v' = some (.int y) ∧ pj_Inv G' ∧ pj_kpt kc_84_s6x G0 G' ∧ ((-1 : Int) ≤ y.toInt ∧ y.toInt ≤ 255) ∧ (∀ H, G0 = H → ((((pj_fi H 2 4).toInt = -1 ∧ (pj_fi H 2 3).toInt < (pj_fi H 2 2).toInt) ∧ (pj_ai H 3 (pj_fi H 2 3).toInt.toNat).toInt = 43 → y.toInt = 43 ∧ (pj_fi G' 2 3).toInt = (pj_fi H 2 3).toInt + 1) ∧ (((pj_fi H 2 4).toInt = -1 ∧ (pj_fi H 2 3).toInt < (pj_fi H 2 2).toInt) ∧ (pj_ai H 3 (pj_fi H 2 3).toInt.toNat).toInt = 45 → y.toInt = 45 ∧ (pj_fi G' 2 3).toInt = (pj_fi H 2 3).toInt + 1) ∧ (¬ (((pj_fi H 2 4).toInt = -1 ∧ (pj_fi H 2 3).toInt < (pj_fi H 2 2).toInt) ∧ ((pj_ai H 3 (pj_fi H 2 3).toInt.toNat).toInt = 43 ∨ (pj_ai H 3 (pj_fi H 2 3).toInt.toNat).toInt = 45)) → y.toInt = -1 ∧ (pj_fi G' 2 3).toInt = (pj_fi H 2 3).toInt) ∧ (pj_fi G' 2 4).toInt = (pj_fi H 2 4).toInt)) ∧ ((y, G') = L_84_s6x G0 mn v2 G))) := by
  have c0_ : (Int32.ofInt (-1)).toInt = -1 := by decide
  have c1_ : (Int32.ofInt 0).toInt = 0 := by decide
  have c2_ : (Int32.ofInt 1).toInt = 1 := by decide
  intro mn
  induction mn with
  | zero =>
    intro G hI hK v2 rv2 x0_ x1_ x2_ x3_ hm
    exfalso
    omega
  | succ mn ih =>
    intro G hI hK v2 rv2 x0_ x1_ x2_ x3_ hm
    rw [L_84_s6x_s0]
    obtain ⟨y1, hy1⟩ : ∃ z : Int32, z = pj_fi G 2 2 := ⟨_, rfl⟩
    have ey1 : (pj_fi G 2 2).toInt = y1.toInt := by rw [hy1]
    have ry1 : (0 : Int) ≤ y1.toInt ∧ y1.toInt ≤ 80 := by rw [hy1]; exact hI.2.1 2 2 (0, 80) rfl
    obtain ⟨y2, hy2⟩ : ∃ z : Int32, z = pj_fi G 2 3 := ⟨_, rfl⟩
    have ey2 : (pj_fi G 2 3).toInt = y2.toInt := by rw [hy2]
    have ry2 : (0 : Int) ≤ y2.toInt ∧ y2.toInt ≤ 80 := by rw [hy2]; exact hI.2.1 2 3 (0, 80) rfl
    obtain ⟨y3, hy3⟩ : ∃ z : Int32, z = pj_fi G 2 4 := ⟨_, rfl⟩
    have ey3 : (pj_fi G 2 4).toInt = y3.toInt := by rw [hy3]
    have ry3 : (-1 : Int) ≤ y3.toInt ∧ y3.toInt ≤ 80 := by rw [hy3]; exact hI.2.1 2 4 (-1, 80) rfl
    refine pj_X_of (fun r h => pj_R_to (G, 4, [(0, .ref 2), (1, .retAddr 6), (2, .int v2)], [.retAddr 6, .int v2], 0, 0) 4 3 (fun _ => rfl) h) ?_
    have q4 : (pj_fi G 2 2).toInt = y1.toInt := by rw [show pj_fi G 2 2 = y1 from hy1.symm]
    have q5 : (pj_fi G 2 3).toInt = y2.toInt := by rw [show pj_fi G 2 3 = y2 from hy2.symm]
    have q6 : (pj_fi G 2 4).toInt = y3.toInt := by rw [show pj_fi G 2 4 = y3 from hy3.symm]
    refine pj_X_ca (vs := [.retAddr 6]) rfl (fun _ => rfl) ⟨Nat.le_of_ble_eq_true rfl, Nat.le_of_ble_eq_true rfl, rfl⟩ ⟨rfl, rfl⟩ (pj_Y_up (by decide) (ct_288_s6x G hI)) ?_
    rintro _ _ ⟨y7, rfl, rfl, ry7, fy7⟩
    rw [← fy7, pj_nm_e]
    show pj_X _ _ G 7 [(0, .ref 2), (1, .retAddr 6), (2, .int v2)] [.int y7, .int v2] _
    cases b8 : pj_c1 .ge v2 y7 with
    | true =>
      rw [pj_cT]
      have ub8 := pj_u_geT b8
      refine pj_X_of (fun r h => pj_R_icT 34 rfl rfl b8 h) ?_
      refine pj_X_of (fun r h => pj_R_to (G, 35, [(0, .ref 2), (1, .retAddr 6), (2, .int v2)], [.int (Int32.ofInt (-1))], 0, 0) 35 2 (fun _ => rfl) h) ?_
      have q9 : (pj_fi G 2 2).toInt = y1.toInt := by rw [show pj_fi G 2 2 = y1 from hy1.symm]
      have q10 : (pj_fi G 2 3).toInt = y2.toInt := by rw [show pj_fi G 2 3 = y2 from hy2.symm]
      have q11 : (pj_fi G 2 4).toInt = y3.toInt := by rw [show pj_fi G 2 4 = y3 from hy3.symm]
      exact pj_X_rt rfl rfl ⟨_, rfl, hI, hK, ⟨by omega, by omega⟩, (fun H hH => by subst hH; exact (by omega)), rfl⟩
    | false =>
      rw [pj_cF]
      have ub8 := pj_u_geF b8
      refine pj_X_of (fun r h => pj_R_icF rfl b8 h) ?_
      refine pj_X_of (fun r h => pj_R_to (G, 13, [(0, .ref 2), (1, .retAddr 6), (2, .int v2)], [.int v2, .retAddr 6, .ref 2], 0, 0) 13 4 (fun _ => rfl) h) ?_
      have q12 : (pj_fi G 2 2).toInt = y1.toInt := by rw [show pj_fi G 2 2 = y1 from hy1.symm]
      have q13 : (pj_fi G 2 3).toInt = y2.toInt := by rw [show pj_fi G 2 3 = y2 from hy2.symm]
      have q14 : (pj_fi G 2 4).toInt = y3.toInt := by rw [show pj_fi G 2 4 = y3 from hy3.symm]
      refine pj_X_ca (vs := [.retAddr 6, .int v2]) rfl (fun _ => rfl) ⟨Nat.le_of_ble_eq_true rfl, Nat.le_of_ble_eq_true rfl, rfl⟩ ⟨rfl, rfl⟩ (pj_Y_up (by decide) (ct_289_s6x G hI v2 ⟨by omega, by omega⟩)) ?_
      rintro _ _ ⟨y15, rfl, rfl, ry15, ey15, fy15⟩
      rw [← fy15, pj_nm_e]
      show pj_X _ _ G 16 [(0, .ref 2), (1, .retAddr 6), (2, .int v2)] [.int y15, .ref 2] _
      have q16 : (pj_fi G 2 2).toInt = y1.toInt := by rw [show pj_fi G 2 2 = y1 from hy1.symm]
      have q17 : (pj_fi G 2 3).toInt = y2.toInt := by rw [show pj_fi G 2 3 = y2 from hy2.symm]
      have q18 : (pj_fi G 2 4).toInt = y3.toInt := by rw [show pj_fi G 2 4 = y3 from hy3.symm]
      refine pj_X_ca (vs := [.ref 2, .int y15]) rfl (fun _ => rfl) ⟨Nat.le_of_ble_eq_true rfl, Nat.le_of_ble_eq_true rfl, pj_T_rcv hI rfl⟩ ⟨rfl, rfl⟩ (pj_Y_up (by decide) (ct_82x G hI y15 ⟨by omega, by omega⟩)) ?_
      rintro _ G20 ⟨y19, rfl, iG20, jG20, ry19, ey19, fy19⟩
      replace ey19 := ey19 _ rfl
      rw [← fy19, pj_bd_e]
      have kG20 : pj_kpt kc_84_s6x G0 G20 := pj_kpt_t hK (pj_kpt_s jG20 rfl)
      have q21 : (pj_fi G20 2 2).toInt = (pj_fi G 2 2).toInt := by rw [jG20.1 (2, 2) (by decide)]
      have q22 : (pj_fi G20 2 4).toInt = (pj_fi G 2 4).toInt := by rw [jG20.1 (2, 4) (by decide)]
      obtain ⟨y23, hy23⟩ : ∃ z : Int32, z = pj_fi G20 2 2 := ⟨_, rfl⟩
      have ey23 : (pj_fi G20 2 2).toInt = y23.toInt := by rw [hy23]
      have ry23 : (0 : Int) ≤ y23.toInt ∧ y23.toInt ≤ 80 := by rw [hy23]; exact iG20.2.1 2 2 (0, 80) rfl
      obtain ⟨y24, hy24⟩ : ∃ z : Int32, z = pj_fi G20 2 3 := ⟨_, rfl⟩
      have ey24 : (pj_fi G20 2 3).toInt = y24.toInt := by rw [hy24]
      have ry24 : (0 : Int) ≤ y24.toInt ∧ y24.toInt ≤ 80 := by rw [hy24]; exact iG20.2.1 2 3 (0, 80) rfl
      obtain ⟨y25, hy25⟩ : ∃ z : Int32, z = pj_fi G20 2 4 := ⟨_, rfl⟩
      have ey25 : (pj_fi G20 2 4).toInt = y25.toInt := by rw [hy25]
      have ry25 : (-1 : Int) ≤ y25.toInt ∧ y25.toInt ≤ 80 := by rw [hy25]; exact iG20.2.1 2 4 (-1, 80) rfl
      show pj_X _ _ G20 19 [(0, .ref 2), (1, .retAddr 6), (2, .int v2)] [.int y19] _
      cases b26 : pj_c1 .eq y19 0 with
      | true =>
        rw [pj_cT]
        have ub26 := pj_u0_eqT b26
        refine pj_X_of (fun r h => pj_R_ifT 28 rfl rfl b26 h) ?_
        refine pj_X_of (fun r h => pj_R_to (G20, 31, [(2, .int (v2 + Int32.ofInt 1)), (0, .ref 2), (1, .retAddr 6)], [], 0, 0) 31 2 (fun _ => rfl) h) ?_
        obtain ⟨z27, hz27⟩ : ∃ z : Int32, z = v2 + Int32.ofInt 1 := ⟨_, rfl⟩
        rw [← hz27]
        rw [pj_nm_e]
        have fz27_0 : z27.toInt = v2.toInt + (Int32.ofInt 1).toInt := by rw [hz27]; exact pj_addI (by have := pj_i32 v2; have := pj_i32 (Int32.ofInt 1); omega) (by have := pj_i32 v2; have := pj_i32 (Int32.ofInt 1); omega)
        refine pj_X_of (fun r h => pj_R_to (G20, 2, [(2, .int z27), (0, .ref 2), (1, .retAddr 6)], [], 0, 0) 2 2 (fun _ => rfl) h) ?_
        have q28 : (pj_fi G20 2 2).toInt = y23.toInt := by rw [show pj_fi G20 2 2 = y23 from hy23.symm]
        have q29 : (pj_fi G20 2 3).toInt = y24.toInt := by rw [show pj_fi G20 2 3 = y24 from hy24.symm]
        have q30 : (pj_fi G20 2 4).toInt = y25.toInt := by rw [show pj_fi G20 2 4 = y25 from hy25.symm]
        exact pj_X_sub [(0, .ref 2), (1, .retAddr 6), (2, .int z27)] (show List.Nodup [0, 1, 2] by decide) ⟨rfl, rfl, rfl, trivial⟩ (ih G20 iG20 kG20 z27 ⟨by omega, by omega⟩ (by omega) (by rw [jG20.2.2 3 (by decide), show (pj_fi G20 2 3).toInt = (pj_fi G 2 3).toInt by omega]; exact x1_) (by omega) (by omega) (by omega))
      | false =>
        rw [pj_cF]
        have ub26 := pj_u0_eqF b26
        refine pj_X_of (fun r h => pj_R_ifF rfl b26 h) ?_
        refine pj_X_of (fun r h => pj_R_to (G20, 24, [(0, .ref 2), (1, .retAddr 6), (2, .int v2)], [.int v2, .retAddr 6], 0, 0) 24 3 (fun _ => rfl) h) ?_
        have q31 : (pj_fi G20 2 2).toInt = y23.toInt := by rw [show pj_fi G20 2 2 = y23 from hy23.symm]
        have q32 : (pj_fi G20 2 3).toInt = y24.toInt := by rw [show pj_fi G20 2 3 = y24 from hy24.symm]
        have q33 : (pj_fi G20 2 4).toInt = y25.toInt := by rw [show pj_fi G20 2 4 = y25 from hy25.symm]
        refine pj_X_ca (vs := [.retAddr 6, .int v2]) rfl (fun _ => rfl) ⟨Nat.le_of_ble_eq_true rfl, Nat.le_of_ble_eq_true rfl, rfl⟩ ⟨rfl, rfl⟩ (pj_Y_up (by decide) (ct_289_s6x G20 iG20 v2 ⟨by omega, by omega⟩)) ?_
        rintro _ _ ⟨y34, rfl, rfl, ry34, ey34, fy34⟩
        rw [← fy34, pj_nm_e]
        show pj_X _ _ G20 27 [(0, .ref 2), (1, .retAddr 6), (2, .int v2)] [.int y34] _
        have q35 : (pj_fi G20 2 2).toInt = y23.toInt := by rw [show pj_fi G20 2 2 = y23 from hy23.symm]
        have q36 : (pj_fi G20 2 3).toInt = y24.toInt := by rw [show pj_fi G20 2 3 = y24 from hy24.symm]
        have q37 : (pj_fi G20 2 4).toInt = y25.toInt := by rw [show pj_fi G20 2 4 = y25 from hy25.symm]
        exact pj_X_rt rfl rfl ⟨_, rfl, iG20, kG20, ⟨by omega, by omega⟩, (fun H hH => by subst hH; exact (by omega)), rfl⟩
theorem ct_84_s6x (G0 : pj_G) (hI : pj_Inv G0) : pj_Y 15 84 [.ref 2, .retAddr 6] G0 (fun v' G' => ∃ y : Int32, v' = some (.int y) ∧ pj_Inv G' ∧ pj_kpt kc_84_s6x G0 G' ∧ ((-1 : Int) ≤ y.toInt ∧ y.toInt ≤ 255) ∧ (∀ H, G0 = H → ((((pj_fi H 2 4).toInt = -1 ∧ (pj_fi H 2 3).toInt < (pj_fi H 2 2).toInt) ∧ (pj_ai H 3 (pj_fi H 2 3).toInt.toNat).toInt = 43 → y.toInt = 43 ∧ (pj_fi G' 2 3).toInt = (pj_fi H 2 3).toInt + 1) ∧ (((pj_fi H 2 4).toInt = -1 ∧ (pj_fi H 2 3).toInt < (pj_fi H 2 2).toInt) ∧ (pj_ai H 3 (pj_fi H 2 3).toInt.toNat).toInt = 45 → y.toInt = 45 ∧ (pj_fi G' 2 3).toInt = (pj_fi H 2 3).toInt + 1) ∧ (¬ (((pj_fi H 2 4).toInt = -1 ∧ (pj_fi H 2 3).toInt < (pj_fi H 2 2).toInt) ∧ ((pj_ai H 3 (pj_fi H 2 3).toInt.toNat).toInt = 43 ∨ (pj_ai H 3 (pj_fi H 2 3).toInt.toNat).toInt = 45)) → y.toInt = -1 ∧ (pj_fi G' 2 3).toInt = (pj_fi H 2 3).toInt) ∧ (pj_fi G' 2 4).toInt = (pj_fi H 2 4).toInt)) ∧ ((y, G') = F_84_s6x G0)) := by
  have c0_ : (Int32.ofInt (-1)).toInt = -1 := by decide
  have c1_ : (Int32.ofInt 0).toInt = 0 := by decide
  have c2_ : (Int32.ofInt 1).toInt = 1 := by decide
  refine pj_Y_X (M := pj_m84) rfl rfl (Nat.le_of_ble_eq_true rfl) ?_
  have hK : pj_kpt kc_84_s6x G0 G0 := pj_kpt_r _ _
  show pj_X _ _ G0 0 [(0, .ref 2), (1, .retAddr 6)] [] _
  rw [F_84_s6x_e]
  obtain ⟨y38, hy38⟩ : ∃ z : Int32, z = pj_fi G0 2 2 := ⟨_, rfl⟩
  have ey38 : (pj_fi G0 2 2).toInt = y38.toInt := by rw [hy38]
  have ry38 : (0 : Int) ≤ y38.toInt ∧ y38.toInt ≤ 80 := by rw [hy38]; exact hI.2.1 2 2 (0, 80) rfl
  obtain ⟨y39, hy39⟩ : ∃ z : Int32, z = pj_fi G0 2 3 := ⟨_, rfl⟩
  have ey39 : (pj_fi G0 2 3).toInt = y39.toInt := by rw [hy39]
  have ry39 : (0 : Int) ≤ y39.toInt ∧ y39.toInt ≤ 80 := by rw [hy39]; exact hI.2.1 2 3 (0, 80) rfl
  obtain ⟨y40, hy40⟩ : ∃ z : Int32, z = pj_fi G0 2 4 := ⟨_, rfl⟩
  have ey40 : (pj_fi G0 2 4).toInt = y40.toInt := by rw [hy40]
  have ry40 : (-1 : Int) ≤ y40.toInt ∧ y40.toInt ≤ 80 := by rw [hy40]; exact hI.2.1 2 4 (-1, 80) rfl
  refine pj_X_of (fun r h => pj_R_to (G0, 2, [(2, .int (Int32.ofInt 0)), (0, .ref 2), (1, .retAddr 6)], [], 0, 0) 2 3 (fun _ => rfl) h) ?_
  have q41 : (pj_fi G0 2 2).toInt = y38.toInt := by rw [show pj_fi G0 2 2 = y38 from hy38.symm]
  have q42 : (pj_fi G0 2 3).toInt = y39.toInt := by rw [show pj_fi G0 2 3 = y39 from hy39.symm]
  have q43 : (pj_fi G0 2 4).toInt = y40.toInt := by rw [show pj_fi G0 2 4 = y40 from hy40.symm]
  exact pj_X_sub [(0, .ref 2), (1, .retAddr 6), (2, .int (Int32.ofInt 0))] (show List.Nodup [0, 1, 2] by decide) ⟨rfl, rfl, rfl, trivial⟩ ((lp_ct_84_s6x G0 hI   3) G0 hI hK (Int32.ofInt 0) ⟨by omega, by omega⟩ (by omega) rfl (by omega) (by omega) (by omega))
theorem fr_84_s6x (G0 : pj_G) (hI : pj_Inv G0) : pj_Inv (F_84_s6x G0).2 ∧ pj_kpt kc_84_s6x G0 (F_84_s6x G0).2 ∧ ((-1 : Int) ≤ (F_84_s6x G0).1.toInt ∧ (F_84_s6x G0).1.toInt ≤ 255) ∧ ((((pj_fi G0 2 4).toInt = -1 ∧ (pj_fi G0 2 3).toInt < (pj_fi G0 2 2).toInt) ∧ (pj_ai G0 3 (pj_fi G0 2 3).toInt.toNat).toInt = 43 → (F_84_s6x G0).1.toInt = 43 ∧ (pj_fi (F_84_s6x G0).2 2 3).toInt = (pj_fi G0 2 3).toInt + 1) ∧ (((pj_fi G0 2 4).toInt = -1 ∧ (pj_fi G0 2 3).toInt < (pj_fi G0 2 2).toInt) ∧ (pj_ai G0 3 (pj_fi G0 2 3).toInt.toNat).toInt = 45 → (F_84_s6x G0).1.toInt = 45 ∧ (pj_fi (F_84_s6x G0).2 2 3).toInt = (pj_fi G0 2 3).toInt + 1) ∧ (¬ (((pj_fi G0 2 4).toInt = -1 ∧ (pj_fi G0 2 3).toInt < (pj_fi G0 2 2).toInt) ∧ ((pj_ai G0 3 (pj_fi G0 2 3).toInt.toNat).toInt = 43 ∨ (pj_ai G0 3 (pj_fi G0 2 3).toInt.toNat).toInt = 45)) → (F_84_s6x G0).1.toInt = -1 ∧ (pj_fi (F_84_s6x G0).2 2 3).toInt = (pj_fi G0 2 3).toInt) ∧ (pj_fi (F_84_s6x G0).2 2 4).toInt = (pj_fi G0 2 4).toInt) := by
  obtain ⟨v, G', -, y, -, i, j, r, x, e⟩ := ct_84_s6x G0 hI 
  rw [← e]
  exact ⟨i, j, r, x _ rfl⟩
def kc_84_s7x : pj_KT := ([(2, 3)], [2], [])
noncomputable def L_84_s7x (G0 : pj_G) (fu : Nat) : Int32 → pj_G → Int32 × pj_G := Nat.rec (motive := fun _ => Int32 → pj_G → Int32 × pj_G) (fun _ G => (0, G)) (fun _ ih v2 G => pj_nm (F_289_s7x G) (fun y7 => cond (pj_c1 .ge v2 y7) ((Int32.ofInt (-1), G)) (pj_nm (F_290_s7x G v2) (fun y15 => pj_bd (F_82x G y15) (fun y19 G20 => cond (pj_c1 .eq y19 0) (pj_nm (v2 + Int32.ofInt 1) (fun z27 => ih z27 G20)) (pj_nm (F_290_s7x G20 v2) (fun y34 => (y34, G20)))))))) fu
theorem L_84_s7x_s0 (G0 : pj_G) (fu : Nat) (v2 : Int32) (G : pj_G) : L_84_s7x G0 (fu + 1) v2 G = pj_nm (F_289_s7x G) (fun y7 => cond (pj_c1 .ge v2 y7) ((Int32.ofInt (-1), G)) (pj_nm (F_290_s7x G v2) (fun y15 => pj_bd (F_82x G y15) (fun y19 G20 => cond (pj_c1 .eq y19 0) (pj_nm (v2 + Int32.ofInt 1) (fun z27 => L_84_s7x G0 fu z27 G20)) (pj_nm (F_290_s7x G20 v2) (fun y34 => (y34, G20))))))) := rfl
noncomputable def F_84_s7x (G0 : pj_G) : Int32 × pj_G := L_84_s7x G0 3 (Int32.ofInt 0) G0
theorem F_84_s7x_e (G0 : pj_G) : F_84_s7x G0 = L_84_s7x G0 3 (Int32.ofInt 0) G0 := rfl
theorem lp_ct_84_s7x (G0 : pj_G) (hI0 : pj_Inv G0) : ∀ mn : Nat, (∀ (G : pj_G) (hI : pj_Inv G) (hK : pj_kpt kc_84_s7x G0 G) (v2 : Int32), ((0 : Int) ≤ v2.toInt ∧ v2.toInt ≤ 2) → ((pj_fi G 2 3).toInt = (pj_fi G0 2 3).toInt ∧ (pj_fi G 2 4).toInt = (pj_fi G0 2 4).toInt ∧ (pj_fi G 2 2).toInt = (pj_fi G0 2 2).toInt) → ((pj_ai G 3 (pj_fi G 2 3).toInt.toNat).toInt = (pj_ai G0 3 (pj_fi G0 2 3).toInt.toNat).toInt) → (0 < v2.toInt → ¬ (((pj_fi G0 2 4).toInt = -1 ∧ (pj_fi G0 2 3).toInt < (pj_fi G0 2 2).toInt) ∧ (pj_ai G0 3 (pj_fi G0 2 3).toInt.toNat).toInt = 42)) → (1 < v2.toInt → ¬ (((pj_fi G0 2 4).toInt = -1 ∧ (pj_fi G0 2 3).toInt < (pj_fi G0 2 2).toInt) ∧ (pj_ai G0 3 (pj_fi G0 2 3).toInt.toNat).toInt = 47)) → 2 - v2.toInt < (mn : Int) → pj_X 14 pj_m84 G 2 [(0, .ref 2), (1, .retAddr 7), (2, .int v2)] [] (fun v' G' => ∃ y : Int32, v' = some (.int y) ∧ pj_Inv G' ∧ pj_kpt kc_84_s7x G0 G' ∧ ((-1 : Int) ≤ y.toInt ∧ y.toInt ≤ 255) ∧ (∀ H, G0 = H → ((((pj_fi H 2 4).toInt = -1 ∧ (pj_fi H 2 3).toInt < (pj_fi H 2 2).toInt) ∧ (pj_ai H 3 (pj_fi H 2 3).toInt.toNat).toInt = 42 → y.toInt = 42 ∧ (pj_fi G' 2 3).toInt = (pj_fi H 2 3).toInt + 1) ∧ (((pj_fi H 2 4).toInt = -1 ∧ (pj_fi H 2 3).toInt < (pj_fi H 2 2).toInt) ∧ (pj_ai H 3 (pj_fi H 2 3).toInt.toNat).toInt = 47 → y.toInt = 47 ∧ (pj_fi G' 2 3).toInt = (pj_fi H 2 3).toInt + 1) ∧ (¬ (((pj_fi H 2 4).toInt = -1 ∧ (pj_fi H 2 3).toInt < (pj_fi H 2 2).toInt) ∧ ((pj_ai H 3 (pj_fi H 2 3).toInt.toNat).toInt = 42 ∨ (pj_ai H 3 (pj_fi H 2 3).toInt.toNat).toInt = 47)) → y.toInt = -1 ∧ (pj_fi G' 2 3).toInt = (pj_fi H 2 3).toInt) ∧ (pj_fi G' 2 4).toInt = (pj_fi H 2 4).toInt)) ∧ ((y, G') = L_84_s7x G0 mn v2 G))) := by
  have c0_ : (Int32.ofInt (-1)).toInt = -1 := by decide
  have c1_ : (Int32.ofInt 0).toInt = 0 := by decide
  have c2_ : (Int32.ofInt 1).toInt = 1 := by decide
  intro mn
  induction mn with
  | zero =>
    intro G hI hK v2 rv2 x0_ x1_ x2_ x3_ hm
    exfalso
    omega
  | succ mn ih =>
    intro G hI hK v2 rv2 x0_ x1_ x2_ x3_ hm
    rw [L_84_s7x_s0]
    obtain ⟨y1, hy1⟩ : ∃ z : Int32, z = pj_fi G 2 2 := ⟨_, rfl⟩
    have ey1 : (pj_fi G 2 2).toInt = y1.toInt := by rw [hy1]
    have ry1 : (0 : Int) ≤ y1.toInt ∧ y1.toInt ≤ 80 := by rw [hy1]; exact hI.2.1 2 2 (0, 80) rfl
    obtain ⟨y2, hy2⟩ : ∃ z : Int32, z = pj_fi G 2 3 := ⟨_, rfl⟩
    have ey2 : (pj_fi G 2 3).toInt = y2.toInt := by rw [hy2]
    have ry2 : (0 : Int) ≤ y2.toInt ∧ y2.toInt ≤ 80 := by rw [hy2]; exact hI.2.1 2 3 (0, 80) rfl
    obtain ⟨y3, hy3⟩ : ∃ z : Int32, z = pj_fi G 2 4 := ⟨_, rfl⟩
    have ey3 : (pj_fi G 2 4).toInt = y3.toInt := by rw [hy3]
    have ry3 : (-1 : Int) ≤ y3.toInt ∧ y3.toInt ≤ 80 := by rw [hy3]; exact hI.2.1 2 4 (-1, 80) rfl
    refine pj_X_of (fun r h => pj_R_to (G, 4, [(0, .ref 2), (1, .retAddr 7), (2, .int v2)], [.retAddr 7, .int v2], 0, 0) 4 3 (fun _ => rfl) h) ?_
    have q4 : (pj_fi G 2 2).toInt = y1.toInt := by rw [show pj_fi G 2 2 = y1 from hy1.symm]
    have q5 : (pj_fi G 2 3).toInt = y2.toInt := by rw [show pj_fi G 2 3 = y2 from hy2.symm]
    have q6 : (pj_fi G 2 4).toInt = y3.toInt := by rw [show pj_fi G 2 4 = y3 from hy3.symm]
    refine pj_X_ca (vs := [.retAddr 7]) rfl (fun _ => rfl) ⟨Nat.le_of_ble_eq_true rfl, Nat.le_of_ble_eq_true rfl, rfl⟩ ⟨rfl, rfl⟩ (pj_Y_up (by decide) (ct_288_s7x G hI)) ?_
    rintro _ _ ⟨y7, rfl, rfl, ry7, fy7⟩
    rw [← fy7, pj_nm_e]
    show pj_X _ _ G 7 [(0, .ref 2), (1, .retAddr 7), (2, .int v2)] [.int y7, .int v2] _
    cases b8 : pj_c1 .ge v2 y7 with
    | true =>
      rw [pj_cT]
      have ub8 := pj_u_geT b8
      refine pj_X_of (fun r h => pj_R_icT 34 rfl rfl b8 h) ?_
      refine pj_X_of (fun r h => pj_R_to (G, 35, [(0, .ref 2), (1, .retAddr 7), (2, .int v2)], [.int (Int32.ofInt (-1))], 0, 0) 35 2 (fun _ => rfl) h) ?_
      have q9 : (pj_fi G 2 2).toInt = y1.toInt := by rw [show pj_fi G 2 2 = y1 from hy1.symm]
      have q10 : (pj_fi G 2 3).toInt = y2.toInt := by rw [show pj_fi G 2 3 = y2 from hy2.symm]
      have q11 : (pj_fi G 2 4).toInt = y3.toInt := by rw [show pj_fi G 2 4 = y3 from hy3.symm]
      exact pj_X_rt rfl rfl ⟨_, rfl, hI, hK, ⟨by omega, by omega⟩, (fun H hH => by subst hH; exact (by omega)), rfl⟩
    | false =>
      rw [pj_cF]
      have ub8 := pj_u_geF b8
      refine pj_X_of (fun r h => pj_R_icF rfl b8 h) ?_
      refine pj_X_of (fun r h => pj_R_to (G, 13, [(0, .ref 2), (1, .retAddr 7), (2, .int v2)], [.int v2, .retAddr 7, .ref 2], 0, 0) 13 4 (fun _ => rfl) h) ?_
      have q12 : (pj_fi G 2 2).toInt = y1.toInt := by rw [show pj_fi G 2 2 = y1 from hy1.symm]
      have q13 : (pj_fi G 2 3).toInt = y2.toInt := by rw [show pj_fi G 2 3 = y2 from hy2.symm]
      have q14 : (pj_fi G 2 4).toInt = y3.toInt := by rw [show pj_fi G 2 4 = y3 from hy3.symm]
      refine pj_X_ca (vs := [.retAddr 7, .int v2]) rfl (fun _ => rfl) ⟨Nat.le_of_ble_eq_true rfl, Nat.le_of_ble_eq_true rfl, rfl⟩ ⟨rfl, rfl⟩ (pj_Y_up (by decide) (ct_289_s7x G hI v2 ⟨by omega, by omega⟩)) ?_
      rintro _ _ ⟨y15, rfl, rfl, ry15, ey15, fy15⟩
      rw [← fy15, pj_nm_e]
      show pj_X _ _ G 16 [(0, .ref 2), (1, .retAddr 7), (2, .int v2)] [.int y15, .ref 2] _
      have q16 : (pj_fi G 2 2).toInt = y1.toInt := by rw [show pj_fi G 2 2 = y1 from hy1.symm]
      have q17 : (pj_fi G 2 3).toInt = y2.toInt := by rw [show pj_fi G 2 3 = y2 from hy2.symm]
      have q18 : (pj_fi G 2 4).toInt = y3.toInt := by rw [show pj_fi G 2 4 = y3 from hy3.symm]
      refine pj_X_ca (vs := [.ref 2, .int y15]) rfl (fun _ => rfl) ⟨Nat.le_of_ble_eq_true rfl, Nat.le_of_ble_eq_true rfl, pj_T_rcv hI rfl⟩ ⟨rfl, rfl⟩ (pj_Y_up (by decide) (ct_82x G hI y15 ⟨by omega, by omega⟩)) ?_
      rintro _ G20 ⟨y19, rfl, iG20, jG20, ry19, ey19, fy19⟩
      replace ey19 := ey19 _ rfl
      rw [← fy19, pj_bd_e]
      have kG20 : pj_kpt kc_84_s7x G0 G20 := pj_kpt_t hK (pj_kpt_s jG20 rfl)
      have q21 : (pj_fi G20 2 2).toInt = (pj_fi G 2 2).toInt := by rw [jG20.1 (2, 2) (by decide)]
      have q22 : (pj_fi G20 2 4).toInt = (pj_fi G 2 4).toInt := by rw [jG20.1 (2, 4) (by decide)]
      obtain ⟨y23, hy23⟩ : ∃ z : Int32, z = pj_fi G20 2 2 := ⟨_, rfl⟩
      have ey23 : (pj_fi G20 2 2).toInt = y23.toInt := by rw [hy23]
      have ry23 : (0 : Int) ≤ y23.toInt ∧ y23.toInt ≤ 80 := by rw [hy23]; exact iG20.2.1 2 2 (0, 80) rfl
      obtain ⟨y24, hy24⟩ : ∃ z : Int32, z = pj_fi G20 2 3 := ⟨_, rfl⟩
      have ey24 : (pj_fi G20 2 3).toInt = y24.toInt := by rw [hy24]
      have ry24 : (0 : Int) ≤ y24.toInt ∧ y24.toInt ≤ 80 := by rw [hy24]; exact iG20.2.1 2 3 (0, 80) rfl
      obtain ⟨y25, hy25⟩ : ∃ z : Int32, z = pj_fi G20 2 4 := ⟨_, rfl⟩
      have ey25 : (pj_fi G20 2 4).toInt = y25.toInt := by rw [hy25]
      have ry25 : (-1 : Int) ≤ y25.toInt ∧ y25.toInt ≤ 80 := by rw [hy25]; exact iG20.2.1 2 4 (-1, 80) rfl
      show pj_X _ _ G20 19 [(0, .ref 2), (1, .retAddr 7), (2, .int v2)] [.int y19] _
      cases b26 : pj_c1 .eq y19 0 with
      | true =>
        rw [pj_cT]
        have ub26 := pj_u0_eqT b26
        refine pj_X_of (fun r h => pj_R_ifT 28 rfl rfl b26 h) ?_
        refine pj_X_of (fun r h => pj_R_to (G20, 31, [(2, .int (v2 + Int32.ofInt 1)), (0, .ref 2), (1, .retAddr 7)], [], 0, 0) 31 2 (fun _ => rfl) h) ?_
        obtain ⟨z27, hz27⟩ : ∃ z : Int32, z = v2 + Int32.ofInt 1 := ⟨_, rfl⟩
        rw [← hz27]
        rw [pj_nm_e]
        have fz27_0 : z27.toInt = v2.toInt + (Int32.ofInt 1).toInt := by rw [hz27]; exact pj_addI (by have := pj_i32 v2; have := pj_i32 (Int32.ofInt 1); omega) (by have := pj_i32 v2; have := pj_i32 (Int32.ofInt 1); omega)
        refine pj_X_of (fun r h => pj_R_to (G20, 2, [(2, .int z27), (0, .ref 2), (1, .retAddr 7)], [], 0, 0) 2 2 (fun _ => rfl) h) ?_
        have q28 : (pj_fi G20 2 2).toInt = y23.toInt := by rw [show pj_fi G20 2 2 = y23 from hy23.symm]
        have q29 : (pj_fi G20 2 3).toInt = y24.toInt := by rw [show pj_fi G20 2 3 = y24 from hy24.symm]
        have q30 : (pj_fi G20 2 4).toInt = y25.toInt := by rw [show pj_fi G20 2 4 = y25 from hy25.symm]
        exact pj_X_sub [(0, .ref 2), (1, .retAddr 7), (2, .int z27)] (show List.Nodup [0, 1, 2] by decide) ⟨rfl, rfl, rfl, trivial⟩ (ih G20 iG20 kG20 z27 ⟨by omega, by omega⟩ (by omega) (by rw [jG20.2.2 3 (by decide), show (pj_fi G20 2 3).toInt = (pj_fi G 2 3).toInt by omega]; exact x1_) (by omega) (by omega) (by omega))
      | false =>
        rw [pj_cF]
        have ub26 := pj_u0_eqF b26
        refine pj_X_of (fun r h => pj_R_ifF rfl b26 h) ?_
        refine pj_X_of (fun r h => pj_R_to (G20, 24, [(0, .ref 2), (1, .retAddr 7), (2, .int v2)], [.int v2, .retAddr 7], 0, 0) 24 3 (fun _ => rfl) h) ?_
        have q31 : (pj_fi G20 2 2).toInt = y23.toInt := by rw [show pj_fi G20 2 2 = y23 from hy23.symm]
        have q32 : (pj_fi G20 2 3).toInt = y24.toInt := by rw [show pj_fi G20 2 3 = y24 from hy24.symm]
        have q33 : (pj_fi G20 2 4).toInt = y25.toInt := by rw [show pj_fi G20 2 4 = y25 from hy25.symm]
        refine pj_X_ca (vs := [.retAddr 7, .int v2]) rfl (fun _ => rfl) ⟨Nat.le_of_ble_eq_true rfl, Nat.le_of_ble_eq_true rfl, rfl⟩ ⟨rfl, rfl⟩ (pj_Y_up (by decide) (ct_289_s7x G20 iG20 v2 ⟨by omega, by omega⟩)) ?_
        rintro _ _ ⟨y34, rfl, rfl, ry34, ey34, fy34⟩
        rw [← fy34, pj_nm_e]
        show pj_X _ _ G20 27 [(0, .ref 2), (1, .retAddr 7), (2, .int v2)] [.int y34] _
        have q35 : (pj_fi G20 2 2).toInt = y23.toInt := by rw [show pj_fi G20 2 2 = y23 from hy23.symm]
        have q36 : (pj_fi G20 2 3).toInt = y24.toInt := by rw [show pj_fi G20 2 3 = y24 from hy24.symm]
        have q37 : (pj_fi G20 2 4).toInt = y25.toInt := by rw [show pj_fi G20 2 4 = y25 from hy25.symm]
        exact pj_X_rt rfl rfl ⟨_, rfl, iG20, kG20, ⟨by omega, by omega⟩, (fun H hH => by subst hH; exact (by omega)), rfl⟩
theorem ct_84_s7x (G0 : pj_G) (hI : pj_Inv G0) : pj_Y 15 84 [.ref 2, .retAddr 7] G0 (fun v' G' => ∃ y : Int32, v' = some (.int y) ∧ pj_Inv G' ∧ pj_kpt kc_84_s7x G0 G' ∧ ((-1 : Int) ≤ y.toInt ∧ y.toInt ≤ 255) ∧ (∀ H, G0 = H → ((((pj_fi H 2 4).toInt = -1 ∧ (pj_fi H 2 3).toInt < (pj_fi H 2 2).toInt) ∧ (pj_ai H 3 (pj_fi H 2 3).toInt.toNat).toInt = 42 → y.toInt = 42 ∧ (pj_fi G' 2 3).toInt = (pj_fi H 2 3).toInt + 1) ∧ (((pj_fi H 2 4).toInt = -1 ∧ (pj_fi H 2 3).toInt < (pj_fi H 2 2).toInt) ∧ (pj_ai H 3 (pj_fi H 2 3).toInt.toNat).toInt = 47 → y.toInt = 47 ∧ (pj_fi G' 2 3).toInt = (pj_fi H 2 3).toInt + 1) ∧ (¬ (((pj_fi H 2 4).toInt = -1 ∧ (pj_fi H 2 3).toInt < (pj_fi H 2 2).toInt) ∧ ((pj_ai H 3 (pj_fi H 2 3).toInt.toNat).toInt = 42 ∨ (pj_ai H 3 (pj_fi H 2 3).toInt.toNat).toInt = 47)) → y.toInt = -1 ∧ (pj_fi G' 2 3).toInt = (pj_fi H 2 3).toInt) ∧ (pj_fi G' 2 4).toInt = (pj_fi H 2 4).toInt)) ∧ ((y, G') = F_84_s7x G0)) := by
  have c0_ : (Int32.ofInt (-1)).toInt = -1 := by decide
  have c1_ : (Int32.ofInt 0).toInt = 0 := by decide
  have c2_ : (Int32.ofInt 1).toInt = 1 := by decide
  refine pj_Y_X (M := pj_m84) rfl rfl (Nat.le_of_ble_eq_true rfl) ?_
  have hK : pj_kpt kc_84_s7x G0 G0 := pj_kpt_r _ _
  show pj_X _ _ G0 0 [(0, .ref 2), (1, .retAddr 7)] [] _
  rw [F_84_s7x_e]
  obtain ⟨y38, hy38⟩ : ∃ z : Int32, z = pj_fi G0 2 2 := ⟨_, rfl⟩
  have ey38 : (pj_fi G0 2 2).toInt = y38.toInt := by rw [hy38]
  have ry38 : (0 : Int) ≤ y38.toInt ∧ y38.toInt ≤ 80 := by rw [hy38]; exact hI.2.1 2 2 (0, 80) rfl
  obtain ⟨y39, hy39⟩ : ∃ z : Int32, z = pj_fi G0 2 3 := ⟨_, rfl⟩
  have ey39 : (pj_fi G0 2 3).toInt = y39.toInt := by rw [hy39]
  have ry39 : (0 : Int) ≤ y39.toInt ∧ y39.toInt ≤ 80 := by rw [hy39]; exact hI.2.1 2 3 (0, 80) rfl
  obtain ⟨y40, hy40⟩ : ∃ z : Int32, z = pj_fi G0 2 4 := ⟨_, rfl⟩
  have ey40 : (pj_fi G0 2 4).toInt = y40.toInt := by rw [hy40]
  have ry40 : (-1 : Int) ≤ y40.toInt ∧ y40.toInt ≤ 80 := by rw [hy40]; exact hI.2.1 2 4 (-1, 80) rfl
  refine pj_X_of (fun r h => pj_R_to (G0, 2, [(2, .int (Int32.ofInt 0)), (0, .ref 2), (1, .retAddr 7)], [], 0, 0) 2 3 (fun _ => rfl) h) ?_
  have q41 : (pj_fi G0 2 2).toInt = y38.toInt := by rw [show pj_fi G0 2 2 = y38 from hy38.symm]
  have q42 : (pj_fi G0 2 3).toInt = y39.toInt := by rw [show pj_fi G0 2 3 = y39 from hy39.symm]
  have q43 : (pj_fi G0 2 4).toInt = y40.toInt := by rw [show pj_fi G0 2 4 = y40 from hy40.symm]
  exact pj_X_sub [(0, .ref 2), (1, .retAddr 7), (2, .int (Int32.ofInt 0))] (show List.Nodup [0, 1, 2] by decide) ⟨rfl, rfl, rfl, trivial⟩ ((lp_ct_84_s7x G0 hI   3) G0 hI hK (Int32.ofInt 0) ⟨by omega, by omega⟩ (by omega) rfl (by omega) (by omega) (by omega))
theorem fr_84_s7x (G0 : pj_G) (hI : pj_Inv G0) : pj_Inv (F_84_s7x G0).2 ∧ pj_kpt kc_84_s7x G0 (F_84_s7x G0).2 ∧ ((-1 : Int) ≤ (F_84_s7x G0).1.toInt ∧ (F_84_s7x G0).1.toInt ≤ 255) ∧ ((((pj_fi G0 2 4).toInt = -1 ∧ (pj_fi G0 2 3).toInt < (pj_fi G0 2 2).toInt) ∧ (pj_ai G0 3 (pj_fi G0 2 3).toInt.toNat).toInt = 42 → (F_84_s7x G0).1.toInt = 42 ∧ (pj_fi (F_84_s7x G0).2 2 3).toInt = (pj_fi G0 2 3).toInt + 1) ∧ (((pj_fi G0 2 4).toInt = -1 ∧ (pj_fi G0 2 3).toInt < (pj_fi G0 2 2).toInt) ∧ (pj_ai G0 3 (pj_fi G0 2 3).toInt.toNat).toInt = 47 → (F_84_s7x G0).1.toInt = 47 ∧ (pj_fi (F_84_s7x G0).2 2 3).toInt = (pj_fi G0 2 3).toInt + 1) ∧ (¬ (((pj_fi G0 2 4).toInt = -1 ∧ (pj_fi G0 2 3).toInt < (pj_fi G0 2 2).toInt) ∧ ((pj_ai G0 3 (pj_fi G0 2 3).toInt.toNat).toInt = 42 ∨ (pj_ai G0 3 (pj_fi G0 2 3).toInt.toNat).toInt = 47)) → (F_84_s7x G0).1.toInt = -1 ∧ (pj_fi (F_84_s7x G0).2 2 3).toInt = (pj_fi G0 2 3).toInt) ∧ (pj_fi (F_84_s7x G0).2 2 4).toInt = (pj_fi G0 2 4).toInt) := by
  obtain ⟨v, G', -, y, -, i, j, r, x, e⟩ := ct_84_s7x G0 hI 
  rw [← e]
  exact ⟨i, j, r, x _ rfl⟩
def kc_84_s8x : pj_KT := ([(2, 3)], [2], [])
noncomputable def L_84_s8x (G0 : pj_G) (fu : Nat) : Int32 → pj_G → Int32 × pj_G := Nat.rec (motive := fun _ => Int32 → pj_G → Int32 × pj_G) (fun _ G => (0, G)) (fun _ ih v2 G => pj_nm (F_289_s8x G) (fun y7 => cond (pj_c1 .ge v2 y7) ((Int32.ofInt (-1), G)) (pj_nm (F_290_s8x G v2) (fun y15 => pj_bd (F_82x G y15) (fun y19 G20 => cond (pj_c1 .eq y19 0) (pj_nm (v2 + Int32.ofInt 1) (fun z27 => ih z27 G20)) (pj_nm (F_290_s8x G20 v2) (fun y34 => (y34, G20)))))))) fu
theorem L_84_s8x_s0 (G0 : pj_G) (fu : Nat) (v2 : Int32) (G : pj_G) : L_84_s8x G0 (fu + 1) v2 G = pj_nm (F_289_s8x G) (fun y7 => cond (pj_c1 .ge v2 y7) ((Int32.ofInt (-1), G)) (pj_nm (F_290_s8x G v2) (fun y15 => pj_bd (F_82x G y15) (fun y19 G20 => cond (pj_c1 .eq y19 0) (pj_nm (v2 + Int32.ofInt 1) (fun z27 => L_84_s8x G0 fu z27 G20)) (pj_nm (F_290_s8x G20 v2) (fun y34 => (y34, G20))))))) := rfl
noncomputable def F_84_s8x (G0 : pj_G) : Int32 × pj_G := L_84_s8x G0 8 (Int32.ofInt 0) G0
theorem F_84_s8x_e (G0 : pj_G) : F_84_s8x G0 = L_84_s8x G0 8 (Int32.ofInt 0) G0 := rfl
theorem lp_ct_84_s8x (G0 : pj_G) (hI0 : pj_Inv G0) : ∀ mn : Nat, (∀ (G : pj_G) (hI : pj_Inv G) (hK : pj_kpt kc_84_s8x G0 G) (v2 : Int32), ((0 : Int) ≤ v2.toInt ∧ v2.toInt ≤ 7) → ((pj_fi G 2 3).toInt = (pj_fi G0 2 3).toInt ∧ (pj_fi G 2 4).toInt = (pj_fi G0 2 4).toInt ∧ (pj_fi G 2 2).toInt = (pj_fi G0 2 2).toInt) → ((pj_ai G 3 (pj_fi G 2 3).toInt.toNat).toInt = (pj_ai G0 3 (pj_fi G0 2 3).toInt.toNat).toInt) → (0 < v2.toInt → ¬ (((pj_fi G0 2 4).toInt = -1 ∧ (pj_fi G0 2 3).toInt < (pj_fi G0 2 2).toInt) ∧ (pj_ai G0 3 (pj_fi G0 2 3).toInt.toNat).toInt = 100)) → (1 < v2.toInt → ¬ (((pj_fi G0 2 4).toInt = -1 ∧ (pj_fi G0 2 3).toInt < (pj_fi G0 2 2).toInt) ∧ (pj_ai G0 3 (pj_fi G0 2 3).toInt.toNat).toInt = 117)) → (2 < v2.toInt → ¬ (((pj_fi G0 2 4).toInt = -1 ∧ (pj_fi G0 2 3).toInt < (pj_fi G0 2 2).toInt) ∧ (pj_ai G0 3 (pj_fi G0 2 3).toInt.toNat).toInt = 108)) → (3 < v2.toInt → ¬ (((pj_fi G0 2 4).toInt = -1 ∧ (pj_fi G0 2 3).toInt < (pj_fi G0 2 2).toInt) ∧ (pj_ai G0 3 (pj_fi G0 2 3).toInt.toNat).toInt = 115)) → (4 < v2.toInt → ¬ (((pj_fi G0 2 4).toInt = -1 ∧ (pj_fi G0 2 3).toInt < (pj_fi G0 2 2).toInt) ∧ (pj_ai G0 3 (pj_fi G0 2 3).toInt.toNat).toInt = 119)) → (5 < v2.toInt → ¬ (((pj_fi G0 2 4).toInt = -1 ∧ (pj_fi G0 2 3).toInt < (pj_fi G0 2 2).toInt) ∧ (pj_ai G0 3 (pj_fi G0 2 3).toInt.toNat).toInt = 98)) → (6 < v2.toInt → ¬ (((pj_fi G0 2 4).toInt = -1 ∧ (pj_fi G0 2 3).toInt < (pj_fi G0 2 2).toInt) ∧ (pj_ai G0 3 (pj_fi G0 2 3).toInt.toNat).toInt = 110)) → 7 - v2.toInt < (mn : Int) → pj_X 14 pj_m84 G 2 [(0, .ref 2), (1, .retAddr 8), (2, .int v2)] [] (fun v' G' => ∃ y : Int32, v' = some (.int y) ∧ pj_Inv G' ∧ pj_kpt kc_84_s8x G0 G' ∧ ((-1 : Int) ≤ y.toInt ∧ y.toInt ≤ 255) ∧ (∀ H, G0 = H → ((((pj_fi H 2 4).toInt = -1 ∧ (pj_fi H 2 3).toInt < (pj_fi H 2 2).toInt) ∧ (pj_ai H 3 (pj_fi H 2 3).toInt.toNat).toInt = 100 → y.toInt = 100 ∧ (pj_fi G' 2 3).toInt = (pj_fi H 2 3).toInt + 1) ∧ (((pj_fi H 2 4).toInt = -1 ∧ (pj_fi H 2 3).toInt < (pj_fi H 2 2).toInt) ∧ (pj_ai H 3 (pj_fi H 2 3).toInt.toNat).toInt = 117 → y.toInt = 117 ∧ (pj_fi G' 2 3).toInt = (pj_fi H 2 3).toInt + 1) ∧ (((pj_fi H 2 4).toInt = -1 ∧ (pj_fi H 2 3).toInt < (pj_fi H 2 2).toInt) ∧ (pj_ai H 3 (pj_fi H 2 3).toInt.toNat).toInt = 108 → y.toInt = 108 ∧ (pj_fi G' 2 3).toInt = (pj_fi H 2 3).toInt + 1) ∧ (((pj_fi H 2 4).toInt = -1 ∧ (pj_fi H 2 3).toInt < (pj_fi H 2 2).toInt) ∧ (pj_ai H 3 (pj_fi H 2 3).toInt.toNat).toInt = 115 → y.toInt = 115 ∧ (pj_fi G' 2 3).toInt = (pj_fi H 2 3).toInt + 1) ∧ (((pj_fi H 2 4).toInt = -1 ∧ (pj_fi H 2 3).toInt < (pj_fi H 2 2).toInt) ∧ (pj_ai H 3 (pj_fi H 2 3).toInt.toNat).toInt = 119 → y.toInt = 119 ∧ (pj_fi G' 2 3).toInt = (pj_fi H 2 3).toInt + 1) ∧ (((pj_fi H 2 4).toInt = -1 ∧ (pj_fi H 2 3).toInt < (pj_fi H 2 2).toInt) ∧ (pj_ai H 3 (pj_fi H 2 3).toInt.toNat).toInt = 98 → y.toInt = 98 ∧ (pj_fi G' 2 3).toInt = (pj_fi H 2 3).toInt + 1) ∧ (((pj_fi H 2 4).toInt = -1 ∧ (pj_fi H 2 3).toInt < (pj_fi H 2 2).toInt) ∧ (pj_ai H 3 (pj_fi H 2 3).toInt.toNat).toInt = 110 → y.toInt = 110 ∧ (pj_fi G' 2 3).toInt = (pj_fi H 2 3).toInt + 1) ∧ (¬ (((pj_fi H 2 4).toInt = -1 ∧ (pj_fi H 2 3).toInt < (pj_fi H 2 2).toInt) ∧ ((pj_ai H 3 (pj_fi H 2 3).toInt.toNat).toInt = 100 ∨ (pj_ai H 3 (pj_fi H 2 3).toInt.toNat).toInt = 117 ∨ (pj_ai H 3 (pj_fi H 2 3).toInt.toNat).toInt = 108 ∨ (pj_ai H 3 (pj_fi H 2 3).toInt.toNat).toInt = 115 ∨ (pj_ai H 3 (pj_fi H 2 3).toInt.toNat).toInt = 119 ∨ (pj_ai H 3 (pj_fi H 2 3).toInt.toNat).toInt = 98 ∨ (pj_ai H 3 (pj_fi H 2 3).toInt.toNat).toInt = 110)) → y.toInt = -1 ∧ (pj_fi G' 2 3).toInt = (pj_fi H 2 3).toInt) ∧ (pj_fi G' 2 4).toInt = (pj_fi H 2 4).toInt)) ∧ ((y, G') = L_84_s8x G0 mn v2 G))) := by
  have c0_ : (Int32.ofInt (-1)).toInt = -1 := by decide
  have c1_ : (Int32.ofInt 0).toInt = 0 := by decide
  have c2_ : (Int32.ofInt 1).toInt = 1 := by decide
  intro mn
  induction mn with
  | zero =>
    intro G hI hK v2 rv2 x0_ x1_ x2_ x3_ x4_ x5_ x6_ x7_ x8_ hm
    exfalso
    omega
  | succ mn ih =>
    intro G hI hK v2 rv2 x0_ x1_ x2_ x3_ x4_ x5_ x6_ x7_ x8_ hm
    rw [L_84_s8x_s0]
    obtain ⟨y1, hy1⟩ : ∃ z : Int32, z = pj_fi G 2 2 := ⟨_, rfl⟩
    have ey1 : (pj_fi G 2 2).toInt = y1.toInt := by rw [hy1]
    have ry1 : (0 : Int) ≤ y1.toInt ∧ y1.toInt ≤ 80 := by rw [hy1]; exact hI.2.1 2 2 (0, 80) rfl
    obtain ⟨y2, hy2⟩ : ∃ z : Int32, z = pj_fi G 2 3 := ⟨_, rfl⟩
    have ey2 : (pj_fi G 2 3).toInt = y2.toInt := by rw [hy2]
    have ry2 : (0 : Int) ≤ y2.toInt ∧ y2.toInt ≤ 80 := by rw [hy2]; exact hI.2.1 2 3 (0, 80) rfl
    obtain ⟨y3, hy3⟩ : ∃ z : Int32, z = pj_fi G 2 4 := ⟨_, rfl⟩
    have ey3 : (pj_fi G 2 4).toInt = y3.toInt := by rw [hy3]
    have ry3 : (-1 : Int) ≤ y3.toInt ∧ y3.toInt ≤ 80 := by rw [hy3]; exact hI.2.1 2 4 (-1, 80) rfl
    refine pj_X_of (fun r h => pj_R_to (G, 4, [(0, .ref 2), (1, .retAddr 8), (2, .int v2)], [.retAddr 8, .int v2], 0, 0) 4 3 (fun _ => rfl) h) ?_
    have q4 : (pj_fi G 2 2).toInt = y1.toInt := by rw [show pj_fi G 2 2 = y1 from hy1.symm]
    have q5 : (pj_fi G 2 3).toInt = y2.toInt := by rw [show pj_fi G 2 3 = y2 from hy2.symm]
    have q6 : (pj_fi G 2 4).toInt = y3.toInt := by rw [show pj_fi G 2 4 = y3 from hy3.symm]
    refine pj_X_ca (vs := [.retAddr 8]) rfl (fun _ => rfl) ⟨Nat.le_of_ble_eq_true rfl, Nat.le_of_ble_eq_true rfl, rfl⟩ ⟨rfl, rfl⟩ (pj_Y_up (by decide) (ct_288_s8x G hI)) ?_
    rintro _ _ ⟨y7, rfl, rfl, ry7, fy7⟩
    rw [← fy7, pj_nm_e]
    show pj_X _ _ G 7 [(0, .ref 2), (1, .retAddr 8), (2, .int v2)] [.int y7, .int v2] _
    cases b8 : pj_c1 .ge v2 y7 with
    | true =>
      rw [pj_cT]
      have ub8 := pj_u_geT b8
      refine pj_X_of (fun r h => pj_R_icT 34 rfl rfl b8 h) ?_
      refine pj_X_of (fun r h => pj_R_to (G, 35, [(0, .ref 2), (1, .retAddr 8), (2, .int v2)], [.int (Int32.ofInt (-1))], 0, 0) 35 2 (fun _ => rfl) h) ?_
      have q9 : (pj_fi G 2 2).toInt = y1.toInt := by rw [show pj_fi G 2 2 = y1 from hy1.symm]
      have q10 : (pj_fi G 2 3).toInt = y2.toInt := by rw [show pj_fi G 2 3 = y2 from hy2.symm]
      have q11 : (pj_fi G 2 4).toInt = y3.toInt := by rw [show pj_fi G 2 4 = y3 from hy3.symm]
      exact pj_X_rt rfl rfl ⟨_, rfl, hI, hK, ⟨by omega, by omega⟩, (fun H hH => by subst hH; exact (by omega)), rfl⟩
    | false =>
      rw [pj_cF]
      have ub8 := pj_u_geF b8
      refine pj_X_of (fun r h => pj_R_icF rfl b8 h) ?_
      refine pj_X_of (fun r h => pj_R_to (G, 13, [(0, .ref 2), (1, .retAddr 8), (2, .int v2)], [.int v2, .retAddr 8, .ref 2], 0, 0) 13 4 (fun _ => rfl) h) ?_
      have q12 : (pj_fi G 2 2).toInt = y1.toInt := by rw [show pj_fi G 2 2 = y1 from hy1.symm]
      have q13 : (pj_fi G 2 3).toInt = y2.toInt := by rw [show pj_fi G 2 3 = y2 from hy2.symm]
      have q14 : (pj_fi G 2 4).toInt = y3.toInt := by rw [show pj_fi G 2 4 = y3 from hy3.symm]
      refine pj_X_ca (vs := [.retAddr 8, .int v2]) rfl (fun _ => rfl) ⟨Nat.le_of_ble_eq_true rfl, Nat.le_of_ble_eq_true rfl, rfl⟩ ⟨rfl, rfl⟩ (pj_Y_up (by decide) (ct_289_s8x G hI v2 ⟨by omega, by omega⟩)) ?_
      rintro _ _ ⟨y15, rfl, rfl, ry15, ey15, fy15⟩
      rw [← fy15, pj_nm_e]
      show pj_X _ _ G 16 [(0, .ref 2), (1, .retAddr 8), (2, .int v2)] [.int y15, .ref 2] _
      have q16 : (pj_fi G 2 2).toInt = y1.toInt := by rw [show pj_fi G 2 2 = y1 from hy1.symm]
      have q17 : (pj_fi G 2 3).toInt = y2.toInt := by rw [show pj_fi G 2 3 = y2 from hy2.symm]
      have q18 : (pj_fi G 2 4).toInt = y3.toInt := by rw [show pj_fi G 2 4 = y3 from hy3.symm]
      refine pj_X_ca (vs := [.ref 2, .int y15]) rfl (fun _ => rfl) ⟨Nat.le_of_ble_eq_true rfl, Nat.le_of_ble_eq_true rfl, pj_T_rcv hI rfl⟩ ⟨rfl, rfl⟩ (pj_Y_up (by decide) (ct_82x G hI y15 ⟨by omega, by omega⟩)) ?_
      rintro _ G20 ⟨y19, rfl, iG20, jG20, ry19, ey19, fy19⟩
      replace ey19 := ey19 _ rfl
      rw [← fy19, pj_bd_e]
      have kG20 : pj_kpt kc_84_s8x G0 G20 := pj_kpt_t hK (pj_kpt_s jG20 rfl)
      have q21 : (pj_fi G20 2 2).toInt = (pj_fi G 2 2).toInt := by rw [jG20.1 (2, 2) (by decide)]
      have q22 : (pj_fi G20 2 4).toInt = (pj_fi G 2 4).toInt := by rw [jG20.1 (2, 4) (by decide)]
      obtain ⟨y23, hy23⟩ : ∃ z : Int32, z = pj_fi G20 2 2 := ⟨_, rfl⟩
      have ey23 : (pj_fi G20 2 2).toInt = y23.toInt := by rw [hy23]
      have ry23 : (0 : Int) ≤ y23.toInt ∧ y23.toInt ≤ 80 := by rw [hy23]; exact iG20.2.1 2 2 (0, 80) rfl
      obtain ⟨y24, hy24⟩ : ∃ z : Int32, z = pj_fi G20 2 3 := ⟨_, rfl⟩
      have ey24 : (pj_fi G20 2 3).toInt = y24.toInt := by rw [hy24]
      have ry24 : (0 : Int) ≤ y24.toInt ∧ y24.toInt ≤ 80 := by rw [hy24]; exact iG20.2.1 2 3 (0, 80) rfl
      obtain ⟨y25, hy25⟩ : ∃ z : Int32, z = pj_fi G20 2 4 := ⟨_, rfl⟩
      have ey25 : (pj_fi G20 2 4).toInt = y25.toInt := by rw [hy25]
      have ry25 : (-1 : Int) ≤ y25.toInt ∧ y25.toInt ≤ 80 := by rw [hy25]; exact iG20.2.1 2 4 (-1, 80) rfl
      show pj_X _ _ G20 19 [(0, .ref 2), (1, .retAddr 8), (2, .int v2)] [.int y19] _
      cases b26 : pj_c1 .eq y19 0 with
      | true =>
        rw [pj_cT]
        have ub26 := pj_u0_eqT b26
        refine pj_X_of (fun r h => pj_R_ifT 28 rfl rfl b26 h) ?_
        refine pj_X_of (fun r h => pj_R_to (G20, 31, [(2, .int (v2 + Int32.ofInt 1)), (0, .ref 2), (1, .retAddr 8)], [], 0, 0) 31 2 (fun _ => rfl) h) ?_
        obtain ⟨z27, hz27⟩ : ∃ z : Int32, z = v2 + Int32.ofInt 1 := ⟨_, rfl⟩
        rw [← hz27]
        rw [pj_nm_e]
        have fz27_0 : z27.toInt = v2.toInt + (Int32.ofInt 1).toInt := by rw [hz27]; exact pj_addI (by have := pj_i32 v2; have := pj_i32 (Int32.ofInt 1); omega) (by have := pj_i32 v2; have := pj_i32 (Int32.ofInt 1); omega)
        refine pj_X_of (fun r h => pj_R_to (G20, 2, [(2, .int z27), (0, .ref 2), (1, .retAddr 8)], [], 0, 0) 2 2 (fun _ => rfl) h) ?_
        have q28 : (pj_fi G20 2 2).toInt = y23.toInt := by rw [show pj_fi G20 2 2 = y23 from hy23.symm]
        have q29 : (pj_fi G20 2 3).toInt = y24.toInt := by rw [show pj_fi G20 2 3 = y24 from hy24.symm]
        have q30 : (pj_fi G20 2 4).toInt = y25.toInt := by rw [show pj_fi G20 2 4 = y25 from hy25.symm]
        exact pj_X_sub [(0, .ref 2), (1, .retAddr 8), (2, .int z27)] (show List.Nodup [0, 1, 2] by decide) ⟨rfl, rfl, rfl, trivial⟩ (ih G20 iG20 kG20 z27 ⟨by omega, by omega⟩ (by omega) (by rw [jG20.2.2 3 (by decide), show (pj_fi G20 2 3).toInt = (pj_fi G 2 3).toInt by omega]; exact x1_) (by omega) (by omega) (by omega) (by omega) (by omega) (by omega) (by omega) (by omega))
      | false =>
        rw [pj_cF]
        have ub26 := pj_u0_eqF b26
        refine pj_X_of (fun r h => pj_R_ifF rfl b26 h) ?_
        refine pj_X_of (fun r h => pj_R_to (G20, 24, [(0, .ref 2), (1, .retAddr 8), (2, .int v2)], [.int v2, .retAddr 8], 0, 0) 24 3 (fun _ => rfl) h) ?_
        have q31 : (pj_fi G20 2 2).toInt = y23.toInt := by rw [show pj_fi G20 2 2 = y23 from hy23.symm]
        have q32 : (pj_fi G20 2 3).toInt = y24.toInt := by rw [show pj_fi G20 2 3 = y24 from hy24.symm]
        have q33 : (pj_fi G20 2 4).toInt = y25.toInt := by rw [show pj_fi G20 2 4 = y25 from hy25.symm]
        refine pj_X_ca (vs := [.retAddr 8, .int v2]) rfl (fun _ => rfl) ⟨Nat.le_of_ble_eq_true rfl, Nat.le_of_ble_eq_true rfl, rfl⟩ ⟨rfl, rfl⟩ (pj_Y_up (by decide) (ct_289_s8x G20 iG20 v2 ⟨by omega, by omega⟩)) ?_
        rintro _ _ ⟨y34, rfl, rfl, ry34, ey34, fy34⟩
        rw [← fy34, pj_nm_e]
        show pj_X _ _ G20 27 [(0, .ref 2), (1, .retAddr 8), (2, .int v2)] [.int y34] _
        have q35 : (pj_fi G20 2 2).toInt = y23.toInt := by rw [show pj_fi G20 2 2 = y23 from hy23.symm]
        have q36 : (pj_fi G20 2 3).toInt = y24.toInt := by rw [show pj_fi G20 2 3 = y24 from hy24.symm]
        have q37 : (pj_fi G20 2 4).toInt = y25.toInt := by rw [show pj_fi G20 2 4 = y25 from hy25.symm]
        exact pj_X_rt rfl rfl ⟨_, rfl, iG20, kG20, ⟨by omega, by omega⟩, (fun H hH => by subst hH; exact (by omega)), rfl⟩
theorem ct_84_s8x (G0 : pj_G) (hI : pj_Inv G0) : pj_Y 15 84 [.ref 2, .retAddr 8] G0 (fun v' G' => ∃ y : Int32, v' = some (.int y) ∧ pj_Inv G' ∧ pj_kpt kc_84_s8x G0 G' ∧ ((-1 : Int) ≤ y.toInt ∧ y.toInt ≤ 255) ∧ (∀ H, G0 = H → ((((pj_fi H 2 4).toInt = -1 ∧ (pj_fi H 2 3).toInt < (pj_fi H 2 2).toInt) ∧ (pj_ai H 3 (pj_fi H 2 3).toInt.toNat).toInt = 100 → y.toInt = 100 ∧ (pj_fi G' 2 3).toInt = (pj_fi H 2 3).toInt + 1) ∧ (((pj_fi H 2 4).toInt = -1 ∧ (pj_fi H 2 3).toInt < (pj_fi H 2 2).toInt) ∧ (pj_ai H 3 (pj_fi H 2 3).toInt.toNat).toInt = 117 → y.toInt = 117 ∧ (pj_fi G' 2 3).toInt = (pj_fi H 2 3).toInt + 1) ∧ (((pj_fi H 2 4).toInt = -1 ∧ (pj_fi H 2 3).toInt < (pj_fi H 2 2).toInt) ∧ (pj_ai H 3 (pj_fi H 2 3).toInt.toNat).toInt = 108 → y.toInt = 108 ∧ (pj_fi G' 2 3).toInt = (pj_fi H 2 3).toInt + 1) ∧ (((pj_fi H 2 4).toInt = -1 ∧ (pj_fi H 2 3).toInt < (pj_fi H 2 2).toInt) ∧ (pj_ai H 3 (pj_fi H 2 3).toInt.toNat).toInt = 115 → y.toInt = 115 ∧ (pj_fi G' 2 3).toInt = (pj_fi H 2 3).toInt + 1) ∧ (((pj_fi H 2 4).toInt = -1 ∧ (pj_fi H 2 3).toInt < (pj_fi H 2 2).toInt) ∧ (pj_ai H 3 (pj_fi H 2 3).toInt.toNat).toInt = 119 → y.toInt = 119 ∧ (pj_fi G' 2 3).toInt = (pj_fi H 2 3).toInt + 1) ∧ (((pj_fi H 2 4).toInt = -1 ∧ (pj_fi H 2 3).toInt < (pj_fi H 2 2).toInt) ∧ (pj_ai H 3 (pj_fi H 2 3).toInt.toNat).toInt = 98 → y.toInt = 98 ∧ (pj_fi G' 2 3).toInt = (pj_fi H 2 3).toInt + 1) ∧ (((pj_fi H 2 4).toInt = -1 ∧ (pj_fi H 2 3).toInt < (pj_fi H 2 2).toInt) ∧ (pj_ai H 3 (pj_fi H 2 3).toInt.toNat).toInt = 110 → y.toInt = 110 ∧ (pj_fi G' 2 3).toInt = (pj_fi H 2 3).toInt + 1) ∧ (¬ (((pj_fi H 2 4).toInt = -1 ∧ (pj_fi H 2 3).toInt < (pj_fi H 2 2).toInt) ∧ ((pj_ai H 3 (pj_fi H 2 3).toInt.toNat).toInt = 100 ∨ (pj_ai H 3 (pj_fi H 2 3).toInt.toNat).toInt = 117 ∨ (pj_ai H 3 (pj_fi H 2 3).toInt.toNat).toInt = 108 ∨ (pj_ai H 3 (pj_fi H 2 3).toInt.toNat).toInt = 115 ∨ (pj_ai H 3 (pj_fi H 2 3).toInt.toNat).toInt = 119 ∨ (pj_ai H 3 (pj_fi H 2 3).toInt.toNat).toInt = 98 ∨ (pj_ai H 3 (pj_fi H 2 3).toInt.toNat).toInt = 110)) → y.toInt = -1 ∧ (pj_fi G' 2 3).toInt = (pj_fi H 2 3).toInt) ∧ (pj_fi G' 2 4).toInt = (pj_fi H 2 4).toInt)) ∧ ((y, G') = F_84_s8x G0)) := by
  have c0_ : (Int32.ofInt (-1)).toInt = -1 := by decide
  have c1_ : (Int32.ofInt 0).toInt = 0 := by decide
  have c2_ : (Int32.ofInt 1).toInt = 1 := by decide
  refine pj_Y_X (M := pj_m84) rfl rfl (Nat.le_of_ble_eq_true rfl) ?_
  have hK : pj_kpt kc_84_s8x G0 G0 := pj_kpt_r _ _
  show pj_X _ _ G0 0 [(0, .ref 2), (1, .retAddr 8)] [] _
  rw [F_84_s8x_e]
  obtain ⟨y38, hy38⟩ : ∃ z : Int32, z = pj_fi G0 2 2 := ⟨_, rfl⟩
  have ey38 : (pj_fi G0 2 2).toInt = y38.toInt := by rw [hy38]
  have ry38 : (0 : Int) ≤ y38.toInt ∧ y38.toInt ≤ 80 := by rw [hy38]; exact hI.2.1 2 2 (0, 80) rfl
  obtain ⟨y39, hy39⟩ : ∃ z : Int32, z = pj_fi G0 2 3 := ⟨_, rfl⟩
  have ey39 : (pj_fi G0 2 3).toInt = y39.toInt := by rw [hy39]
  have ry39 : (0 : Int) ≤ y39.toInt ∧ y39.toInt ≤ 80 := by rw [hy39]; exact hI.2.1 2 3 (0, 80) rfl
  obtain ⟨y40, hy40⟩ : ∃ z : Int32, z = pj_fi G0 2 4 := ⟨_, rfl⟩
  have ey40 : (pj_fi G0 2 4).toInt = y40.toInt := by rw [hy40]
  have ry40 : (-1 : Int) ≤ y40.toInt ∧ y40.toInt ≤ 80 := by rw [hy40]; exact hI.2.1 2 4 (-1, 80) rfl
  refine pj_X_of (fun r h => pj_R_to (G0, 2, [(2, .int (Int32.ofInt 0)), (0, .ref 2), (1, .retAddr 8)], [], 0, 0) 2 3 (fun _ => rfl) h) ?_
  have q41 : (pj_fi G0 2 2).toInt = y38.toInt := by rw [show pj_fi G0 2 2 = y38 from hy38.symm]
  have q42 : (pj_fi G0 2 3).toInt = y39.toInt := by rw [show pj_fi G0 2 3 = y39 from hy39.symm]
  have q43 : (pj_fi G0 2 4).toInt = y40.toInt := by rw [show pj_fi G0 2 4 = y40 from hy40.symm]
  exact pj_X_sub [(0, .ref 2), (1, .retAddr 8), (2, .int (Int32.ofInt 0))] (show List.Nodup [0, 1, 2] by decide) ⟨rfl, rfl, rfl, trivial⟩ ((lp_ct_84_s8x G0 hI   8) G0 hI hK (Int32.ofInt 0) ⟨by omega, by omega⟩ (by omega) rfl (by omega) (by omega) (by omega) (by omega) (by omega) (by omega) (by omega) (by omega))
theorem fr_84_s8x (G0 : pj_G) (hI : pj_Inv G0) : pj_Inv (F_84_s8x G0).2 ∧ pj_kpt kc_84_s8x G0 (F_84_s8x G0).2 ∧ ((-1 : Int) ≤ (F_84_s8x G0).1.toInt ∧ (F_84_s8x G0).1.toInt ≤ 255) ∧ ((((pj_fi G0 2 4).toInt = -1 ∧ (pj_fi G0 2 3).toInt < (pj_fi G0 2 2).toInt) ∧ (pj_ai G0 3 (pj_fi G0 2 3).toInt.toNat).toInt = 100 → (F_84_s8x G0).1.toInt = 100 ∧ (pj_fi (F_84_s8x G0).2 2 3).toInt = (pj_fi G0 2 3).toInt + 1) ∧ (((pj_fi G0 2 4).toInt = -1 ∧ (pj_fi G0 2 3).toInt < (pj_fi G0 2 2).toInt) ∧ (pj_ai G0 3 (pj_fi G0 2 3).toInt.toNat).toInt = 117 → (F_84_s8x G0).1.toInt = 117 ∧ (pj_fi (F_84_s8x G0).2 2 3).toInt = (pj_fi G0 2 3).toInt + 1) ∧ (((pj_fi G0 2 4).toInt = -1 ∧ (pj_fi G0 2 3).toInt < (pj_fi G0 2 2).toInt) ∧ (pj_ai G0 3 (pj_fi G0 2 3).toInt.toNat).toInt = 108 → (F_84_s8x G0).1.toInt = 108 ∧ (pj_fi (F_84_s8x G0).2 2 3).toInt = (pj_fi G0 2 3).toInt + 1) ∧ (((pj_fi G0 2 4).toInt = -1 ∧ (pj_fi G0 2 3).toInt < (pj_fi G0 2 2).toInt) ∧ (pj_ai G0 3 (pj_fi G0 2 3).toInt.toNat).toInt = 115 → (F_84_s8x G0).1.toInt = 115 ∧ (pj_fi (F_84_s8x G0).2 2 3).toInt = (pj_fi G0 2 3).toInt + 1) ∧ (((pj_fi G0 2 4).toInt = -1 ∧ (pj_fi G0 2 3).toInt < (pj_fi G0 2 2).toInt) ∧ (pj_ai G0 3 (pj_fi G0 2 3).toInt.toNat).toInt = 119 → (F_84_s8x G0).1.toInt = 119 ∧ (pj_fi (F_84_s8x G0).2 2 3).toInt = (pj_fi G0 2 3).toInt + 1) ∧ (((pj_fi G0 2 4).toInt = -1 ∧ (pj_fi G0 2 3).toInt < (pj_fi G0 2 2).toInt) ∧ (pj_ai G0 3 (pj_fi G0 2 3).toInt.toNat).toInt = 98 → (F_84_s8x G0).1.toInt = 98 ∧ (pj_fi (F_84_s8x G0).2 2 3).toInt = (pj_fi G0 2 3).toInt + 1) ∧ (((pj_fi G0 2 4).toInt = -1 ∧ (pj_fi G0 2 3).toInt < (pj_fi G0 2 2).toInt) ∧ (pj_ai G0 3 (pj_fi G0 2 3).toInt.toNat).toInt = 110 → (F_84_s8x G0).1.toInt = 110 ∧ (pj_fi (F_84_s8x G0).2 2 3).toInt = (pj_fi G0 2 3).toInt + 1) ∧ (¬ (((pj_fi G0 2 4).toInt = -1 ∧ (pj_fi G0 2 3).toInt < (pj_fi G0 2 2).toInt) ∧ ((pj_ai G0 3 (pj_fi G0 2 3).toInt.toNat).toInt = 100 ∨ (pj_ai G0 3 (pj_fi G0 2 3).toInt.toNat).toInt = 117 ∨ (pj_ai G0 3 (pj_fi G0 2 3).toInt.toNat).toInt = 108 ∨ (pj_ai G0 3 (pj_fi G0 2 3).toInt.toNat).toInt = 115 ∨ (pj_ai G0 3 (pj_fi G0 2 3).toInt.toNat).toInt = 119 ∨ (pj_ai G0 3 (pj_fi G0 2 3).toInt.toNat).toInt = 98 ∨ (pj_ai G0 3 (pj_fi G0 2 3).toInt.toNat).toInt = 110)) → (F_84_s8x G0).1.toInt = -1 ∧ (pj_fi (F_84_s8x G0).2 2 3).toInt = (pj_fi G0 2 3).toInt) ∧ (pj_fi (F_84_s8x G0).2 2 4).toInt = (pj_fi G0 2 4).toInt) := by
  obtain ⟨v, G', -, y, -, i, j, r, x, e⟩ := ct_84_s8x G0 hI 
  rw [← e]
  exact ⟨i, j, r, x _ rfl⟩
