theorem pj_i2cI {x : Int32} (h0 : 0 ≤ x.toInt) (h1 : x.toInt ≤ 65535) : ((x.toUInt32 % 65536).toInt32).toInt = x.toInt := by
  have e : (x.toUInt32 % 65536).toInt32 = x := by
    apply Int32.toInt_inj.mp
    have h2 : x.toUInt32.toNat = x.toInt.toNat := by
      have : x.toInt = (x.toUInt32.toNat : Int) := by
        show x.toBitVec.toInt = (x.toBitVec.toNat : Int)
        rw [BitVec.toInt_eq_toNat_cond]
        have h3 : 0 ≤ x.toBitVec.toInt := h0
        rw [BitVec.toInt_eq_toNat_cond] at h3
        split
        · rfl
        · rename_i h4
          rw [if_neg h4] at h3
          have := x.toBitVec.isLt
          omega
      omega
    have h5 : (x.toUInt32 % 65536) = x.toUInt32 := by
      apply UInt32.toNat_inj.mp
      rw [UInt32.toNat_mod]
      show x.toUInt32.toNat % 65536 = _
      omega
    rw [h5]
    rfl
  rw [e]
theorem pj_E_nat {d mi : Nat} {M : pj_M} {vs : List Value} {G : pj_G} {r : Option Value × pj_G × Nat × Nat} (hM : pj_prog[mi]? = some M) (hq : M.2.2.2.2.2 = []) (hd : 12 ≤ d) (h : pj_nat mi vs G = some r) : pj_E (pj_cx (d + 1)) mi vs G r := by
  refine ⟨0, ?_⟩
  show (match pj_prog[mi]? with
    | none => none
    | some M => (match M.2.2.2.2.2 with
      | [] => if 12 ≤ d then pj_nat mi vs G else none
      | _ :: _ => if (lg_sl vs).length ≤ M.2.2.1 then pj_run (pj_exec pj_prog pj_nat 0 d) 0 pj_x0 M 0 (G, 0, lv_args 0 vs, [], 0, 0) else none)) = some r
  rw [hM]
  dsimp only
  rw [hq]
  dsimp only
  rw [if_pos hd, h]
theorem pj_nat_len {k : Nat} (G : pj_G) (hk : k < 16) : pj_nat 288 [.retAddr k] G = some (some (.int (Int32.ofNat (pj_byt k).length)), G, 0, 0) := by
  show (if 288 = 288 ∧ k < 16 then some (some (Value.int (Int32.ofNat (pj_byt k).length)), G, 0, 0) else none) = _
  exact if_pos ⟨rfl, hk⟩
theorem pj_nat_chr {k : Nat} {i : Int32} (G : pj_G) (hk : k < 16) (h0 : 0 ≤ i) (h1 : i.toNatClampNeg < (pj_byt k).length) : pj_nat 289 [.retAddr k, .int i] G = some (some (.int ((pj_byt k).getD i.toNatClampNeg 0)), G, 0, 0) := by
  unfold pj_nat
  exact if_pos ⟨rfl, hk, h0, h1⟩
theorem pj_nat_ixo {k : Nat} {i : Int32} (G : pj_G) (hk : k < 16) (h0 : 0 ≤ i) (h1 : i ≤ 255) : pj_nat 290 [.retAddr k, .int i] G = some (some (.int (pj_ix (fun j => (pj_byt k).getD j 0) i.toInt8.toInt32 (pj_byt k).length 0)), G, 0, 0) := by
  unfold pj_nat
  dsimp only
  rw [if_neg (fun h => absurd h.1 (by decide)), if_pos ⟨rfl, hk, h0, h1⟩]
theorem pj_chb : ∀ k, k < 16 → ∀ i, i < (pj_byt k).length → 0 ≤ ((pj_byt k).getD i 0).toInt ∧ ((pj_byt k).getD i 0).toInt ≤ 255 := by decide +kernel
theorem pj_bl4 : (pj_byt 4).length = 4 := by decide +kernel
theorem ct_288_s4 (G0 : pj_G) (hI : pj_Inv G0) : pj_Y 13 288 [.retAddr 4] G0 (fun v G' => ∃ y : Int32, v = some (.int y) ∧ G0 = G' ∧ ((4 : Int) ≤ y.toInt ∧ y.toInt ≤ 4)) := by
  refine ⟨_, _, pj_E_nat (M := pj_m288) rfl rfl (Nat.le_refl _) (pj_nat_len G0 (by decide)), _, rfl, rfl, ?_⟩
  rw [pj_bl4]
  decide
theorem ct_289_s4 (G0 : pj_G) (hI : pj_Inv G0) (i : Int32) (ri : (0 : Int) ≤ i.toInt ∧ i.toInt ≤ 3) : pj_Y 13 289 [.retAddr 4, .int i] G0 (fun v G' => ∃ y : Int32, v = some (.int y) ∧ G0 = G' ∧ ((0 : Int) ≤ y.toInt ∧ y.toInt ≤ 255)) := by
  have hn : i.toNatClampNeg < (pj_byt 4).length := by
    rw [pj_bl4]
    show i.toInt.toNat < 4
    omega
  refine ⟨_, _, pj_E_nat (M := pj_m289) rfl rfl (Nat.le_refl _) (pj_nat_chr G0 (by decide) (by rw [Int32.le_iff_toInt_le, pj_lz0]; omega) hn), _, rfl, rfl, pj_chb 4 (by decide) _ hn⟩
theorem pj_bl5 : (pj_byt 5).length = 3 := by decide +kernel
theorem ct_288_s5 (G0 : pj_G) (hI : pj_Inv G0) : pj_Y 13 288 [.retAddr 5] G0 (fun v G' => ∃ y : Int32, v = some (.int y) ∧ G0 = G' ∧ ((3 : Int) ≤ y.toInt ∧ y.toInt ≤ 3)) := by
  refine ⟨_, _, pj_E_nat (M := pj_m288) rfl rfl (Nat.le_refl _) (pj_nat_len G0 (by decide)), _, rfl, rfl, ?_⟩
  rw [pj_bl5]
  decide
theorem ct_289_s5 (G0 : pj_G) (hI : pj_Inv G0) (i : Int32) (ri : (0 : Int) ≤ i.toInt ∧ i.toInt ≤ 2) : pj_Y 13 289 [.retAddr 5, .int i] G0 (fun v G' => ∃ y : Int32, v = some (.int y) ∧ G0 = G' ∧ ((0 : Int) ≤ y.toInt ∧ y.toInt ≤ 255)) := by
  have hn : i.toNatClampNeg < (pj_byt 5).length := by
    rw [pj_bl5]
    show i.toInt.toNat < 3
    omega
  refine ⟨_, _, pj_E_nat (M := pj_m289) rfl rfl (Nat.le_refl _) (pj_nat_chr G0 (by decide) (by rw [Int32.le_iff_toInt_le, pj_lz0]; omega) hn), _, rfl, rfl, pj_chb 5 (by decide) _ hn⟩
theorem pj_bl6 : (pj_byt 6).length = 2 := by decide +kernel
theorem ct_288_s6 (G0 : pj_G) (hI : pj_Inv G0) : pj_Y 13 288 [.retAddr 6] G0 (fun v G' => ∃ y : Int32, v = some (.int y) ∧ G0 = G' ∧ ((2 : Int) ≤ y.toInt ∧ y.toInt ≤ 2)) := by
  refine ⟨_, _, pj_E_nat (M := pj_m288) rfl rfl (Nat.le_refl _) (pj_nat_len G0 (by decide)), _, rfl, rfl, ?_⟩
  rw [pj_bl6]
  decide
theorem ct_289_s6 (G0 : pj_G) (hI : pj_Inv G0) (i : Int32) (ri : (0 : Int) ≤ i.toInt ∧ i.toInt ≤ 1) : pj_Y 13 289 [.retAddr 6, .int i] G0 (fun v G' => ∃ y : Int32, v = some (.int y) ∧ G0 = G' ∧ ((0 : Int) ≤ y.toInt ∧ y.toInt ≤ 255)) := by
  have hn : i.toNatClampNeg < (pj_byt 6).length := by
    rw [pj_bl6]
    show i.toInt.toNat < 2
    omega
  refine ⟨_, _, pj_E_nat (M := pj_m289) rfl rfl (Nat.le_refl _) (pj_nat_chr G0 (by decide) (by rw [Int32.le_iff_toInt_le, pj_lz0]; omega) hn), _, rfl, rfl, pj_chb 6 (by decide) _ hn⟩
theorem pj_bl7 : (pj_byt 7).length = 2 := by decide +kernel
theorem ct_288_s7 (G0 : pj_G) (hI : pj_Inv G0) : pj_Y 13 288 [.retAddr 7] G0 (fun v G' => ∃ y : Int32, v = some (.int y) ∧ G0 = G' ∧ ((2 : Int) ≤ y.toInt ∧ y.toInt ≤ 2)) := by
  refine ⟨_, _, pj_E_nat (M := pj_m288) rfl rfl (Nat.le_refl _) (pj_nat_len G0 (by decide)), _, rfl, rfl, ?_⟩
  rw [pj_bl7]
  decide
theorem ct_289_s7 (G0 : pj_G) (hI : pj_Inv G0) (i : Int32) (ri : (0 : Int) ≤ i.toInt ∧ i.toInt ≤ 1) : pj_Y 13 289 [.retAddr 7, .int i] G0 (fun v G' => ∃ y : Int32, v = some (.int y) ∧ G0 = G' ∧ ((0 : Int) ≤ y.toInt ∧ y.toInt ≤ 255)) := by
  have hn : i.toNatClampNeg < (pj_byt 7).length := by
    rw [pj_bl7]
    show i.toInt.toNat < 2
    omega
  refine ⟨_, _, pj_E_nat (M := pj_m289) rfl rfl (Nat.le_refl _) (pj_nat_chr G0 (by decide) (by rw [Int32.le_iff_toInt_le, pj_lz0]; omega) hn), _, rfl, rfl, pj_chb 7 (by decide) _ hn⟩
theorem pj_bl8 : (pj_byt 8).length = 7 := by decide +kernel
theorem ct_288_s8 (G0 : pj_G) (hI : pj_Inv G0) : pj_Y 13 288 [.retAddr 8] G0 (fun v G' => ∃ y : Int32, v = some (.int y) ∧ G0 = G' ∧ ((7 : Int) ≤ y.toInt ∧ y.toInt ≤ 7)) := by
  refine ⟨_, _, pj_E_nat (M := pj_m288) rfl rfl (Nat.le_refl _) (pj_nat_len G0 (by decide)), _, rfl, rfl, ?_⟩
  rw [pj_bl8]
  decide
theorem ct_289_s8 (G0 : pj_G) (hI : pj_Inv G0) (i : Int32) (ri : (0 : Int) ≤ i.toInt ∧ i.toInt ≤ 6) : pj_Y 13 289 [.retAddr 8, .int i] G0 (fun v G' => ∃ y : Int32, v = some (.int y) ∧ G0 = G' ∧ ((0 : Int) ≤ y.toInt ∧ y.toInt ≤ 255)) := by
  have hn : i.toNatClampNeg < (pj_byt 8).length := by
    rw [pj_bl8]
    show i.toInt.toNat < 7
    omega
  refine ⟨_, _, pj_E_nat (M := pj_m289) rfl rfl (Nat.le_refl _) (pj_nat_chr G0 (by decide) (by rw [Int32.le_iff_toInt_le, pj_lz0]; omega) hn), _, rfl, rfl, pj_chb 8 (by decide) _ hn⟩
theorem pj_bl9 : (pj_byt 9).length = 9 := by decide +kernel
theorem ct_288_s9 (G0 : pj_G) (hI : pj_Inv G0) : pj_Y 13 288 [.retAddr 9] G0 (fun v G' => ∃ y : Int32, v = some (.int y) ∧ G0 = G' ∧ ((9 : Int) ≤ y.toInt ∧ y.toInt ≤ 9)) := by
  refine ⟨_, _, pj_E_nat (M := pj_m288) rfl rfl (Nat.le_refl _) (pj_nat_len G0 (by decide)), _, rfl, rfl, ?_⟩
  rw [pj_bl9]
  decide
theorem ct_289_s9 (G0 : pj_G) (hI : pj_Inv G0) (i : Int32) (ri : (0 : Int) ≤ i.toInt ∧ i.toInt ≤ 8) : pj_Y 13 289 [.retAddr 9, .int i] G0 (fun v G' => ∃ y : Int32, v = some (.int y) ∧ G0 = G' ∧ ((0 : Int) ≤ y.toInt ∧ y.toInt ≤ 255)) := by
  have hn : i.toNatClampNeg < (pj_byt 9).length := by
    rw [pj_bl9]
    show i.toInt.toNat < 9
    omega
  refine ⟨_, _, pj_E_nat (M := pj_m289) rfl rfl (Nat.le_refl _) (pj_nat_chr G0 (by decide) (by rw [Int32.le_iff_toInt_le, pj_lz0]; omega) hn), _, rfl, rfl, pj_chb 9 (by decide) _ hn⟩
theorem pj_bl10 : (pj_byt 10).length = 7 := by decide +kernel
theorem ct_288_s10 (G0 : pj_G) (hI : pj_Inv G0) : pj_Y 13 288 [.retAddr 10] G0 (fun v G' => ∃ y : Int32, v = some (.int y) ∧ G0 = G' ∧ ((7 : Int) ≤ y.toInt ∧ y.toInt ≤ 7)) := by
  refine ⟨_, _, pj_E_nat (M := pj_m288) rfl rfl (Nat.le_refl _) (pj_nat_len G0 (by decide)), _, rfl, rfl, ?_⟩
  rw [pj_bl10]
  decide
theorem ct_289_s10 (G0 : pj_G) (hI : pj_Inv G0) (i : Int32) (ri : (0 : Int) ≤ i.toInt ∧ i.toInt ≤ 6) : pj_Y 13 289 [.retAddr 10, .int i] G0 (fun v G' => ∃ y : Int32, v = some (.int y) ∧ G0 = G' ∧ ((0 : Int) ≤ y.toInt ∧ y.toInt ≤ 255)) := by
  have hn : i.toNatClampNeg < (pj_byt 10).length := by
    rw [pj_bl10]
    show i.toInt.toNat < 7
    omega
  refine ⟨_, _, pj_E_nat (M := pj_m289) rfl rfl (Nat.le_refl _) (pj_nat_chr G0 (by decide) (by rw [Int32.le_iff_toInt_le, pj_lz0]; omega) hn), _, rfl, rfl, pj_chb 10 (by decide) _ hn⟩
theorem pj_bl11 : (pj_byt 11).length = 7 := by decide +kernel
theorem ct_288_s11 (G0 : pj_G) (hI : pj_Inv G0) : pj_Y 13 288 [.retAddr 11] G0 (fun v G' => ∃ y : Int32, v = some (.int y) ∧ G0 = G' ∧ ((7 : Int) ≤ y.toInt ∧ y.toInt ≤ 7)) := by
  refine ⟨_, _, pj_E_nat (M := pj_m288) rfl rfl (Nat.le_refl _) (pj_nat_len G0 (by decide)), _, rfl, rfl, ?_⟩
  rw [pj_bl11]
  decide
theorem ct_289_s11 (G0 : pj_G) (hI : pj_Inv G0) (i : Int32) (ri : (0 : Int) ≤ i.toInt ∧ i.toInt ≤ 6) : pj_Y 13 289 [.retAddr 11, .int i] G0 (fun v G' => ∃ y : Int32, v = some (.int y) ∧ G0 = G' ∧ ((0 : Int) ≤ y.toInt ∧ y.toInt ≤ 255)) := by
  have hn : i.toNatClampNeg < (pj_byt 11).length := by
    rw [pj_bl11]
    show i.toInt.toNat < 7
    omega
  refine ⟨_, _, pj_E_nat (M := pj_m289) rfl rfl (Nat.le_refl _) (pj_nat_chr G0 (by decide) (by rw [Int32.le_iff_toInt_le, pj_lz0]; omega) hn), _, rfl, rfl, pj_chb 11 (by decide) _ hn⟩
theorem pj_bl12 : (pj_byt 12).length = 3 := by decide +kernel
theorem ct_288_s12 (G0 : pj_G) (hI : pj_Inv G0) : pj_Y 13 288 [.retAddr 12] G0 (fun v G' => ∃ y : Int32, v = some (.int y) ∧ G0 = G' ∧ ((3 : Int) ≤ y.toInt ∧ y.toInt ≤ 3)) := by
  refine ⟨_, _, pj_E_nat (M := pj_m288) rfl rfl (Nat.le_refl _) (pj_nat_len G0 (by decide)), _, rfl, rfl, ?_⟩
  rw [pj_bl12]
  decide
theorem ct_289_s12 (G0 : pj_G) (hI : pj_Inv G0) (i : Int32) (ri : (0 : Int) ≤ i.toInt ∧ i.toInt ≤ 2) : pj_Y 13 289 [.retAddr 12, .int i] G0 (fun v G' => ∃ y : Int32, v = some (.int y) ∧ G0 = G' ∧ ((0 : Int) ≤ y.toInt ∧ y.toInt ≤ 255)) := by
  have hn : i.toNatClampNeg < (pj_byt 12).length := by
    rw [pj_bl12]
    show i.toInt.toNat < 3
    omega
  refine ⟨_, _, pj_E_nat (M := pj_m289) rfl rfl (Nat.le_refl _) (pj_nat_chr G0 (by decide) (by rw [Int32.le_iff_toInt_le, pj_lz0]; omega) hn), _, rfl, rfl, pj_chb 12 (by decide) _ hn⟩
theorem pj_bl13 : (pj_byt 13).length = 2 := by decide +kernel
theorem ct_288_s13 (G0 : pj_G) (hI : pj_Inv G0) : pj_Y 13 288 [.retAddr 13] G0 (fun v G' => ∃ y : Int32, v = some (.int y) ∧ G0 = G' ∧ ((2 : Int) ≤ y.toInt ∧ y.toInt ≤ 2)) := by
  refine ⟨_, _, pj_E_nat (M := pj_m288) rfl rfl (Nat.le_refl _) (pj_nat_len G0 (by decide)), _, rfl, rfl, ?_⟩
  rw [pj_bl13]
  decide
theorem ct_289_s13 (G0 : pj_G) (hI : pj_Inv G0) (i : Int32) (ri : (0 : Int) ≤ i.toInt ∧ i.toInt ≤ 1) : pj_Y 13 289 [.retAddr 13, .int i] G0 (fun v G' => ∃ y : Int32, v = some (.int y) ∧ G0 = G' ∧ ((0 : Int) ≤ y.toInt ∧ y.toInt ≤ 255)) := by
  have hn : i.toNatClampNeg < (pj_byt 13).length := by
    rw [pj_bl13]
    show i.toInt.toNat < 2
    omega
  refine ⟨_, _, pj_E_nat (M := pj_m289) rfl rfl (Nat.le_refl _) (pj_nat_chr G0 (by decide) (by rw [Int32.le_iff_toInt_le, pj_lz0]; omega) hn), _, rfl, rfl, pj_chb 13 (by decide) _ hn⟩
theorem pj_bl14 : (pj_byt 14).length = 2 := by decide +kernel
theorem ct_288_s14 (G0 : pj_G) (hI : pj_Inv G0) : pj_Y 13 288 [.retAddr 14] G0 (fun v G' => ∃ y : Int32, v = some (.int y) ∧ G0 = G' ∧ ((2 : Int) ≤ y.toInt ∧ y.toInt ≤ 2)) := by
  refine ⟨_, _, pj_E_nat (M := pj_m288) rfl rfl (Nat.le_refl _) (pj_nat_len G0 (by decide)), _, rfl, rfl, ?_⟩
  rw [pj_bl14]
  decide
theorem ct_289_s14 (G0 : pj_G) (hI : pj_Inv G0) (i : Int32) (ri : (0 : Int) ≤ i.toInt ∧ i.toInt ≤ 1) : pj_Y 13 289 [.retAddr 14, .int i] G0 (fun v G' => ∃ y : Int32, v = some (.int y) ∧ G0 = G' ∧ ((0 : Int) ≤ y.toInt ∧ y.toInt ≤ 255)) := by
  have hn : i.toNatClampNeg < (pj_byt 14).length := by
    rw [pj_bl14]
    show i.toInt.toNat < 2
    omega
  refine ⟨_, _, pj_E_nat (M := pj_m289) rfl rfl (Nat.le_refl _) (pj_nat_chr G0 (by decide) (by rw [Int32.le_iff_toInt_le, pj_lz0]; omega) hn), _, rfl, rfl, pj_chb 14 (by decide) _ hn⟩
theorem pj_bl15 : (pj_byt 15).length = 4 := by decide +kernel
theorem ct_288_s15 (G0 : pj_G) (hI : pj_Inv G0) : pj_Y 13 288 [.retAddr 15] G0 (fun v G' => ∃ y : Int32, v = some (.int y) ∧ G0 = G' ∧ ((4 : Int) ≤ y.toInt ∧ y.toInt ≤ 4)) := by
  refine ⟨_, _, pj_E_nat (M := pj_m288) rfl rfl (Nat.le_refl _) (pj_nat_len G0 (by decide)), _, rfl, rfl, ?_⟩
  rw [pj_bl15]
  decide
theorem ct_289_s15 (G0 : pj_G) (hI : pj_Inv G0) (i : Int32) (ri : (0 : Int) ≤ i.toInt ∧ i.toInt ≤ 3) : pj_Y 13 289 [.retAddr 15, .int i] G0 (fun v G' => ∃ y : Int32, v = some (.int y) ∧ G0 = G' ∧ ((0 : Int) ≤ y.toInt ∧ y.toInt ≤ 255)) := by
  have hn : i.toNatClampNeg < (pj_byt 15).length := by
    rw [pj_bl15]
    show i.toInt.toNat < 4
    omega
  refine ⟨_, _, pj_E_nat (M := pj_m289) rfl rfl (Nat.le_refl _) (pj_nat_chr G0 (by decide) (by rw [Int32.le_iff_toInt_le, pj_lz0]; omega) hn), _, rfl, rfl, pj_chb 15 (by decide) _ hn⟩
theorem ct_290_s8 (G0 : pj_G) (hI : pj_Inv G0) (i : Int32) (ri : (0 : Int) ≤ i.toInt ∧ i.toInt ≤ 255) : pj_Y 13 290 [.retAddr 8, .int i] G0 (fun v G' => ∃ y : Int32, v = some (.int y) ∧ G0 = G' ∧ ((-1 : Int) ≤ y.toInt ∧ y.toInt ≤ 6)) := by
  have c255 : (255 : Int32).toInt = 255 := by decide
  refine ⟨_, _, pj_E_nat (M := pj_m290) rfl rfl (Nat.le_refl _) (pj_nat_ixo G0 (by decide) (by rw [Int32.le_iff_toInt_le, pj_lz0]; omega) (by rw [Int32.le_iff_toInt_le, c255]; omega)), _, rfl, rfl, ?_⟩
  have h := pj_ix_b (fun j => (pj_byt 8).getD j 0) i.toInt8.toInt32 (pj_byt 8).length 0 (by rw [pj_bl8]; decide)
  rw [pj_bl8] at h ⊢
  omega
def kc_84_s4 : pj_KT := ([(2, 3)], [2], [])
theorem lp_ct_84_s4 (G0 : pj_G) (hI0 : pj_Inv G0) : ∀ mn : Nat, (∀ (G : pj_G) (hI : pj_Inv G) (hK : pj_kpt kc_84_s4 G0 G) (v2 : Int32), ((0 : Int) ≤ v2.toInt ∧ v2.toInt ≤ 4) → 4 - v2.toInt < (mn : Int) → pj_X 14 pj_m84 G 2 [(0, .ref 2), (1, .retAddr 4), (2, .int v2)] [] (fun v G' => ∃ y : Int32, v = some (.int y) ∧ pj_Inv G' ∧ pj_kpt kc_84_s4 G0 G' ∧ ((-1 : Int) ≤ y.toInt ∧ y.toInt ≤ 255))) := by
  have c0_ : (Int32.ofInt (-1)).toInt = -1 := by decide
  have c1_ : (Int32.ofInt 0).toInt = 0 := by decide
  have c2_ : (Int32.ofInt 1).toInt = 1 := by decide
  intro mn
  induction mn with
  | zero =>
    intro G hI hK v2 rv2 hm
    exfalso
    omega
  | succ mn ih =>
    intro G hI hK v2 rv2 hm
    refine pj_X_of (fun r h => pj_R_to (G, 4, [(0, .ref 2), (1, .retAddr 4), (2, .int v2)], [.retAddr 4, .int v2], 0, 0) 4 3 (fun _ => rfl) h) ?_
    refine pj_X_ca (vs := [.retAddr 4]) rfl (fun _ => rfl) ⟨Nat.le_of_ble_eq_true rfl, Nat.le_of_ble_eq_true rfl, rfl⟩ ⟨rfl, rfl⟩ (pj_Y_up (by decide) (ct_288_s4 G hI)) ?_
    rintro _ _ ⟨y1, rfl, rfl, ry1⟩
    show pj_X _ _ G 7 [(0, .ref 2), (1, .retAddr 4), (2, .int v2)] [.int y1, .int v2] _
    cases b2 : pj_c1 .ge v2 y1 with
    | true =>
      have ub2 := pj_u_geT b2
      refine pj_X_of (fun r h => pj_R_icT 34 rfl rfl b2 h) ?_
      refine pj_X_of (fun r h => pj_R_to (G, 35, [(0, .ref 2), (1, .retAddr 4), (2, .int v2)], [.int (Int32.ofInt (-1))], 0, 0) 35 2 (fun _ => rfl) h) ?_
      exact pj_X_rt rfl rfl ⟨_, rfl, hI, hK, ⟨by omega, by omega⟩⟩
    | false =>
      have ub2 := pj_u_geF b2
      refine pj_X_of (fun r h => pj_R_icF rfl b2 h) ?_
      refine pj_X_of (fun r h => pj_R_to (G, 13, [(0, .ref 2), (1, .retAddr 4), (2, .int v2)], [.int v2, .retAddr 4, .ref 2], 0, 0) 13 4 (fun _ => rfl) h) ?_
      refine pj_X_ca (vs := [.retAddr 4, .int v2]) rfl (fun _ => rfl) ⟨Nat.le_of_ble_eq_true rfl, Nat.le_of_ble_eq_true rfl, rfl⟩ ⟨rfl, rfl⟩ (pj_Y_up (by decide) (ct_289_s4 G hI v2 ⟨by omega, by omega⟩)) ?_
      rintro _ _ ⟨y3, rfl, rfl, ry3⟩
      show pj_X _ _ G 16 [(0, .ref 2), (1, .retAddr 4), (2, .int v2)] [.int y3, .ref 2] _
      refine pj_X_ca (vs := [.ref 2, .int y3]) rfl (fun _ => rfl) ⟨Nat.le_of_ble_eq_true rfl, Nat.le_of_ble_eq_true rfl, pj_T_rcv hI rfl⟩ ⟨rfl, rfl⟩ (pj_Y_up (by decide) (ct_82 G hI y3 ⟨by omega, by omega⟩)) ?_
      rintro _ G5 ⟨y4, rfl, iG5, jG5, ry4⟩
      have kG5 : pj_kpt kc_84_s4 G0 G5 := pj_kpt_t hK (pj_kpt_s jG5 rfl)
      show pj_X _ _ G5 19 [(0, .ref 2), (1, .retAddr 4), (2, .int v2)] [.int y4] _
      cases b6 : pj_c1 .eq y4 0 with
      | true =>
        have ub6 := pj_u0_eqT b6
        refine pj_X_of (fun r h => pj_R_ifT 28 rfl rfl b6 h) ?_
        refine pj_X_of (fun r h => pj_R_to (G5, 31, [(2, .int (v2 + Int32.ofInt 1)), (0, .ref 2), (1, .retAddr 4)], [], 0, 0) 31 2 (fun _ => rfl) h) ?_
        obtain ⟨z7, hz7⟩ : ∃ z : Int32, z = v2 + Int32.ofInt 1 := ⟨_, rfl⟩
        rw [← hz7]
        have fz7_0 : z7.toInt = v2.toInt + (Int32.ofInt 1).toInt := by rw [hz7]; exact pj_addI (by have := pj_i32 v2; have := pj_i32 (Int32.ofInt 1); omega) (by have := pj_i32 v2; have := pj_i32 (Int32.ofInt 1); omega)
        refine pj_X_of (fun r h => pj_R_to (G5, 2, [(2, .int z7), (0, .ref 2), (1, .retAddr 4)], [], 0, 0) 2 2 (fun _ => rfl) h) ?_
        exact pj_X_sub [(0, .ref 2), (1, .retAddr 4), (2, .int z7)] (show List.Nodup [0, 1, 2] by decide) ⟨rfl, rfl, rfl, trivial⟩ (ih G5 iG5 kG5 z7 ⟨by omega, by omega⟩ (by omega))
      | false =>
        have ub6 := pj_u0_eqF b6
        refine pj_X_of (fun r h => pj_R_ifF rfl b6 h) ?_
        refine pj_X_of (fun r h => pj_R_to (G5, 24, [(0, .ref 2), (1, .retAddr 4), (2, .int v2)], [.int v2, .retAddr 4], 0, 0) 24 3 (fun _ => rfl) h) ?_
        refine pj_X_ca (vs := [.retAddr 4, .int v2]) rfl (fun _ => rfl) ⟨Nat.le_of_ble_eq_true rfl, Nat.le_of_ble_eq_true rfl, rfl⟩ ⟨rfl, rfl⟩ (pj_Y_up (by decide) (ct_289_s4 G5 iG5 v2 ⟨by omega, by omega⟩)) ?_
        rintro _ _ ⟨y8, rfl, rfl, ry8⟩
        show pj_X _ _ G5 27 [(0, .ref 2), (1, .retAddr 4), (2, .int v2)] [.int y8] _
        exact pj_X_rt rfl rfl ⟨_, rfl, iG5, kG5, ⟨by omega, by omega⟩⟩
theorem ct_84_s4 (G0 : pj_G) (hI : pj_Inv G0) : pj_Y 15 84 [.ref 2, .retAddr 4] G0 (fun v G' => ∃ y : Int32, v = some (.int y) ∧ pj_Inv G' ∧ pj_kpt kc_84_s4 G0 G' ∧ ((-1 : Int) ≤ y.toInt ∧ y.toInt ≤ 255)) := by
  have c0_ : (Int32.ofInt (-1)).toInt = -1 := by decide
  have c1_ : (Int32.ofInt 0).toInt = 0 := by decide
  have c2_ : (Int32.ofInt 1).toInt = 1 := by decide
  refine pj_Y_X (M := pj_m84) rfl rfl (Nat.le_of_ble_eq_true rfl) ?_
  have hK : pj_kpt kc_84_s4 G0 G0 := pj_kpt_r _ _
  show pj_X _ _ G0 0 [(0, .ref 2), (1, .retAddr 4)] [] _
  refine pj_X_of (fun r h => pj_R_to (G0, 2, [(2, .int (Int32.ofInt 0)), (0, .ref 2), (1, .retAddr 4)], [], 0, 0) 2 3 (fun _ => rfl) h) ?_
  exact pj_X_sub [(0, .ref 2), (1, .retAddr 4), (2, .int (Int32.ofInt 0))] (show List.Nodup [0, 1, 2] by decide) ⟨rfl, rfl, rfl, trivial⟩ ((lp_ct_84_s4 G0 hI   5) G0 hI hK (Int32.ofInt 0) ⟨by omega, by omega⟩ (by omega))
def kc_84_s5 : pj_KT := ([(2, 3)], [2], [])
theorem lp_ct_84_s5 (G0 : pj_G) (hI0 : pj_Inv G0) : ∀ mn : Nat, (∀ (G : pj_G) (hI : pj_Inv G) (hK : pj_kpt kc_84_s5 G0 G) (v2 : Int32), ((0 : Int) ≤ v2.toInt ∧ v2.toInt ≤ 3) → 3 - v2.toInt < (mn : Int) → pj_X 14 pj_m84 G 2 [(0, .ref 2), (1, .retAddr 5), (2, .int v2)] [] (fun v G' => ∃ y : Int32, v = some (.int y) ∧ pj_Inv G' ∧ pj_kpt kc_84_s5 G0 G' ∧ ((-1 : Int) ≤ y.toInt ∧ y.toInt ≤ 255))) := by
  have c0_ : (Int32.ofInt (-1)).toInt = -1 := by decide
  have c1_ : (Int32.ofInt 0).toInt = 0 := by decide
  have c2_ : (Int32.ofInt 1).toInt = 1 := by decide
  intro mn
  induction mn with
  | zero =>
    intro G hI hK v2 rv2 hm
    exfalso
    omega
  | succ mn ih =>
    intro G hI hK v2 rv2 hm
    refine pj_X_of (fun r h => pj_R_to (G, 4, [(0, .ref 2), (1, .retAddr 5), (2, .int v2)], [.retAddr 5, .int v2], 0, 0) 4 3 (fun _ => rfl) h) ?_
    refine pj_X_ca (vs := [.retAddr 5]) rfl (fun _ => rfl) ⟨Nat.le_of_ble_eq_true rfl, Nat.le_of_ble_eq_true rfl, rfl⟩ ⟨rfl, rfl⟩ (pj_Y_up (by decide) (ct_288_s5 G hI)) ?_
    rintro _ _ ⟨y1, rfl, rfl, ry1⟩
    show pj_X _ _ G 7 [(0, .ref 2), (1, .retAddr 5), (2, .int v2)] [.int y1, .int v2] _
    cases b2 : pj_c1 .ge v2 y1 with
    | true =>
      have ub2 := pj_u_geT b2
      refine pj_X_of (fun r h => pj_R_icT 34 rfl rfl b2 h) ?_
      refine pj_X_of (fun r h => pj_R_to (G, 35, [(0, .ref 2), (1, .retAddr 5), (2, .int v2)], [.int (Int32.ofInt (-1))], 0, 0) 35 2 (fun _ => rfl) h) ?_
      exact pj_X_rt rfl rfl ⟨_, rfl, hI, hK, ⟨by omega, by omega⟩⟩
    | false =>
      have ub2 := pj_u_geF b2
      refine pj_X_of (fun r h => pj_R_icF rfl b2 h) ?_
      refine pj_X_of (fun r h => pj_R_to (G, 13, [(0, .ref 2), (1, .retAddr 5), (2, .int v2)], [.int v2, .retAddr 5, .ref 2], 0, 0) 13 4 (fun _ => rfl) h) ?_
      refine pj_X_ca (vs := [.retAddr 5, .int v2]) rfl (fun _ => rfl) ⟨Nat.le_of_ble_eq_true rfl, Nat.le_of_ble_eq_true rfl, rfl⟩ ⟨rfl, rfl⟩ (pj_Y_up (by decide) (ct_289_s5 G hI v2 ⟨by omega, by omega⟩)) ?_
      rintro _ _ ⟨y3, rfl, rfl, ry3⟩
      show pj_X _ _ G 16 [(0, .ref 2), (1, .retAddr 5), (2, .int v2)] [.int y3, .ref 2] _
      refine pj_X_ca (vs := [.ref 2, .int y3]) rfl (fun _ => rfl) ⟨Nat.le_of_ble_eq_true rfl, Nat.le_of_ble_eq_true rfl, pj_T_rcv hI rfl⟩ ⟨rfl, rfl⟩ (pj_Y_up (by decide) (ct_82 G hI y3 ⟨by omega, by omega⟩)) ?_
      rintro _ G5 ⟨y4, rfl, iG5, jG5, ry4⟩
      have kG5 : pj_kpt kc_84_s5 G0 G5 := pj_kpt_t hK (pj_kpt_s jG5 rfl)
      show pj_X _ _ G5 19 [(0, .ref 2), (1, .retAddr 5), (2, .int v2)] [.int y4] _
      cases b6 : pj_c1 .eq y4 0 with
      | true =>
        have ub6 := pj_u0_eqT b6
        refine pj_X_of (fun r h => pj_R_ifT 28 rfl rfl b6 h) ?_
        refine pj_X_of (fun r h => pj_R_to (G5, 31, [(2, .int (v2 + Int32.ofInt 1)), (0, .ref 2), (1, .retAddr 5)], [], 0, 0) 31 2 (fun _ => rfl) h) ?_
        obtain ⟨z7, hz7⟩ : ∃ z : Int32, z = v2 + Int32.ofInt 1 := ⟨_, rfl⟩
        rw [← hz7]
        have fz7_0 : z7.toInt = v2.toInt + (Int32.ofInt 1).toInt := by rw [hz7]; exact pj_addI (by have := pj_i32 v2; have := pj_i32 (Int32.ofInt 1); omega) (by have := pj_i32 v2; have := pj_i32 (Int32.ofInt 1); omega)
        refine pj_X_of (fun r h => pj_R_to (G5, 2, [(2, .int z7), (0, .ref 2), (1, .retAddr 5)], [], 0, 0) 2 2 (fun _ => rfl) h) ?_
        exact pj_X_sub [(0, .ref 2), (1, .retAddr 5), (2, .int z7)] (show List.Nodup [0, 1, 2] by decide) ⟨rfl, rfl, rfl, trivial⟩ (ih G5 iG5 kG5 z7 ⟨by omega, by omega⟩ (by omega))
      | false =>
        have ub6 := pj_u0_eqF b6
        refine pj_X_of (fun r h => pj_R_ifF rfl b6 h) ?_
        refine pj_X_of (fun r h => pj_R_to (G5, 24, [(0, .ref 2), (1, .retAddr 5), (2, .int v2)], [.int v2, .retAddr 5], 0, 0) 24 3 (fun _ => rfl) h) ?_
        refine pj_X_ca (vs := [.retAddr 5, .int v2]) rfl (fun _ => rfl) ⟨Nat.le_of_ble_eq_true rfl, Nat.le_of_ble_eq_true rfl, rfl⟩ ⟨rfl, rfl⟩ (pj_Y_up (by decide) (ct_289_s5 G5 iG5 v2 ⟨by omega, by omega⟩)) ?_
        rintro _ _ ⟨y8, rfl, rfl, ry8⟩
        show pj_X _ _ G5 27 [(0, .ref 2), (1, .retAddr 5), (2, .int v2)] [.int y8] _
        exact pj_X_rt rfl rfl ⟨_, rfl, iG5, kG5, ⟨by omega, by omega⟩⟩
theorem ct_84_s5 (G0 : pj_G) (hI : pj_Inv G0) : pj_Y 15 84 [.ref 2, .retAddr 5] G0 (fun v G' => ∃ y : Int32, v = some (.int y) ∧ pj_Inv G' ∧ pj_kpt kc_84_s5 G0 G' ∧ ((-1 : Int) ≤ y.toInt ∧ y.toInt ≤ 255)) := by
  have c0_ : (Int32.ofInt (-1)).toInt = -1 := by decide
  have c1_ : (Int32.ofInt 0).toInt = 0 := by decide
  have c2_ : (Int32.ofInt 1).toInt = 1 := by decide
  refine pj_Y_X (M := pj_m84) rfl rfl (Nat.le_of_ble_eq_true rfl) ?_
  have hK : pj_kpt kc_84_s5 G0 G0 := pj_kpt_r _ _
  show pj_X _ _ G0 0 [(0, .ref 2), (1, .retAddr 5)] [] _
  refine pj_X_of (fun r h => pj_R_to (G0, 2, [(2, .int (Int32.ofInt 0)), (0, .ref 2), (1, .retAddr 5)], [], 0, 0) 2 3 (fun _ => rfl) h) ?_
  exact pj_X_sub [(0, .ref 2), (1, .retAddr 5), (2, .int (Int32.ofInt 0))] (show List.Nodup [0, 1, 2] by decide) ⟨rfl, rfl, rfl, trivial⟩ ((lp_ct_84_s5 G0 hI   4) G0 hI hK (Int32.ofInt 0) ⟨by omega, by omega⟩ (by omega))
def kc_84_s6 : pj_KT := ([(2, 3)], [2], [])
theorem lp_ct_84_s6 (G0 : pj_G) (hI0 : pj_Inv G0) : ∀ mn : Nat, (∀ (G : pj_G) (hI : pj_Inv G) (hK : pj_kpt kc_84_s6 G0 G) (v2 : Int32), ((0 : Int) ≤ v2.toInt ∧ v2.toInt ≤ 2) → 2 - v2.toInt < (mn : Int) → pj_X 14 pj_m84 G 2 [(0, .ref 2), (1, .retAddr 6), (2, .int v2)] [] (fun v G' => ∃ y : Int32, v = some (.int y) ∧ pj_Inv G' ∧ pj_kpt kc_84_s6 G0 G' ∧ ((-1 : Int) ≤ y.toInt ∧ y.toInt ≤ 255))) := by
  have c0_ : (Int32.ofInt (-1)).toInt = -1 := by decide
  have c1_ : (Int32.ofInt 0).toInt = 0 := by decide
  have c2_ : (Int32.ofInt 1).toInt = 1 := by decide
  intro mn
  induction mn with
  | zero =>
    intro G hI hK v2 rv2 hm
    exfalso
    omega
  | succ mn ih =>
    intro G hI hK v2 rv2 hm
    refine pj_X_of (fun r h => pj_R_to (G, 4, [(0, .ref 2), (1, .retAddr 6), (2, .int v2)], [.retAddr 6, .int v2], 0, 0) 4 3 (fun _ => rfl) h) ?_
    refine pj_X_ca (vs := [.retAddr 6]) rfl (fun _ => rfl) ⟨Nat.le_of_ble_eq_true rfl, Nat.le_of_ble_eq_true rfl, rfl⟩ ⟨rfl, rfl⟩ (pj_Y_up (by decide) (ct_288_s6 G hI)) ?_
    rintro _ _ ⟨y1, rfl, rfl, ry1⟩
    show pj_X _ _ G 7 [(0, .ref 2), (1, .retAddr 6), (2, .int v2)] [.int y1, .int v2] _
    cases b2 : pj_c1 .ge v2 y1 with
    | true =>
      have ub2 := pj_u_geT b2
      refine pj_X_of (fun r h => pj_R_icT 34 rfl rfl b2 h) ?_
      refine pj_X_of (fun r h => pj_R_to (G, 35, [(0, .ref 2), (1, .retAddr 6), (2, .int v2)], [.int (Int32.ofInt (-1))], 0, 0) 35 2 (fun _ => rfl) h) ?_
      exact pj_X_rt rfl rfl ⟨_, rfl, hI, hK, ⟨by omega, by omega⟩⟩
    | false =>
      have ub2 := pj_u_geF b2
      refine pj_X_of (fun r h => pj_R_icF rfl b2 h) ?_
      refine pj_X_of (fun r h => pj_R_to (G, 13, [(0, .ref 2), (1, .retAddr 6), (2, .int v2)], [.int v2, .retAddr 6, .ref 2], 0, 0) 13 4 (fun _ => rfl) h) ?_
      refine pj_X_ca (vs := [.retAddr 6, .int v2]) rfl (fun _ => rfl) ⟨Nat.le_of_ble_eq_true rfl, Nat.le_of_ble_eq_true rfl, rfl⟩ ⟨rfl, rfl⟩ (pj_Y_up (by decide) (ct_289_s6 G hI v2 ⟨by omega, by omega⟩)) ?_
      rintro _ _ ⟨y3, rfl, rfl, ry3⟩
      show pj_X _ _ G 16 [(0, .ref 2), (1, .retAddr 6), (2, .int v2)] [.int y3, .ref 2] _
      refine pj_X_ca (vs := [.ref 2, .int y3]) rfl (fun _ => rfl) ⟨Nat.le_of_ble_eq_true rfl, Nat.le_of_ble_eq_true rfl, pj_T_rcv hI rfl⟩ ⟨rfl, rfl⟩ (pj_Y_up (by decide) (ct_82 G hI y3 ⟨by omega, by omega⟩)) ?_
      rintro _ G5 ⟨y4, rfl, iG5, jG5, ry4⟩
      have kG5 : pj_kpt kc_84_s6 G0 G5 := pj_kpt_t hK (pj_kpt_s jG5 rfl)
      show pj_X _ _ G5 19 [(0, .ref 2), (1, .retAddr 6), (2, .int v2)] [.int y4] _
      cases b6 : pj_c1 .eq y4 0 with
      | true =>
        have ub6 := pj_u0_eqT b6
        refine pj_X_of (fun r h => pj_R_ifT 28 rfl rfl b6 h) ?_
        refine pj_X_of (fun r h => pj_R_to (G5, 31, [(2, .int (v2 + Int32.ofInt 1)), (0, .ref 2), (1, .retAddr 6)], [], 0, 0) 31 2 (fun _ => rfl) h) ?_
        obtain ⟨z7, hz7⟩ : ∃ z : Int32, z = v2 + Int32.ofInt 1 := ⟨_, rfl⟩
        rw [← hz7]
        have fz7_0 : z7.toInt = v2.toInt + (Int32.ofInt 1).toInt := by rw [hz7]; exact pj_addI (by have := pj_i32 v2; have := pj_i32 (Int32.ofInt 1); omega) (by have := pj_i32 v2; have := pj_i32 (Int32.ofInt 1); omega)
        refine pj_X_of (fun r h => pj_R_to (G5, 2, [(2, .int z7), (0, .ref 2), (1, .retAddr 6)], [], 0, 0) 2 2 (fun _ => rfl) h) ?_
        exact pj_X_sub [(0, .ref 2), (1, .retAddr 6), (2, .int z7)] (show List.Nodup [0, 1, 2] by decide) ⟨rfl, rfl, rfl, trivial⟩ (ih G5 iG5 kG5 z7 ⟨by omega, by omega⟩ (by omega))
      | false =>
        have ub6 := pj_u0_eqF b6
        refine pj_X_of (fun r h => pj_R_ifF rfl b6 h) ?_
        refine pj_X_of (fun r h => pj_R_to (G5, 24, [(0, .ref 2), (1, .retAddr 6), (2, .int v2)], [.int v2, .retAddr 6], 0, 0) 24 3 (fun _ => rfl) h) ?_
        refine pj_X_ca (vs := [.retAddr 6, .int v2]) rfl (fun _ => rfl) ⟨Nat.le_of_ble_eq_true rfl, Nat.le_of_ble_eq_true rfl, rfl⟩ ⟨rfl, rfl⟩ (pj_Y_up (by decide) (ct_289_s6 G5 iG5 v2 ⟨by omega, by omega⟩)) ?_
        rintro _ _ ⟨y8, rfl, rfl, ry8⟩
        show pj_X _ _ G5 27 [(0, .ref 2), (1, .retAddr 6), (2, .int v2)] [.int y8] _
        exact pj_X_rt rfl rfl ⟨_, rfl, iG5, kG5, ⟨by omega, by omega⟩⟩
theorem ct_84_s6 (G0 : pj_G) (hI : pj_Inv G0) : pj_Y 15 84 [.ref 2, .retAddr 6] G0 (fun v G' => ∃ y : Int32, v = some (.int y) ∧ pj_Inv G' ∧ pj_kpt kc_84_s6 G0 G' ∧ ((-1 : Int) ≤ y.toInt ∧ y.toInt ≤ 255)) := by
  have c0_ : (Int32.ofInt (-1)).toInt = -1 := by decide
  have c1_ : (Int32.ofInt 0).toInt = 0 := by decide
  have c2_ : (Int32.ofInt 1).toInt = 1 := by decide
  refine pj_Y_X (M := pj_m84) rfl rfl (Nat.le_of_ble_eq_true rfl) ?_
  have hK : pj_kpt kc_84_s6 G0 G0 := pj_kpt_r _ _
  show pj_X _ _ G0 0 [(0, .ref 2), (1, .retAddr 6)] [] _
  refine pj_X_of (fun r h => pj_R_to (G0, 2, [(2, .int (Int32.ofInt 0)), (0, .ref 2), (1, .retAddr 6)], [], 0, 0) 2 3 (fun _ => rfl) h) ?_
  exact pj_X_sub [(0, .ref 2), (1, .retAddr 6), (2, .int (Int32.ofInt 0))] (show List.Nodup [0, 1, 2] by decide) ⟨rfl, rfl, rfl, trivial⟩ ((lp_ct_84_s6 G0 hI   3) G0 hI hK (Int32.ofInt 0) ⟨by omega, by omega⟩ (by omega))
def kc_84_s7 : pj_KT := ([(2, 3)], [2], [])
theorem lp_ct_84_s7 (G0 : pj_G) (hI0 : pj_Inv G0) : ∀ mn : Nat, (∀ (G : pj_G) (hI : pj_Inv G) (hK : pj_kpt kc_84_s7 G0 G) (v2 : Int32), ((0 : Int) ≤ v2.toInt ∧ v2.toInt ≤ 2) → 2 - v2.toInt < (mn : Int) → pj_X 14 pj_m84 G 2 [(0, .ref 2), (1, .retAddr 7), (2, .int v2)] [] (fun v G' => ∃ y : Int32, v = some (.int y) ∧ pj_Inv G' ∧ pj_kpt kc_84_s7 G0 G' ∧ ((-1 : Int) ≤ y.toInt ∧ y.toInt ≤ 255))) := by
  have c0_ : (Int32.ofInt (-1)).toInt = -1 := by decide
  have c1_ : (Int32.ofInt 0).toInt = 0 := by decide
  have c2_ : (Int32.ofInt 1).toInt = 1 := by decide
  intro mn
  induction mn with
  | zero =>
    intro G hI hK v2 rv2 hm
    exfalso
    omega
  | succ mn ih =>
    intro G hI hK v2 rv2 hm
    refine pj_X_of (fun r h => pj_R_to (G, 4, [(0, .ref 2), (1, .retAddr 7), (2, .int v2)], [.retAddr 7, .int v2], 0, 0) 4 3 (fun _ => rfl) h) ?_
    refine pj_X_ca (vs := [.retAddr 7]) rfl (fun _ => rfl) ⟨Nat.le_of_ble_eq_true rfl, Nat.le_of_ble_eq_true rfl, rfl⟩ ⟨rfl, rfl⟩ (pj_Y_up (by decide) (ct_288_s7 G hI)) ?_
    rintro _ _ ⟨y1, rfl, rfl, ry1⟩
    show pj_X _ _ G 7 [(0, .ref 2), (1, .retAddr 7), (2, .int v2)] [.int y1, .int v2] _
    cases b2 : pj_c1 .ge v2 y1 with
    | true =>
      have ub2 := pj_u_geT b2
      refine pj_X_of (fun r h => pj_R_icT 34 rfl rfl b2 h) ?_
      refine pj_X_of (fun r h => pj_R_to (G, 35, [(0, .ref 2), (1, .retAddr 7), (2, .int v2)], [.int (Int32.ofInt (-1))], 0, 0) 35 2 (fun _ => rfl) h) ?_
      exact pj_X_rt rfl rfl ⟨_, rfl, hI, hK, ⟨by omega, by omega⟩⟩
    | false =>
      have ub2 := pj_u_geF b2
      refine pj_X_of (fun r h => pj_R_icF rfl b2 h) ?_
      refine pj_X_of (fun r h => pj_R_to (G, 13, [(0, .ref 2), (1, .retAddr 7), (2, .int v2)], [.int v2, .retAddr 7, .ref 2], 0, 0) 13 4 (fun _ => rfl) h) ?_
      refine pj_X_ca (vs := [.retAddr 7, .int v2]) rfl (fun _ => rfl) ⟨Nat.le_of_ble_eq_true rfl, Nat.le_of_ble_eq_true rfl, rfl⟩ ⟨rfl, rfl⟩ (pj_Y_up (by decide) (ct_289_s7 G hI v2 ⟨by omega, by omega⟩)) ?_
      rintro _ _ ⟨y3, rfl, rfl, ry3⟩
      show pj_X _ _ G 16 [(0, .ref 2), (1, .retAddr 7), (2, .int v2)] [.int y3, .ref 2] _
      refine pj_X_ca (vs := [.ref 2, .int y3]) rfl (fun _ => rfl) ⟨Nat.le_of_ble_eq_true rfl, Nat.le_of_ble_eq_true rfl, pj_T_rcv hI rfl⟩ ⟨rfl, rfl⟩ (pj_Y_up (by decide) (ct_82 G hI y3 ⟨by omega, by omega⟩)) ?_
      rintro _ G5 ⟨y4, rfl, iG5, jG5, ry4⟩
      have kG5 : pj_kpt kc_84_s7 G0 G5 := pj_kpt_t hK (pj_kpt_s jG5 rfl)
      show pj_X _ _ G5 19 [(0, .ref 2), (1, .retAddr 7), (2, .int v2)] [.int y4] _
      cases b6 : pj_c1 .eq y4 0 with
      | true =>
        have ub6 := pj_u0_eqT b6
        refine pj_X_of (fun r h => pj_R_ifT 28 rfl rfl b6 h) ?_
        refine pj_X_of (fun r h => pj_R_to (G5, 31, [(2, .int (v2 + Int32.ofInt 1)), (0, .ref 2), (1, .retAddr 7)], [], 0, 0) 31 2 (fun _ => rfl) h) ?_
        obtain ⟨z7, hz7⟩ : ∃ z : Int32, z = v2 + Int32.ofInt 1 := ⟨_, rfl⟩
        rw [← hz7]
        have fz7_0 : z7.toInt = v2.toInt + (Int32.ofInt 1).toInt := by rw [hz7]; exact pj_addI (by have := pj_i32 v2; have := pj_i32 (Int32.ofInt 1); omega) (by have := pj_i32 v2; have := pj_i32 (Int32.ofInt 1); omega)
        refine pj_X_of (fun r h => pj_R_to (G5, 2, [(2, .int z7), (0, .ref 2), (1, .retAddr 7)], [], 0, 0) 2 2 (fun _ => rfl) h) ?_
        exact pj_X_sub [(0, .ref 2), (1, .retAddr 7), (2, .int z7)] (show List.Nodup [0, 1, 2] by decide) ⟨rfl, rfl, rfl, trivial⟩ (ih G5 iG5 kG5 z7 ⟨by omega, by omega⟩ (by omega))
      | false =>
        have ub6 := pj_u0_eqF b6
        refine pj_X_of (fun r h => pj_R_ifF rfl b6 h) ?_
        refine pj_X_of (fun r h => pj_R_to (G5, 24, [(0, .ref 2), (1, .retAddr 7), (2, .int v2)], [.int v2, .retAddr 7], 0, 0) 24 3 (fun _ => rfl) h) ?_
        refine pj_X_ca (vs := [.retAddr 7, .int v2]) rfl (fun _ => rfl) ⟨Nat.le_of_ble_eq_true rfl, Nat.le_of_ble_eq_true rfl, rfl⟩ ⟨rfl, rfl⟩ (pj_Y_up (by decide) (ct_289_s7 G5 iG5 v2 ⟨by omega, by omega⟩)) ?_
        rintro _ _ ⟨y8, rfl, rfl, ry8⟩
        show pj_X _ _ G5 27 [(0, .ref 2), (1, .retAddr 7), (2, .int v2)] [.int y8] _
        exact pj_X_rt rfl rfl ⟨_, rfl, iG5, kG5, ⟨by omega, by omega⟩⟩
theorem ct_84_s7 (G0 : pj_G) (hI : pj_Inv G0) : pj_Y 15 84 [.ref 2, .retAddr 7] G0 (fun v G' => ∃ y : Int32, v = some (.int y) ∧ pj_Inv G' ∧ pj_kpt kc_84_s7 G0 G' ∧ ((-1 : Int) ≤ y.toInt ∧ y.toInt ≤ 255)) := by
  have c0_ : (Int32.ofInt (-1)).toInt = -1 := by decide
  have c1_ : (Int32.ofInt 0).toInt = 0 := by decide
  have c2_ : (Int32.ofInt 1).toInt = 1 := by decide
  refine pj_Y_X (M := pj_m84) rfl rfl (Nat.le_of_ble_eq_true rfl) ?_
  have hK : pj_kpt kc_84_s7 G0 G0 := pj_kpt_r _ _
  show pj_X _ _ G0 0 [(0, .ref 2), (1, .retAddr 7)] [] _
  refine pj_X_of (fun r h => pj_R_to (G0, 2, [(2, .int (Int32.ofInt 0)), (0, .ref 2), (1, .retAddr 7)], [], 0, 0) 2 3 (fun _ => rfl) h) ?_
  exact pj_X_sub [(0, .ref 2), (1, .retAddr 7), (2, .int (Int32.ofInt 0))] (show List.Nodup [0, 1, 2] by decide) ⟨rfl, rfl, rfl, trivial⟩ ((lp_ct_84_s7 G0 hI   3) G0 hI hK (Int32.ofInt 0) ⟨by omega, by omega⟩ (by omega))
def kc_84_s8 : pj_KT := ([(2, 3)], [2], [])
theorem lp_ct_84_s8 (G0 : pj_G) (hI0 : pj_Inv G0) : ∀ mn : Nat, (∀ (G : pj_G) (hI : pj_Inv G) (hK : pj_kpt kc_84_s8 G0 G) (v2 : Int32), ((0 : Int) ≤ v2.toInt ∧ v2.toInt ≤ 7) → 7 - v2.toInt < (mn : Int) → pj_X 14 pj_m84 G 2 [(0, .ref 2), (1, .retAddr 8), (2, .int v2)] [] (fun v G' => ∃ y : Int32, v = some (.int y) ∧ pj_Inv G' ∧ pj_kpt kc_84_s8 G0 G' ∧ ((-1 : Int) ≤ y.toInt ∧ y.toInt ≤ 255))) := by
  have c0_ : (Int32.ofInt (-1)).toInt = -1 := by decide
  have c1_ : (Int32.ofInt 0).toInt = 0 := by decide
  have c2_ : (Int32.ofInt 1).toInt = 1 := by decide
  intro mn
  induction mn with
  | zero =>
    intro G hI hK v2 rv2 hm
    exfalso
    omega
  | succ mn ih =>
    intro G hI hK v2 rv2 hm
    refine pj_X_of (fun r h => pj_R_to (G, 4, [(0, .ref 2), (1, .retAddr 8), (2, .int v2)], [.retAddr 8, .int v2], 0, 0) 4 3 (fun _ => rfl) h) ?_
    refine pj_X_ca (vs := [.retAddr 8]) rfl (fun _ => rfl) ⟨Nat.le_of_ble_eq_true rfl, Nat.le_of_ble_eq_true rfl, rfl⟩ ⟨rfl, rfl⟩ (pj_Y_up (by decide) (ct_288_s8 G hI)) ?_
    rintro _ _ ⟨y1, rfl, rfl, ry1⟩
    show pj_X _ _ G 7 [(0, .ref 2), (1, .retAddr 8), (2, .int v2)] [.int y1, .int v2] _
    cases b2 : pj_c1 .ge v2 y1 with
    | true =>
      have ub2 := pj_u_geT b2
      refine pj_X_of (fun r h => pj_R_icT 34 rfl rfl b2 h) ?_
      refine pj_X_of (fun r h => pj_R_to (G, 35, [(0, .ref 2), (1, .retAddr 8), (2, .int v2)], [.int (Int32.ofInt (-1))], 0, 0) 35 2 (fun _ => rfl) h) ?_
      exact pj_X_rt rfl rfl ⟨_, rfl, hI, hK, ⟨by omega, by omega⟩⟩
    | false =>
      have ub2 := pj_u_geF b2
      refine pj_X_of (fun r h => pj_R_icF rfl b2 h) ?_
      refine pj_X_of (fun r h => pj_R_to (G, 13, [(0, .ref 2), (1, .retAddr 8), (2, .int v2)], [.int v2, .retAddr 8, .ref 2], 0, 0) 13 4 (fun _ => rfl) h) ?_
      refine pj_X_ca (vs := [.retAddr 8, .int v2]) rfl (fun _ => rfl) ⟨Nat.le_of_ble_eq_true rfl, Nat.le_of_ble_eq_true rfl, rfl⟩ ⟨rfl, rfl⟩ (pj_Y_up (by decide) (ct_289_s8 G hI v2 ⟨by omega, by omega⟩)) ?_
      rintro _ _ ⟨y3, rfl, rfl, ry3⟩
      show pj_X _ _ G 16 [(0, .ref 2), (1, .retAddr 8), (2, .int v2)] [.int y3, .ref 2] _
      refine pj_X_ca (vs := [.ref 2, .int y3]) rfl (fun _ => rfl) ⟨Nat.le_of_ble_eq_true rfl, Nat.le_of_ble_eq_true rfl, pj_T_rcv hI rfl⟩ ⟨rfl, rfl⟩ (pj_Y_up (by decide) (ct_82 G hI y3 ⟨by omega, by omega⟩)) ?_
      rintro _ G5 ⟨y4, rfl, iG5, jG5, ry4⟩
      have kG5 : pj_kpt kc_84_s8 G0 G5 := pj_kpt_t hK (pj_kpt_s jG5 rfl)
      show pj_X _ _ G5 19 [(0, .ref 2), (1, .retAddr 8), (2, .int v2)] [.int y4] _
      cases b6 : pj_c1 .eq y4 0 with
      | true =>
        have ub6 := pj_u0_eqT b6
        refine pj_X_of (fun r h => pj_R_ifT 28 rfl rfl b6 h) ?_
        refine pj_X_of (fun r h => pj_R_to (G5, 31, [(2, .int (v2 + Int32.ofInt 1)), (0, .ref 2), (1, .retAddr 8)], [], 0, 0) 31 2 (fun _ => rfl) h) ?_
        obtain ⟨z7, hz7⟩ : ∃ z : Int32, z = v2 + Int32.ofInt 1 := ⟨_, rfl⟩
        rw [← hz7]
        have fz7_0 : z7.toInt = v2.toInt + (Int32.ofInt 1).toInt := by rw [hz7]; exact pj_addI (by have := pj_i32 v2; have := pj_i32 (Int32.ofInt 1); omega) (by have := pj_i32 v2; have := pj_i32 (Int32.ofInt 1); omega)
        refine pj_X_of (fun r h => pj_R_to (G5, 2, [(2, .int z7), (0, .ref 2), (1, .retAddr 8)], [], 0, 0) 2 2 (fun _ => rfl) h) ?_
        exact pj_X_sub [(0, .ref 2), (1, .retAddr 8), (2, .int z7)] (show List.Nodup [0, 1, 2] by decide) ⟨rfl, rfl, rfl, trivial⟩ (ih G5 iG5 kG5 z7 ⟨by omega, by omega⟩ (by omega))
      | false =>
        have ub6 := pj_u0_eqF b6
        refine pj_X_of (fun r h => pj_R_ifF rfl b6 h) ?_
        refine pj_X_of (fun r h => pj_R_to (G5, 24, [(0, .ref 2), (1, .retAddr 8), (2, .int v2)], [.int v2, .retAddr 8], 0, 0) 24 3 (fun _ => rfl) h) ?_
        refine pj_X_ca (vs := [.retAddr 8, .int v2]) rfl (fun _ => rfl) ⟨Nat.le_of_ble_eq_true rfl, Nat.le_of_ble_eq_true rfl, rfl⟩ ⟨rfl, rfl⟩ (pj_Y_up (by decide) (ct_289_s8 G5 iG5 v2 ⟨by omega, by omega⟩)) ?_
        rintro _ _ ⟨y8, rfl, rfl, ry8⟩
        show pj_X _ _ G5 27 [(0, .ref 2), (1, .retAddr 8), (2, .int v2)] [.int y8] _
        exact pj_X_rt rfl rfl ⟨_, rfl, iG5, kG5, ⟨by omega, by omega⟩⟩
theorem ct_84_s8 (G0 : pj_G) (hI : pj_Inv G0) : pj_Y 15 84 [.ref 2, .retAddr 8] G0 (fun v G' => ∃ y : Int32, v = some (.int y) ∧ pj_Inv G' ∧ pj_kpt kc_84_s8 G0 G' ∧ ((-1 : Int) ≤ y.toInt ∧ y.toInt ≤ 255)) := by
  have c0_ : (Int32.ofInt (-1)).toInt = -1 := by decide
  have c1_ : (Int32.ofInt 0).toInt = 0 := by decide
  have c2_ : (Int32.ofInt 1).toInt = 1 := by decide
  refine pj_Y_X (M := pj_m84) rfl rfl (Nat.le_of_ble_eq_true rfl) ?_
  have hK : pj_kpt kc_84_s8 G0 G0 := pj_kpt_r _ _
  show pj_X _ _ G0 0 [(0, .ref 2), (1, .retAddr 8)] [] _
  refine pj_X_of (fun r h => pj_R_to (G0, 2, [(2, .int (Int32.ofInt 0)), (0, .ref 2), (1, .retAddr 8)], [], 0, 0) 2 3 (fun _ => rfl) h) ?_
  exact pj_X_sub [(0, .ref 2), (1, .retAddr 8), (2, .int (Int32.ofInt 0))] (show List.Nodup [0, 1, 2] by decide) ⟨rfl, rfl, rfl, trivial⟩ ((lp_ct_84_s8 G0 hI   8) G0 hI hK (Int32.ofInt 0) ⟨by omega, by omega⟩ (by omega))
theorem ct_61_0 (G0 : pj_G) (hI : pj_Inv G0) (lv : Int32) (rlv : (0 : Int) ≤ lv.toInt ∧ lv.toInt ≤ 0) : pj_Y 1 61 [.int lv] G0 (fun v G' => v = some (.retAddr 5) ∧ G0 = G') := by
  refine pj_Y_X (M := pj_m61) rfl rfl (Nat.le_of_ble_eq_true rfl) ?_
  have hK : pj_kpt ([], [], []) G0 G0 := pj_kpt_r _ _
  show pj_X _ _ G0 0 [(0, .int lv)] [] _
  refine pj_X_of (fun r h => pj_R_to (G0, 1, [(0, .int lv)], [.int lv], 0, 0) 1 2 (fun _ => rfl) h) ?_
  refine pj_X_of (fun r h => pj_R_lw 28 rfl (n := 0) (by omega) rfl h) ?_
  refine pj_X_of (fun r h => pj_R_to (G0, 30, [(0, .int lv)], [.retAddr 5], 0, 0) 30 2 (fun _ => rfl) h) ?_
  exact pj_X_rt rfl rfl ⟨rfl, rfl⟩
theorem ct_61_1 (G0 : pj_G) (hI : pj_Inv G0) (lv : Int32) (rlv : (1 : Int) ≤ lv.toInt ∧ lv.toInt ≤ 1) : pj_Y 1 61 [.int lv] G0 (fun v G' => v = some (.retAddr 6) ∧ G0 = G') := by
  refine pj_Y_X (M := pj_m61) rfl rfl (Nat.le_of_ble_eq_true rfl) ?_
  have hK : pj_kpt ([], [], []) G0 G0 := pj_kpt_r _ _
  show pj_X _ _ G0 0 [(0, .int lv)] [] _
  refine pj_X_of (fun r h => pj_R_to (G0, 1, [(0, .int lv)], [.int lv], 0, 0) 1 2 (fun _ => rfl) h) ?_
  refine pj_X_of (fun r h => pj_R_lw 31 rfl (n := 1) (by omega) rfl h) ?_
  refine pj_X_of (fun r h => pj_R_to (G0, 33, [(0, .int lv)], [.retAddr 6], 0, 0) 33 2 (fun _ => rfl) h) ?_
  exact pj_X_rt rfl rfl ⟨rfl, rfl⟩
theorem ct_61_2 (G0 : pj_G) (hI : pj_Inv G0) (lv : Int32) (rlv : (2 : Int) ≤ lv.toInt ∧ lv.toInt ≤ 2) : pj_Y 1 61 [.int lv] G0 (fun v G' => v = some (.retAddr 7) ∧ G0 = G') := by
  refine pj_Y_X (M := pj_m61) rfl rfl (Nat.le_of_ble_eq_true rfl) ?_
  have hK : pj_kpt ([], [], []) G0 G0 := pj_kpt_r _ _
  show pj_X _ _ G0 0 [(0, .int lv)] [] _
  refine pj_X_of (fun r h => pj_R_to (G0, 1, [(0, .int lv)], [.int lv], 0, 0) 1 2 (fun _ => rfl) h) ?_
  refine pj_X_of (fun r h => pj_R_ld 34 rfl ⟨by show ¬ (0 : Int) = _; omega, by show ¬ (1 : Int) = _; omega, trivial⟩ rfl h) ?_
  refine pj_X_of (fun r h => pj_R_to (G0, 36, [(0, .int lv)], [.retAddr 7], 0, 0) 36 2 (fun _ => rfl) h) ?_
  exact pj_X_rt rfl rfl ⟨rfl, rfl⟩
