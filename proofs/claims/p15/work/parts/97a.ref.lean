theorem pj_bcN : ∀ k : Nat, k < 1024 → 0 ≤ (((((((((Int32.ofInt (k : Nat)) - ((((Int32.ofInt (k : Nat)).toUInt32 >>> ((Int32.ofInt 1).toUInt32 &&& Int32.toUInt32 31)).toInt32) &&& (Int32.ofInt 1431655765))) &&& (Int32.ofInt 858993459)) + (((((Int32.ofInt (k : Nat)) - ((((Int32.ofInt (k : Nat)).toUInt32 >>> ((Int32.ofInt 1).toUInt32 &&& Int32.toUInt32 31)).toInt32) &&& (Int32.ofInt 1431655765))).toUInt32 >>> ((Int32.ofInt 2).toUInt32 &&& Int32.toUInt32 31)).toInt32) &&& (Int32.ofInt 858993459))) + ((((((Int32.ofInt (k : Nat)) - ((((Int32.ofInt (k : Nat)).toUInt32 >>> ((Int32.ofInt 1).toUInt32 &&& Int32.toUInt32 31)).toInt32) &&& (Int32.ofInt 1431655765))) &&& (Int32.ofInt 858993459)) + (((((Int32.ofInt (k : Nat)) - ((((Int32.ofInt (k : Nat)).toUInt32 >>> ((Int32.ofInt 1).toUInt32 &&& Int32.toUInt32 31)).toInt32) &&& (Int32.ofInt 1431655765))).toUInt32 >>> ((Int32.ofInt 2).toUInt32 &&& Int32.toUInt32 31)).toInt32) &&& (Int32.ofInt 858993459))).toUInt32 >>> ((Int32.ofInt 4).toUInt32 &&& Int32.toUInt32 31)).toInt32)) &&& (Int32.ofInt 252645135)) + ((((((((Int32.ofInt (k : Nat)) - ((((Int32.ofInt (k : Nat)).toUInt32 >>> ((Int32.ofInt 1).toUInt32 &&& Int32.toUInt32 31)).toInt32) &&& (Int32.ofInt 1431655765))) &&& (Int32.ofInt 858993459)) + (((((Int32.ofInt (k : Nat)) - ((((Int32.ofInt (k : Nat)).toUInt32 >>> ((Int32.ofInt 1).toUInt32 &&& Int32.toUInt32 31)).toInt32) &&& (Int32.ofInt 1431655765))).toUInt32 >>> ((Int32.ofInt 2).toUInt32 &&& Int32.toUInt32 31)).toInt32) &&& (Int32.ofInt 858993459))) + ((((((Int32.ofInt (k : Nat)) - ((((Int32.ofInt (k : Nat)).toUInt32 >>> ((Int32.ofInt 1).toUInt32 &&& Int32.toUInt32 31)).toInt32) &&& (Int32.ofInt 1431655765))) &&& (Int32.ofInt 858993459)) + (((((Int32.ofInt (k : Nat)) - ((((Int32.ofInt (k : Nat)).toUInt32 >>> ((Int32.ofInt 1).toUInt32 &&& Int32.toUInt32 31)).toInt32) &&& (Int32.ofInt 1431655765))).toUInt32 >>> ((Int32.ofInt 2).toUInt32 &&& Int32.toUInt32 31)).toInt32) &&& (Int32.ofInt 858993459))).toUInt32 >>> ((Int32.ofInt 4).toUInt32 &&& Int32.toUInt32 31)).toInt32)) &&& (Int32.ofInt 252645135)).toUInt32 >>> (((Int8.ofInt 8).toInt32).toUInt32 &&& Int32.toUInt32 31)).toInt32)) + (((((((((Int32.ofInt (k : Nat)) - ((((Int32.ofInt (k : Nat)).toUInt32 >>> ((Int32.ofInt 1).toUInt32 &&& Int32.toUInt32 31)).toInt32) &&& (Int32.ofInt 1431655765))) &&& (Int32.ofInt 858993459)) + (((((Int32.ofInt (k : Nat)) - ((((Int32.ofInt (k : Nat)).toUInt32 >>> ((Int32.ofInt 1).toUInt32 &&& Int32.toUInt32 31)).toInt32) &&& (Int32.ofInt 1431655765))).toUInt32 >>> ((Int32.ofInt 2).toUInt32 &&& Int32.toUInt32 31)).toInt32) &&& (Int32.ofInt 858993459))) + ((((((Int32.ofInt (k : Nat)) - ((((Int32.ofInt (k : Nat)).toUInt32 >>> ((Int32.ofInt 1).toUInt32 &&& Int32.toUInt32 31)).toInt32) &&& (Int32.ofInt 1431655765))) &&& (Int32.ofInt 858993459)) + (((((Int32.ofInt (k : Nat)) - ((((Int32.ofInt (k : Nat)).toUInt32 >>> ((Int32.ofInt 1).toUInt32 &&& Int32.toUInt32 31)).toInt32) &&& (Int32.ofInt 1431655765))).toUInt32 >>> ((Int32.ofInt 2).toUInt32 &&& Int32.toUInt32 31)).toInt32) &&& (Int32.ofInt 858993459))).toUInt32 >>> ((Int32.ofInt 4).toUInt32 &&& Int32.toUInt32 31)).toInt32)) &&& (Int32.ofInt 252645135)) + ((((((((Int32.ofInt (k : Nat)) - ((((Int32.ofInt (k : Nat)).toUInt32 >>> ((Int32.ofInt 1).toUInt32 &&& Int32.toUInt32 31)).toInt32) &&& (Int32.ofInt 1431655765))) &&& (Int32.ofInt 858993459)) + (((((Int32.ofInt (k : Nat)) - ((((Int32.ofInt (k : Nat)).toUInt32 >>> ((Int32.ofInt 1).toUInt32 &&& Int32.toUInt32 31)).toInt32) &&& (Int32.ofInt 1431655765))).toUInt32 >>> ((Int32.ofInt 2).toUInt32 &&& Int32.toUInt32 31)).toInt32) &&& (Int32.ofInt 858993459))) + ((((((Int32.ofInt (k : Nat)) - ((((Int32.ofInt (k : Nat)).toUInt32 >>> ((Int32.ofInt 1).toUInt32 &&& Int32.toUInt32 31)).toInt32) &&& (Int32.ofInt 1431655765))) &&& (Int32.ofInt 858993459)) + (((((Int32.ofInt (k : Nat)) - ((((Int32.ofInt (k : Nat)).toUInt32 >>> ((Int32.ofInt 1).toUInt32 &&& Int32.toUInt32 31)).toInt32) &&& (Int32.ofInt 1431655765))).toUInt32 >>> ((Int32.ofInt 2).toUInt32 &&& Int32.toUInt32 31)).toInt32) &&& (Int32.ofInt 858993459))).toUInt32 >>> ((Int32.ofInt 4).toUInt32 &&& Int32.toUInt32 31)).toInt32)) &&& (Int32.ofInt 252645135)).toUInt32 >>> (((Int8.ofInt 8).toInt32).toUInt32 &&& Int32.toUInt32 31)).toInt32)).toUInt32 >>> (((Int8.ofInt 16).toInt32).toUInt32 &&& Int32.toUInt32 31)).toInt32)) &&& ((Int8.ofInt 63).toInt32)).toInt ∧ (((((((((Int32.ofInt (k : Nat)) - ((((Int32.ofInt (k : Nat)).toUInt32 >>> ((Int32.ofInt 1).toUInt32 &&& Int32.toUInt32 31)).toInt32) &&& (Int32.ofInt 1431655765))) &&& (Int32.ofInt 858993459)) + (((((Int32.ofInt (k : Nat)) - ((((Int32.ofInt (k : Nat)).toUInt32 >>> ((Int32.ofInt 1).toUInt32 &&& Int32.toUInt32 31)).toInt32) &&& (Int32.ofInt 1431655765))).toUInt32 >>> ((Int32.ofInt 2).toUInt32 &&& Int32.toUInt32 31)).toInt32) &&& (Int32.ofInt 858993459))) + ((((((Int32.ofInt (k : Nat)) - ((((Int32.ofInt (k : Nat)).toUInt32 >>> ((Int32.ofInt 1).toUInt32 &&& Int32.toUInt32 31)).toInt32) &&& (Int32.ofInt 1431655765))) &&& (Int32.ofInt 858993459)) + (((((Int32.ofInt (k : Nat)) - ((((Int32.ofInt (k : Nat)).toUInt32 >>> ((Int32.ofInt 1).toUInt32 &&& Int32.toUInt32 31)).toInt32) &&& (Int32.ofInt 1431655765))).toUInt32 >>> ((Int32.ofInt 2).toUInt32 &&& Int32.toUInt32 31)).toInt32) &&& (Int32.ofInt 858993459))).toUInt32 >>> ((Int32.ofInt 4).toUInt32 &&& Int32.toUInt32 31)).toInt32)) &&& (Int32.ofInt 252645135)) + ((((((((Int32.ofInt (k : Nat)) - ((((Int32.ofInt (k : Nat)).toUInt32 >>> ((Int32.ofInt 1).toUInt32 &&& Int32.toUInt32 31)).toInt32) &&& (Int32.ofInt 1431655765))) &&& (Int32.ofInt 858993459)) + (((((Int32.ofInt (k : Nat)) - ((((Int32.ofInt (k : Nat)).toUInt32 >>> ((Int32.ofInt 1).toUInt32 &&& Int32.toUInt32 31)).toInt32) &&& (Int32.ofInt 1431655765))).toUInt32 >>> ((Int32.ofInt 2).toUInt32 &&& Int32.toUInt32 31)).toInt32) &&& (Int32.ofInt 858993459))) + ((((((Int32.ofInt (k : Nat)) - ((((Int32.ofInt (k : Nat)).toUInt32 >>> ((Int32.ofInt 1).toUInt32 &&& Int32.toUInt32 31)).toInt32) &&& (Int32.ofInt 1431655765))) &&& (Int32.ofInt 858993459)) + (((((Int32.ofInt (k : Nat)) - ((((Int32.ofInt (k : Nat)).toUInt32 >>> ((Int32.ofInt 1).toUInt32 &&& Int32.toUInt32 31)).toInt32) &&& (Int32.ofInt 1431655765))).toUInt32 >>> ((Int32.ofInt 2).toUInt32 &&& Int32.toUInt32 31)).toInt32) &&& (Int32.ofInt 858993459))).toUInt32 >>> ((Int32.ofInt 4).toUInt32 &&& Int32.toUInt32 31)).toInt32)) &&& (Int32.ofInt 252645135)).toUInt32 >>> (((Int8.ofInt 8).toInt32).toUInt32 &&& Int32.toUInt32 31)).toInt32)) + (((((((((Int32.ofInt (k : Nat)) - ((((Int32.ofInt (k : Nat)).toUInt32 >>> ((Int32.ofInt 1).toUInt32 &&& Int32.toUInt32 31)).toInt32) &&& (Int32.ofInt 1431655765))) &&& (Int32.ofInt 858993459)) + (((((Int32.ofInt (k : Nat)) - ((((Int32.ofInt (k : Nat)).toUInt32 >>> ((Int32.ofInt 1).toUInt32 &&& Int32.toUInt32 31)).toInt32) &&& (Int32.ofInt 1431655765))).toUInt32 >>> ((Int32.ofInt 2).toUInt32 &&& Int32.toUInt32 31)).toInt32) &&& (Int32.ofInt 858993459))) + ((((((Int32.ofInt (k : Nat)) - ((((Int32.ofInt (k : Nat)).toUInt32 >>> ((Int32.ofInt 1).toUInt32 &&& Int32.toUInt32 31)).toInt32) &&& (Int32.ofInt 1431655765))) &&& (Int32.ofInt 858993459)) + (((((Int32.ofInt (k : Nat)) - ((((Int32.ofInt (k : Nat)).toUInt32 >>> ((Int32.ofInt 1).toUInt32 &&& Int32.toUInt32 31)).toInt32) &&& (Int32.ofInt 1431655765))).toUInt32 >>> ((Int32.ofInt 2).toUInt32 &&& Int32.toUInt32 31)).toInt32) &&& (Int32.ofInt 858993459))).toUInt32 >>> ((Int32.ofInt 4).toUInt32 &&& Int32.toUInt32 31)).toInt32)) &&& (Int32.ofInt 252645135)) + ((((((((Int32.ofInt (k : Nat)) - ((((Int32.ofInt (k : Nat)).toUInt32 >>> ((Int32.ofInt 1).toUInt32 &&& Int32.toUInt32 31)).toInt32) &&& (Int32.ofInt 1431655765))) &&& (Int32.ofInt 858993459)) + (((((Int32.ofInt (k : Nat)) - ((((Int32.ofInt (k : Nat)).toUInt32 >>> ((Int32.ofInt 1).toUInt32 &&& Int32.toUInt32 31)).toInt32) &&& (Int32.ofInt 1431655765))).toUInt32 >>> ((Int32.ofInt 2).toUInt32 &&& Int32.toUInt32 31)).toInt32) &&& (Int32.ofInt 858993459))) + ((((((Int32.ofInt (k : Nat)) - ((((Int32.ofInt (k : Nat)).toUInt32 >>> ((Int32.ofInt 1).toUInt32 &&& Int32.toUInt32 31)).toInt32) &&& (Int32.ofInt 1431655765))) &&& (Int32.ofInt 858993459)) + (((((Int32.ofInt (k : Nat)) - ((((Int32.ofInt (k : Nat)).toUInt32 >>> ((Int32.ofInt 1).toUInt32 &&& Int32.toUInt32 31)).toInt32) &&& (Int32.ofInt 1431655765))).toUInt32 >>> ((Int32.ofInt 2).toUInt32 &&& Int32.toUInt32 31)).toInt32) &&& (Int32.ofInt 858993459))).toUInt32 >>> ((Int32.ofInt 4).toUInt32 &&& Int32.toUInt32 31)).toInt32)) &&& (Int32.ofInt 252645135)).toUInt32 >>> (((Int8.ofInt 8).toInt32).toUInt32 &&& Int32.toUInt32 31)).toInt32)).toUInt32 >>> (((Int8.ofInt 16).toInt32).toUInt32 &&& Int32.toUInt32 31)).toInt32)) &&& ((Int8.ofInt 63).toInt32)).toInt ≤ 10 := by decide +kernel
theorem pj_bc10 {w : Int32} (h : 0 ≤ w.toInt ∧ w.toInt ≤ 1023) : 0 ≤ ((((((((w - (((w.toUInt32 >>> ((Int32.ofInt 1).toUInt32 &&& Int32.toUInt32 31)).toInt32) &&& (Int32.ofInt 1431655765))) &&& (Int32.ofInt 858993459)) + ((((w - (((w.toUInt32 >>> ((Int32.ofInt 1).toUInt32 &&& Int32.toUInt32 31)).toInt32) &&& (Int32.ofInt 1431655765))).toUInt32 >>> ((Int32.ofInt 2).toUInt32 &&& Int32.toUInt32 31)).toInt32) &&& (Int32.ofInt 858993459))) + (((((w - (((w.toUInt32 >>> ((Int32.ofInt 1).toUInt32 &&& Int32.toUInt32 31)).toInt32) &&& (Int32.ofInt 1431655765))) &&& (Int32.ofInt 858993459)) + ((((w - (((w.toUInt32 >>> ((Int32.ofInt 1).toUInt32 &&& Int32.toUInt32 31)).toInt32) &&& (Int32.ofInt 1431655765))).toUInt32 >>> ((Int32.ofInt 2).toUInt32 &&& Int32.toUInt32 31)).toInt32) &&& (Int32.ofInt 858993459))).toUInt32 >>> ((Int32.ofInt 4).toUInt32 &&& Int32.toUInt32 31)).toInt32)) &&& (Int32.ofInt 252645135)) + (((((((w - (((w.toUInt32 >>> ((Int32.ofInt 1).toUInt32 &&& Int32.toUInt32 31)).toInt32) &&& (Int32.ofInt 1431655765))) &&& (Int32.ofInt 858993459)) + ((((w - (((w.toUInt32 >>> ((Int32.ofInt 1).toUInt32 &&& Int32.toUInt32 31)).toInt32) &&& (Int32.ofInt 1431655765))).toUInt32 >>> ((Int32.ofInt 2).toUInt32 &&& Int32.toUInt32 31)).toInt32) &&& (Int32.ofInt 858993459))) + (((((w - (((w.toUInt32 >>> ((Int32.ofInt 1).toUInt32 &&& Int32.toUInt32 31)).toInt32) &&& (Int32.ofInt 1431655765))) &&& (Int32.ofInt 858993459)) + ((((w - (((w.toUInt32 >>> ((Int32.ofInt 1).toUInt32 &&& Int32.toUInt32 31)).toInt32) &&& (Int32.ofInt 1431655765))).toUInt32 >>> ((Int32.ofInt 2).toUInt32 &&& Int32.toUInt32 31)).toInt32) &&& (Int32.ofInt 858993459))).toUInt32 >>> ((Int32.ofInt 4).toUInt32 &&& Int32.toUInt32 31)).toInt32)) &&& (Int32.ofInt 252645135)).toUInt32 >>> (((Int8.ofInt 8).toInt32).toUInt32 &&& Int32.toUInt32 31)).toInt32)) + ((((((((w - (((w.toUInt32 >>> ((Int32.ofInt 1).toUInt32 &&& Int32.toUInt32 31)).toInt32) &&& (Int32.ofInt 1431655765))) &&& (Int32.ofInt 858993459)) + ((((w - (((w.toUInt32 >>> ((Int32.ofInt 1).toUInt32 &&& Int32.toUInt32 31)).toInt32) &&& (Int32.ofInt 1431655765))).toUInt32 >>> ((Int32.ofInt 2).toUInt32 &&& Int32.toUInt32 31)).toInt32) &&& (Int32.ofInt 858993459))) + (((((w - (((w.toUInt32 >>> ((Int32.ofInt 1).toUInt32 &&& Int32.toUInt32 31)).toInt32) &&& (Int32.ofInt 1431655765))) &&& (Int32.ofInt 858993459)) + ((((w - (((w.toUInt32 >>> ((Int32.ofInt 1).toUInt32 &&& Int32.toUInt32 31)).toInt32) &&& (Int32.ofInt 1431655765))).toUInt32 >>> ((Int32.ofInt 2).toUInt32 &&& Int32.toUInt32 31)).toInt32) &&& (Int32.ofInt 858993459))).toUInt32 >>> ((Int32.ofInt 4).toUInt32 &&& Int32.toUInt32 31)).toInt32)) &&& (Int32.ofInt 252645135)) + (((((((w - (((w.toUInt32 >>> ((Int32.ofInt 1).toUInt32 &&& Int32.toUInt32 31)).toInt32) &&& (Int32.ofInt 1431655765))) &&& (Int32.ofInt 858993459)) + ((((w - (((w.toUInt32 >>> ((Int32.ofInt 1).toUInt32 &&& Int32.toUInt32 31)).toInt32) &&& (Int32.ofInt 1431655765))).toUInt32 >>> ((Int32.ofInt 2).toUInt32 &&& Int32.toUInt32 31)).toInt32) &&& (Int32.ofInt 858993459))) + (((((w - (((w.toUInt32 >>> ((Int32.ofInt 1).toUInt32 &&& Int32.toUInt32 31)).toInt32) &&& (Int32.ofInt 1431655765))) &&& (Int32.ofInt 858993459)) + ((((w - (((w.toUInt32 >>> ((Int32.ofInt 1).toUInt32 &&& Int32.toUInt32 31)).toInt32) &&& (Int32.ofInt 1431655765))).toUInt32 >>> ((Int32.ofInt 2).toUInt32 &&& Int32.toUInt32 31)).toInt32) &&& (Int32.ofInt 858993459))).toUInt32 >>> ((Int32.ofInt 4).toUInt32 &&& Int32.toUInt32 31)).toInt32)) &&& (Int32.ofInt 252645135)).toUInt32 >>> (((Int8.ofInt 8).toInt32).toUInt32 &&& Int32.toUInt32 31)).toInt32)).toUInt32 >>> (((Int8.ofInt 16).toInt32).toUInt32 &&& Int32.toUInt32 31)).toInt32)) &&& ((Int8.ofInt 63).toInt32)).toInt ∧ ((((((((w - (((w.toUInt32 >>> ((Int32.ofInt 1).toUInt32 &&& Int32.toUInt32 31)).toInt32) &&& (Int32.ofInt 1431655765))) &&& (Int32.ofInt 858993459)) + ((((w - (((w.toUInt32 >>> ((Int32.ofInt 1).toUInt32 &&& Int32.toUInt32 31)).toInt32) &&& (Int32.ofInt 1431655765))).toUInt32 >>> ((Int32.ofInt 2).toUInt32 &&& Int32.toUInt32 31)).toInt32) &&& (Int32.ofInt 858993459))) + (((((w - (((w.toUInt32 >>> ((Int32.ofInt 1).toUInt32 &&& Int32.toUInt32 31)).toInt32) &&& (Int32.ofInt 1431655765))) &&& (Int32.ofInt 858993459)) + ((((w - (((w.toUInt32 >>> ((Int32.ofInt 1).toUInt32 &&& Int32.toUInt32 31)).toInt32) &&& (Int32.ofInt 1431655765))).toUInt32 >>> ((Int32.ofInt 2).toUInt32 &&& Int32.toUInt32 31)).toInt32) &&& (Int32.ofInt 858993459))).toUInt32 >>> ((Int32.ofInt 4).toUInt32 &&& Int32.toUInt32 31)).toInt32)) &&& (Int32.ofInt 252645135)) + (((((((w - (((w.toUInt32 >>> ((Int32.ofInt 1).toUInt32 &&& Int32.toUInt32 31)).toInt32) &&& (Int32.ofInt 1431655765))) &&& (Int32.ofInt 858993459)) + ((((w - (((w.toUInt32 >>> ((Int32.ofInt 1).toUInt32 &&& Int32.toUInt32 31)).toInt32) &&& (Int32.ofInt 1431655765))).toUInt32 >>> ((Int32.ofInt 2).toUInt32 &&& Int32.toUInt32 31)).toInt32) &&& (Int32.ofInt 858993459))) + (((((w - (((w.toUInt32 >>> ((Int32.ofInt 1).toUInt32 &&& Int32.toUInt32 31)).toInt32) &&& (Int32.ofInt 1431655765))) &&& (Int32.ofInt 858993459)) + ((((w - (((w.toUInt32 >>> ((Int32.ofInt 1).toUInt32 &&& Int32.toUInt32 31)).toInt32) &&& (Int32.ofInt 1431655765))).toUInt32 >>> ((Int32.ofInt 2).toUInt32 &&& Int32.toUInt32 31)).toInt32) &&& (Int32.ofInt 858993459))).toUInt32 >>> ((Int32.ofInt 4).toUInt32 &&& Int32.toUInt32 31)).toInt32)) &&& (Int32.ofInt 252645135)).toUInt32 >>> (((Int8.ofInt 8).toInt32).toUInt32 &&& Int32.toUInt32 31)).toInt32)) + ((((((((w - (((w.toUInt32 >>> ((Int32.ofInt 1).toUInt32 &&& Int32.toUInt32 31)).toInt32) &&& (Int32.ofInt 1431655765))) &&& (Int32.ofInt 858993459)) + ((((w - (((w.toUInt32 >>> ((Int32.ofInt 1).toUInt32 &&& Int32.toUInt32 31)).toInt32) &&& (Int32.ofInt 1431655765))).toUInt32 >>> ((Int32.ofInt 2).toUInt32 &&& Int32.toUInt32 31)).toInt32) &&& (Int32.ofInt 858993459))) + (((((w - (((w.toUInt32 >>> ((Int32.ofInt 1).toUInt32 &&& Int32.toUInt32 31)).toInt32) &&& (Int32.ofInt 1431655765))) &&& (Int32.ofInt 858993459)) + ((((w - (((w.toUInt32 >>> ((Int32.ofInt 1).toUInt32 &&& Int32.toUInt32 31)).toInt32) &&& (Int32.ofInt 1431655765))).toUInt32 >>> ((Int32.ofInt 2).toUInt32 &&& Int32.toUInt32 31)).toInt32) &&& (Int32.ofInt 858993459))).toUInt32 >>> ((Int32.ofInt 4).toUInt32 &&& Int32.toUInt32 31)).toInt32)) &&& (Int32.ofInt 252645135)) + (((((((w - (((w.toUInt32 >>> ((Int32.ofInt 1).toUInt32 &&& Int32.toUInt32 31)).toInt32) &&& (Int32.ofInt 1431655765))) &&& (Int32.ofInt 858993459)) + ((((w - (((w.toUInt32 >>> ((Int32.ofInt 1).toUInt32 &&& Int32.toUInt32 31)).toInt32) &&& (Int32.ofInt 1431655765))).toUInt32 >>> ((Int32.ofInt 2).toUInt32 &&& Int32.toUInt32 31)).toInt32) &&& (Int32.ofInt 858993459))) + (((((w - (((w.toUInt32 >>> ((Int32.ofInt 1).toUInt32 &&& Int32.toUInt32 31)).toInt32) &&& (Int32.ofInt 1431655765))) &&& (Int32.ofInt 858993459)) + ((((w - (((w.toUInt32 >>> ((Int32.ofInt 1).toUInt32 &&& Int32.toUInt32 31)).toInt32) &&& (Int32.ofInt 1431655765))).toUInt32 >>> ((Int32.ofInt 2).toUInt32 &&& Int32.toUInt32 31)).toInt32) &&& (Int32.ofInt 858993459))).toUInt32 >>> ((Int32.ofInt 4).toUInt32 &&& Int32.toUInt32 31)).toInt32)) &&& (Int32.ofInt 252645135)).toUInt32 >>> (((Int8.ofInt 8).toInt32).toUInt32 &&& Int32.toUInt32 31)).toInt32)).toUInt32 >>> (((Int8.ofInt 16).toInt32).toUInt32 &&& Int32.toUInt32 31)).toInt32)) &&& ((Int8.ofInt 63).toInt32)).toInt ≤ 10 := by
  have e : w = Int32.ofInt (w.toInt.toNat : Nat) := by
    rw [Int.toNat_of_nonneg h.1]
    exact (Int32.ofInt_toInt w).symm
  have := pj_bcN w.toInt.toNat (by omega)
  rw [← e] at this
  exact this
theorem ct_287b (G0 : pj_G) (hI : pj_Inv G0) (w : Int32) : pj_Y 1 287 [.int w] G0 (fun v G' => ∃ y : Int32, v = some (.int y) ∧ G0 = G' ∧ ((-2147483648 : Int) ≤ y.toInt ∧ y.toInt ≤ 2147483647) ∧ (0 ≤ w.toInt ∧ w.toInt ≤ 1023 → 0 ≤ y.toInt ∧ y.toInt ≤ 10)) := by
  have c0_ : ((Int8.ofInt 16).toInt32).toInt = 16 := by decide
  have c1_ : ((Int8.ofInt 63).toInt32).toInt = 63 := by decide
  have c2_ : ((Int8.ofInt 8).toInt32).toInt = 8 := by decide
  have c3_ : (Int32.ofInt 1).toInt = 1 := by decide
  have c4_ : (Int32.ofInt 1431655765).toInt = 1431655765 := by decide
  have c5_ : (Int32.ofInt 2).toInt = 2 := by decide
  have c6_ : (Int32.ofInt 252645135).toInt = 252645135 := by decide
  have c7_ : (Int32.ofInt 4).toInt = 4 := by decide
  have c8_ : (Int32.ofInt 858993459).toInt = 858993459 := by decide
  refine pj_Y_X (M := pj_m287) rfl rfl (Nat.le_of_ble_eq_true rfl) ?_
  have hK : pj_kpt ([], [], []) G0 G0 := pj_kpt_r _ _
  show pj_X _ _ G0 0 [(0, .int w)] [] _
  refine pj_X_of (fun r h => pj_R_to (G0, 4, [(0, .int w)], [.int ((w.toUInt32 >>> ((Int32.ofInt 1).toUInt32 &&& Int32.toUInt32 31)).toInt32), .int w], 0, 0) 4 5 (fun _ => rfl) h) ?_
  obtain ⟨z1, hz1⟩ : ∃ z : Int32, z = (w.toUInt32 >>> ((Int32.ofInt 1).toUInt32 &&& Int32.toUInt32 31)).toInt32 := ⟨_, rfl⟩
  refine pj_X_eqi hz1.symm ?_
  refine pj_X_of (fun r h => pj_R_to (G0, 8, [(0, .int w)], [.int (z1 &&& (Int32.ofInt 1431655765)), .int w], 0, 0) 8 3 (fun _ => rfl) h) ?_
  obtain ⟨z2, hz2⟩ : ∃ z : Int32, z = z1 &&& (Int32.ofInt 1431655765) := ⟨_, rfl⟩
  refine pj_X_eqi hz2.symm ?_
  have fz2_0 : 0 ≤ z2.toInt ∧ z2.toInt ≤ (Int32.ofInt 1431655765).toInt := by rw [hz2]; exact pj_andI (by omega)
  refine pj_X_of (fun r h => pj_R_to (G0, 9, [(0, .int w)], [.int (w - z2)], 0, 0) 9 2 (fun _ => rfl) h) ?_
  obtain ⟨z3, hz3⟩ : ∃ z : Int32, z = w - z2 := ⟨_, rfl⟩
  refine pj_X_eqi hz3.symm ?_
  refine pj_X_of (fun r h => pj_R_to (G0, 15, [(0, .int z3)], [.int (z3 &&& (Int32.ofInt 858993459))], 0, 0) 15 5 (fun _ => rfl) h) ?_
  obtain ⟨z4, hz4⟩ : ∃ z : Int32, z = z3 &&& (Int32.ofInt 858993459) := ⟨_, rfl⟩
  refine pj_X_eqi hz4.symm ?_
  have fz4_0 : 0 ≤ z4.toInt ∧ z4.toInt ≤ (Int32.ofInt 858993459).toInt := by rw [hz4]; exact pj_andI (by omega)
  refine pj_X_of (fun r h => pj_R_to (G0, 18, [(0, .int z3)], [.int ((z3.toUInt32 >>> ((Int32.ofInt 2).toUInt32 &&& Int32.toUInt32 31)).toInt32), .int z4], 0, 0) 18 4 (fun _ => rfl) h) ?_
  obtain ⟨z5, hz5⟩ : ∃ z : Int32, z = (z3.toUInt32 >>> ((Int32.ofInt 2).toUInt32 &&& Int32.toUInt32 31)).toInt32 := ⟨_, rfl⟩
  refine pj_X_eqi hz5.symm ?_
  refine pj_X_of (fun r h => pj_R_to (G0, 22, [(0, .int z3)], [.int (z5 &&& (Int32.ofInt 858993459)), .int z4], 0, 0) 22 3 (fun _ => rfl) h) ?_
  obtain ⟨z6, hz6⟩ : ∃ z : Int32, z = z5 &&& (Int32.ofInt 858993459) := ⟨_, rfl⟩
  refine pj_X_eqi hz6.symm ?_
  have fz6_0 : 0 ≤ z6.toInt ∧ z6.toInt ≤ (Int32.ofInt 858993459).toInt := by rw [hz6]; exact pj_andI (by omega)
  refine pj_X_of (fun r h => pj_R_to (G0, 23, [(0, .int z3)], [.int (z4 + z6)], 0, 0) 23 2 (fun _ => rfl) h) ?_
  obtain ⟨z7, hz7⟩ : ∃ z : Int32, z = z4 + z6 := ⟨_, rfl⟩
  refine pj_X_eqi hz7.symm ?_
  have fz7_0 : z7.toInt = z4.toInt + z6.toInt := by rw [hz7]; exact pj_addI (by have := pj_i32 z4; have := pj_i32 z6; omega) (by have := pj_i32 z4; have := pj_i32 z6; omega)
  refine pj_X_of (fun r h => pj_R_to (G0, 28, [(0, .int z7)], [.int ((z7.toUInt32 >>> ((Int32.ofInt 4).toUInt32 &&& Int32.toUInt32 31)).toInt32), .int z7], 0, 0) 28 6 (fun _ => rfl) h) ?_
  obtain ⟨z8, hz8⟩ : ∃ z : Int32, z = (z7.toUInt32 >>> ((Int32.ofInt 4).toUInt32 &&& Int32.toUInt32 31)).toInt32 := ⟨_, rfl⟩
  refine pj_X_eqi hz8.symm ?_
  have fz8_0 : z8.toInt = z7.toInt / 16 := by rw [hz8]; exact pj_usI (k := 4) (by decide) (by decide) (by omega)
  have fz8_1 : 0 ≤ z8.toInt ∧ z8.toInt ≤ 107374182 := by rw [hz8]; exact (by have hq : ((z7.toUInt32 >>> ((Int32.ofInt 4).toUInt32 &&& Int32.toUInt32 31)).toInt32).toInt = z7.toInt / 16 := pj_usI (k := 4) (by decide) (by decide) (by omega); have hr := pj_i32 z7; omega)
  refine pj_X_of (fun r h => pj_R_to (G0, 29, [(0, .int z7)], [.int (z7 + z8)], 0, 0) 29 2 (fun _ => rfl) h) ?_
  obtain ⟨z9, hz9⟩ : ∃ z : Int32, z = z7 + z8 := ⟨_, rfl⟩
  refine pj_X_eqi hz9.symm ?_
  have fz9_0 : z9.toInt = z7.toInt + z8.toInt := by rw [hz9]; exact pj_addI (by have := pj_i32 z7; have := pj_i32 z8; omega) (by have := pj_i32 z7; have := pj_i32 z8; omega)
  refine pj_X_of (fun r h => pj_R_to (G0, 33, [(0, .int z7)], [.int (z9 &&& (Int32.ofInt 252645135))], 0, 0) 33 3 (fun _ => rfl) h) ?_
  obtain ⟨z10, hz10⟩ : ∃ z : Int32, z = z9 &&& (Int32.ofInt 252645135) := ⟨_, rfl⟩
  refine pj_X_eqi hz10.symm ?_
  have fz10_0 : 0 ≤ z10.toInt ∧ z10.toInt ≤ (Int32.ofInt 252645135).toInt := by rw [hz10]; exact pj_andI (by omega)
  refine pj_X_of (fun r h => pj_R_to (G0, 39, [(0, .int z10)], [.int ((z10.toUInt32 >>> (((Int8.ofInt 8).toInt32).toUInt32 &&& Int32.toUInt32 31)).toInt32), .int z10], 0, 0) 39 6 (fun _ => rfl) h) ?_
  obtain ⟨z11, hz11⟩ : ∃ z : Int32, z = (z10.toUInt32 >>> (((Int8.ofInt 8).toInt32).toUInt32 &&& Int32.toUInt32 31)).toInt32 := ⟨_, rfl⟩
  refine pj_X_eqi hz11.symm ?_
  have fz11_0 : z11.toInt = z10.toInt / 256 := by rw [hz11]; exact pj_usI (k := 8) (by decide) (by decide) (by omega)
  have fz11_1 : 0 ≤ z11.toInt ∧ z11.toInt ≤ 986895 := by rw [hz11]; exact (by have hq : ((z10.toUInt32 >>> (((Int8.ofInt 8).toInt32).toUInt32 &&& Int32.toUInt32 31)).toInt32).toInt = z10.toInt / 256 := pj_usI (k := 8) (by decide) (by decide) (by omega); have hr := pj_i32 z10; omega)
  refine pj_X_of (fun r h => pj_R_to (G0, 40, [(0, .int z10)], [.int (z10 + z11)], 0, 0) 40 2 (fun _ => rfl) h) ?_
  obtain ⟨z12, hz12⟩ : ∃ z : Int32, z = z10 + z11 := ⟨_, rfl⟩
  refine pj_X_eqi hz12.symm ?_
  have fz12_0 : z12.toInt = z10.toInt + z11.toInt := by rw [hz12]; exact pj_addI (by have := pj_i32 z10; have := pj_i32 z11; omega) (by have := pj_i32 z10; have := pj_i32 z11; omega)
  refine pj_X_of (fun r h => pj_R_to (G0, 46, [(0, .int z12)], [.int ((z12.toUInt32 >>> (((Int8.ofInt 16).toInt32).toUInt32 &&& Int32.toUInt32 31)).toInt32), .int z12], 0, 0) 46 6 (fun _ => rfl) h) ?_
  obtain ⟨z13, hz13⟩ : ∃ z : Int32, z = (z12.toUInt32 >>> (((Int8.ofInt 16).toInt32).toUInt32 &&& Int32.toUInt32 31)).toInt32 := ⟨_, rfl⟩
  refine pj_X_eqi hz13.symm ?_
  have fz13_0 : z13.toInt = z12.toInt / 65536 := by rw [hz13]; exact pj_usI (k := 16) (by decide) (by decide) (by omega)
  have fz13_1 : 0 ≤ z13.toInt ∧ z13.toInt ≤ 3870 := by rw [hz13]; exact (by have hq : ((z12.toUInt32 >>> (((Int8.ofInt 16).toInt32).toUInt32 &&& Int32.toUInt32 31)).toInt32).toInt = z12.toInt / 65536 := pj_usI (k := 16) (by decide) (by decide) (by omega); have hr := pj_i32 z12; omega)
  refine pj_X_of (fun r h => pj_R_to (G0, 47, [(0, .int z12)], [.int (z12 + z13)], 0, 0) 47 2 (fun _ => rfl) h) ?_
  obtain ⟨z14, hz14⟩ : ∃ z : Int32, z = z12 + z13 := ⟨_, rfl⟩
  refine pj_X_eqi hz14.symm ?_
  have fz14_0 : z14.toInt = z12.toInt + z13.toInt := by rw [hz14]; exact pj_addI (by have := pj_i32 z12; have := pj_i32 z13; omega) (by have := pj_i32 z12; have := pj_i32 z13; omega)
  refine pj_X_of (fun r h => pj_R_to (G0, 52, [(0, .int z14)], [.int (z14 &&& ((Int8.ofInt 63).toInt32))], 0, 0) 52 5 (fun _ => rfl) h) ?_
  obtain ⟨z15, hz15⟩ : ∃ z : Int32, z = z14 &&& ((Int8.ofInt 63).toInt32) := ⟨_, rfl⟩
  refine pj_X_eqi hz15.symm ?_
  have fz15_0 : 0 ≤ z15.toInt ∧ z15.toInt ≤ ((Int8.ofInt 63).toInt32).toInt := by rw [hz15]; exact pj_andI (by omega)
  exact pj_X_rt rfl rfl ⟨_, rfl, rfl, pj_i32 _, (fun q => by rw [hz15, hz14, hz13, hz12, hz11, hz10, hz9, hz8, hz7, hz6, hz5, hz4, hz3, hz2, hz1]; exact pj_bc10 q)⟩
theorem ct_286b (G0 : pj_G) (hI : pj_Inv G0) (w : Int32) : pj_Y 1 286 [.int w] G0 (fun v G' => ∃ y : Int32, v = some (.int y) ∧ G0 = G' ∧ ((0 : Int) ≤ y.toInt ∧ y.toInt ≤ 33)) := by
  have c0_ : ((Int16.ofInt 256).toInt32).toInt = 256 := by decide
  have c1_ : ((Int8.ofInt 16).toInt32).toInt = 16 := by decide
  have c2_ : ((Int8.ofInt 32).toInt32).toInt = 32 := by decide
  have c3_ : ((Int8.ofInt 8).toInt32).toInt = 8 := by decide
  have c4_ : (Int32.ofInt (-1)).toInt = -1 := by decide
  have c5_ : (Int32.ofInt 1).toInt = 1 := by decide
  have c6_ : (Int32.ofInt 16).toInt = 16 := by decide
  have c7_ : (Int32.ofInt 2).toInt = 2 := by decide
  have c8_ : (Int32.ofInt 4).toInt = 4 := by decide
  have c9_ : (Int32.ofInt 65536).toInt = 65536 := by decide
  have c10_ : (Int32.ofInt 8).toInt = 8 := by decide
  refine pj_Y_X (M := pj_m286) rfl rfl (Nat.le_of_ble_eq_true rfl) ?_
  have hK : pj_kpt ([], [], []) G0 G0 := pj_kpt_r _ _
  show pj_X _ _ G0 0 [(0, .int w)] [] _
  refine pj_X_of (fun r h => pj_R_to (G0, 3, [(0, .int w)], [.int (w ^^^ (Int32.ofInt (-1)))], 0, 0) 3 4 (fun _ => rfl) h) ?_
  obtain ⟨z1, hz1⟩ : ∃ z : Int32, z = w ^^^ (Int32.ofInt (-1)) := ⟨_, rfl⟩
  refine pj_X_eqi hz1.symm ?_
  refine pj_X_of (fun r h => pj_R_to (G0, 6, [(0, .int w)], [.int (w - (Int32.ofInt 1)), .int z1], 0, 0) 6 4 (fun _ => rfl) h) ?_
  obtain ⟨z2, hz2⟩ : ∃ z : Int32, z = w - (Int32.ofInt 1) := ⟨_, rfl⟩
  refine pj_X_eqi hz2.symm ?_
  refine pj_X_of (fun r h => pj_R_to (G0, 7, [(0, .int w)], [.int (z1 &&& z2)], 0, 0) 7 2 (fun _ => rfl) h) ?_
  obtain ⟨z3, hz3⟩ : ∃ z : Int32, z = z1 &&& z2 := ⟨_, rfl⟩
  refine pj_X_eqi hz3.symm ?_
  refine pj_X_of (fun r h => pj_R_to (G0, 9, [(0, .int z3)], [.int z3], 0, 0) 9 3 (fun _ => rfl) h) ?_
  cases b4 : pj_c1 .gt z3 0 with
  | true =>
    have ub4 := pj_u0_gtT b4
    refine pj_X_of (fun r h => pj_R_ifT 17 rfl rfl b4 h) ?_
    refine pj_X_of (fun r h => pj_R_to (G0, 23, [(1, .int (Int32.ofInt 1)), (0, .int z3)], [.int (Int32.ofInt 65536), .int z3], 0, 0) 23 5 (fun _ => rfl) h) ?_
    cases b5 : pj_c1 .le z3 (Int32.ofInt 65536) with
    | true =>
      have ub5 := pj_u_leT b5
      refine pj_X_of (fun r h => pj_R_icT 34 rfl rfl b5 h) ?_
      refine pj_X_of (fun r h => pj_R_to (G0, 38, [(1, .int (Int32.ofInt 1)), (0, .int z3)], [.int ((Int16.ofInt 256).toInt32), .int z3], 0, 0) 38 3 (fun _ => rfl) h) ?_
      cases b6 : pj_c1 .le z3 ((Int16.ofInt 256).toInt32) with
      | true =>
        have ub6 := pj_u_leT b6
        refine pj_X_of (fun r h => pj_R_icT 49 rfl rfl b6 h) ?_
        refine pj_X_of (fun r h => pj_R_to (G0, 52, [(1, .int (Int32.ofInt 1)), (0, .int z3)], [.int ((Int8.ofInt 16).toInt32), .int z3], 0, 0) 52 3 (fun _ => rfl) h) ?_
        cases b7 : pj_c1 .le z3 ((Int8.ofInt 16).toInt32) with
        | true =>
          have ub7 := pj_u_leT b7
          refine pj_X_of (fun r h => pj_R_icT 62 rfl rfl b7 h) ?_
          refine pj_X_of (fun r h => pj_R_to (G0, 64, [(1, .int (Int32.ofInt 1)), (0, .int z3)], [.int (Int32.ofInt 4), .int z3], 0, 0) 64 3 (fun _ => rfl) h) ?_
          cases b8 : pj_c1 .le z3 (Int32.ofInt 4) with
          | true =>
            have ub8 := pj_u_leT b8
            refine pj_X_of (fun r h => pj_R_icT 74 rfl rfl b8 h) ?_
            refine pj_X_of (fun r h => pj_R_to (G0, 78, [(1, .int (Int32.ofInt 1)), (0, .int z3)], [.int ((z3.toUInt32 >>> ((Int32.ofInt 1).toUInt32 &&& Int32.toUInt32 31)).toInt32), .int (Int32.ofInt 1)], 0, 0) 78 5 (fun _ => rfl) h) ?_
            obtain ⟨z9, hz9⟩ : ∃ z : Int32, z = (z3.toUInt32 >>> ((Int32.ofInt 1).toUInt32 &&& Int32.toUInt32 31)).toInt32 := ⟨_, rfl⟩
            refine pj_X_eqi hz9.symm ?_
            have fz9_0 : z9.toInt = z3.toInt / 2 := by rw [hz9]; exact pj_usI (k := 1) (by decide) (by decide) (by omega)
            have fz9_1 : 0 ≤ z9.toInt ∧ z9.toInt ≤ 2 := by rw [hz9]; exact (by have hq : ((z3.toUInt32 >>> ((Int32.ofInt 1).toUInt32 &&& Int32.toUInt32 31)).toInt32).toInt = z3.toInt / 2 := pj_usI (k := 1) (by decide) (by decide) (by omega); have hr := pj_i32 z3; omega)
            refine pj_X_of (fun r h => pj_R_to (G0, 79, [(1, .int (Int32.ofInt 1)), (0, .int z3)], [.int ((Int32.ofInt 1) + z9)], 0, 0) 79 2 (fun _ => rfl) h) ?_
            obtain ⟨z10, hz10⟩ : ∃ z : Int32, z = (Int32.ofInt 1) + z9 := ⟨_, rfl⟩
            refine pj_X_eqi hz10.symm ?_
            have fz10_0 : z10.toInt = (Int32.ofInt 1).toInt + z9.toInt := by rw [hz10]; exact pj_addI (by have := pj_i32 (Int32.ofInt 1); have := pj_i32 z9; omega) (by have := pj_i32 (Int32.ofInt 1); have := pj_i32 z9; omega)
            exact pj_X_rt rfl rfl ⟨_, rfl, rfl, ⟨by omega, by omega⟩⟩
          | false =>
            have ub8 := pj_u_leF b8
            refine pj_X_of (fun r h => pj_R_icF rfl b8 h) ?_
            refine pj_X_of (fun r h => pj_R_to (G0, 70, [(1, .int (Int32.ofInt 1 + Int32.ofInt 2)), (0, .int z3)], [], 0, 0) 70 2 (fun _ => rfl) h) ?_
            obtain ⟨z11, hz11⟩ : ∃ z : Int32, z = Int32.ofInt 1 + Int32.ofInt 2 := ⟨_, rfl⟩
            rw [← hz11]
            have fz11_0 : z11.toInt = (Int32.ofInt 1).toInt + (Int32.ofInt 2).toInt := by rw [hz11]; exact pj_addI (by have := pj_i32 (Int32.ofInt 1); have := pj_i32 (Int32.ofInt 2); omega) (by have := pj_i32 (Int32.ofInt 1); have := pj_i32 (Int32.ofInt 2); omega)
            refine pj_X_of (fun r h => pj_R_to (G0, 73, [(1, .int z11), (0, .int z3)], [.int ((z3.toUInt32 >>> ((Int32.ofInt 2).toUInt32 &&& Int32.toUInt32 31)).toInt32)], 0, 0) 73 4 (fun _ => rfl) h) ?_
            obtain ⟨z12, hz12⟩ : ∃ z : Int32, z = (z3.toUInt32 >>> ((Int32.ofInt 2).toUInt32 &&& Int32.toUInt32 31)).toInt32 := ⟨_, rfl⟩
            refine pj_X_eqi hz12.symm ?_
            have fz12_0 : z12.toInt = z3.toInt / 4 := by rw [hz12]; exact pj_usI (k := 2) (by decide) (by decide) (by omega)
            have fz12_1 : 1 ≤ z12.toInt ∧ z12.toInt ≤ 4 := by rw [hz12]; exact (by have hq : ((z3.toUInt32 >>> ((Int32.ofInt 2).toUInt32 &&& Int32.toUInt32 31)).toInt32).toInt = z3.toInt / 4 := pj_usI (k := 2) (by decide) (by decide) (by omega); have hr := pj_i32 z3; omega)
            refine pj_X_of (fun r h => pj_R_to (G0, 78, [(0, .int z12), (1, .int z11)], [.int ((z12.toUInt32 >>> ((Int32.ofInt 1).toUInt32 &&& Int32.toUInt32 31)).toInt32), .int z11], 0, 0) 78 6 (fun _ => rfl) h) ?_
            obtain ⟨z13, hz13⟩ : ∃ z : Int32, z = (z12.toUInt32 >>> ((Int32.ofInt 1).toUInt32 &&& Int32.toUInt32 31)).toInt32 := ⟨_, rfl⟩
            refine pj_X_eqi hz13.symm ?_
            have fz13_0 : z13.toInt = z12.toInt / 2 := by rw [hz13]; exact pj_usI (k := 1) (by decide) (by decide) (by omega)
            have fz13_1 : 0 ≤ z13.toInt ∧ z13.toInt ≤ 2 := by rw [hz13]; exact (by have hq : ((z12.toUInt32 >>> ((Int32.ofInt 1).toUInt32 &&& Int32.toUInt32 31)).toInt32).toInt = z12.toInt / 2 := pj_usI (k := 1) (by decide) (by decide) (by omega); have hr := pj_i32 z12; omega)
            refine pj_X_of (fun r h => pj_R_to (G0, 79, [(0, .int z12), (1, .int z11)], [.int (z11 + z13)], 0, 0) 79 2 (fun _ => rfl) h) ?_
            obtain ⟨z14, hz14⟩ : ∃ z : Int32, z = z11 + z13 := ⟨_, rfl⟩
            refine pj_X_eqi hz14.symm ?_
            have fz14_0 : z14.toInt = z11.toInt + z13.toInt := by rw [hz14]; exact pj_addI (by have := pj_i32 z11; have := pj_i32 z13; omega) (by have := pj_i32 z11; have := pj_i32 z13; omega)
            exact pj_X_rt rfl rfl ⟨_, rfl, rfl, ⟨by omega, by omega⟩⟩
        | false =>
          have ub7 := pj_u_leF b7
          refine pj_X_of (fun r h => pj_R_icF rfl b7 h) ?_
          refine pj_X_of (fun r h => pj_R_to (G0, 58, [(1, .int (Int32.ofInt 1 + Int32.ofInt 4)), (0, .int z3)], [], 0, 0) 58 2 (fun _ => rfl) h) ?_
          obtain ⟨z15, hz15⟩ : ∃ z : Int32, z = Int32.ofInt 1 + Int32.ofInt 4 := ⟨_, rfl⟩
          rw [← hz15]
          have fz15_0 : z15.toInt = (Int32.ofInt 1).toInt + (Int32.ofInt 4).toInt := by rw [hz15]; exact pj_addI (by have := pj_i32 (Int32.ofInt 1); have := pj_i32 (Int32.ofInt 4); omega) (by have := pj_i32 (Int32.ofInt 1); have := pj_i32 (Int32.ofInt 4); omega)
          refine pj_X_of (fun r h => pj_R_to (G0, 61, [(1, .int z15), (0, .int z3)], [.int ((z3.toUInt32 >>> ((Int32.ofInt 4).toUInt32 &&& Int32.toUInt32 31)).toInt32)], 0, 0) 61 4 (fun _ => rfl) h) ?_
          obtain ⟨z16, hz16⟩ : ∃ z : Int32, z = (z3.toUInt32 >>> ((Int32.ofInt 4).toUInt32 &&& Int32.toUInt32 31)).toInt32 := ⟨_, rfl⟩
          refine pj_X_eqi hz16.symm ?_
          have fz16_0 : z16.toInt = z3.toInt / 16 := by rw [hz16]; exact pj_usI (k := 4) (by decide) (by decide) (by omega)
          have fz16_1 : 1 ≤ z16.toInt ∧ z16.toInt ≤ 16 := by rw [hz16]; exact (by have hq : ((z3.toUInt32 >>> ((Int32.ofInt 4).toUInt32 &&& Int32.toUInt32 31)).toInt32).toInt = z3.toInt / 16 := pj_usI (k := 4) (by decide) (by decide) (by omega); have hr := pj_i32 z3; omega)
          refine pj_X_of (fun r h => pj_R_to (G0, 64, [(0, .int z16), (1, .int z15)], [.int (Int32.ofInt 4), .int z16], 0, 0) 64 4 (fun _ => rfl) h) ?_
          cases b17 : pj_c1 .le z16 (Int32.ofInt 4) with
          | true =>
            have ub17 := pj_u_leT b17
            refine pj_X_of (fun r h => pj_R_icT 74 rfl rfl b17 h) ?_
            refine pj_X_of (fun r h => pj_R_to (G0, 78, [(0, .int z16), (1, .int z15)], [.int ((z16.toUInt32 >>> ((Int32.ofInt 1).toUInt32 &&& Int32.toUInt32 31)).toInt32), .int z15], 0, 0) 78 5 (fun _ => rfl) h) ?_
            obtain ⟨z18, hz18⟩ : ∃ z : Int32, z = (z16.toUInt32 >>> ((Int32.ofInt 1).toUInt32 &&& Int32.toUInt32 31)).toInt32 := ⟨_, rfl⟩
            refine pj_X_eqi hz18.symm ?_
            have fz18_0 : z18.toInt = z16.toInt / 2 := by rw [hz18]; exact pj_usI (k := 1) (by decide) (by decide) (by omega)
            have fz18_1 : 0 ≤ z18.toInt ∧ z18.toInt ≤ 2 := by rw [hz18]; exact (by have hq : ((z16.toUInt32 >>> ((Int32.ofInt 1).toUInt32 &&& Int32.toUInt32 31)).toInt32).toInt = z16.toInt / 2 := pj_usI (k := 1) (by decide) (by decide) (by omega); have hr := pj_i32 z16; omega)
            refine pj_X_of (fun r h => pj_R_to (G0, 79, [(0, .int z16), (1, .int z15)], [.int (z15 + z18)], 0, 0) 79 2 (fun _ => rfl) h) ?_
            obtain ⟨z19, hz19⟩ : ∃ z : Int32, z = z15 + z18 := ⟨_, rfl⟩
            refine pj_X_eqi hz19.symm ?_
            have fz19_0 : z19.toInt = z15.toInt + z18.toInt := by rw [hz19]; exact pj_addI (by have := pj_i32 z15; have := pj_i32 z18; omega) (by have := pj_i32 z15; have := pj_i32 z18; omega)
            exact pj_X_rt rfl rfl ⟨_, rfl, rfl, ⟨by omega, by omega⟩⟩
          | false =>
            have ub17 := pj_u_leF b17
            refine pj_X_of (fun r h => pj_R_icF rfl b17 h) ?_
            refine pj_X_of (fun r h => pj_R_to (G0, 70, [(1, .int (z15 + Int32.ofInt 2)), (0, .int z16)], [], 0, 0) 70 2 (fun _ => rfl) h) ?_
            obtain ⟨z20, hz20⟩ : ∃ z : Int32, z = z15 + Int32.ofInt 2 := ⟨_, rfl⟩
            rw [← hz20]
            have fz20_0 : z20.toInt = z15.toInt + (Int32.ofInt 2).toInt := by rw [hz20]; exact pj_addI (by have := pj_i32 z15; have := pj_i32 (Int32.ofInt 2); omega) (by have := pj_i32 z15; have := pj_i32 (Int32.ofInt 2); omega)
            refine pj_X_of (fun r h => pj_R_to (G0, 73, [(1, .int z20), (0, .int z16)], [.int ((z16.toUInt32 >>> ((Int32.ofInt 2).toUInt32 &&& Int32.toUInt32 31)).toInt32)], 0, 0) 73 4 (fun _ => rfl) h) ?_
            obtain ⟨z21, hz21⟩ : ∃ z : Int32, z = (z16.toUInt32 >>> ((Int32.ofInt 2).toUInt32 &&& Int32.toUInt32 31)).toInt32 := ⟨_, rfl⟩
            refine pj_X_eqi hz21.symm ?_
            have fz21_0 : z21.toInt = z16.toInt / 4 := by rw [hz21]; exact pj_usI (k := 2) (by decide) (by decide) (by omega)
            have fz21_1 : 1 ≤ z21.toInt ∧ z21.toInt ≤ 4 := by rw [hz21]; exact (by have hq : ((z16.toUInt32 >>> ((Int32.ofInt 2).toUInt32 &&& Int32.toUInt32 31)).toInt32).toInt = z16.toInt / 4 := pj_usI (k := 2) (by decide) (by decide) (by omega); have hr := pj_i32 z16; omega)
            refine pj_X_of (fun r h => pj_R_to (G0, 78, [(0, .int z21), (1, .int z20)], [.int ((z21.toUInt32 >>> ((Int32.ofInt 1).toUInt32 &&& Int32.toUInt32 31)).toInt32), .int z20], 0, 0) 78 6 (fun _ => rfl) h) ?_
            obtain ⟨z22, hz22⟩ : ∃ z : Int32, z = (z21.toUInt32 >>> ((Int32.ofInt 1).toUInt32 &&& Int32.toUInt32 31)).toInt32 := ⟨_, rfl⟩
            refine pj_X_eqi hz22.symm ?_
            have fz22_0 : z22.toInt = z21.toInt / 2 := by rw [hz22]; exact pj_usI (k := 1) (by decide) (by decide) (by omega)
            have fz22_1 : 0 ≤ z22.toInt ∧ z22.toInt ≤ 2 := by rw [hz22]; exact (by have hq : ((z21.toUInt32 >>> ((Int32.ofInt 1).toUInt32 &&& Int32.toUInt32 31)).toInt32).toInt = z21.toInt / 2 := pj_usI (k := 1) (by decide) (by decide) (by omega); have hr := pj_i32 z21; omega)
            refine pj_X_of (fun r h => pj_R_to (G0, 79, [(0, .int z21), (1, .int z20)], [.int (z20 + z22)], 0, 0) 79 2 (fun _ => rfl) h) ?_
            obtain ⟨z23, hz23⟩ : ∃ z : Int32, z = z20 + z22 := ⟨_, rfl⟩
            refine pj_X_eqi hz23.symm ?_
            have fz23_0 : z23.toInt = z20.toInt + z22.toInt := by rw [hz23]; exact pj_addI (by have := pj_i32 z20; have := pj_i32 z22; omega) (by have := pj_i32 z20; have := pj_i32 z22; omega)
            exact pj_X_rt rfl rfl ⟨_, rfl, rfl, ⟨by omega, by omega⟩⟩
      | false =>
        have ub6 := pj_u_leF b6
        refine pj_X_of (fun r h => pj_R_icF rfl b6 h) ?_
        refine pj_X_of (fun r h => pj_R_to (G0, 44, [(1, .int (Int32.ofInt 1 + Int32.ofInt 8)), (0, .int z3)], [], 0, 0) 44 2 (fun _ => rfl) h) ?_
        obtain ⟨z24, hz24⟩ : ∃ z : Int32, z = Int32.ofInt 1 + Int32.ofInt 8 := ⟨_, rfl⟩
        rw [← hz24]
        have fz24_0 : z24.toInt = (Int32.ofInt 1).toInt + (Int32.ofInt 8).toInt := by rw [hz24]; exact pj_addI (by have := pj_i32 (Int32.ofInt 1); have := pj_i32 (Int32.ofInt 8); omega) (by have := pj_i32 (Int32.ofInt 1); have := pj_i32 (Int32.ofInt 8); omega)
        refine pj_X_of (fun r h => pj_R_to (G0, 48, [(1, .int z24), (0, .int z3)], [.int ((z3.toUInt32 >>> (((Int8.ofInt 8).toInt32).toUInt32 &&& Int32.toUInt32 31)).toInt32)], 0, 0) 48 4 (fun _ => rfl) h) ?_
        obtain ⟨z25, hz25⟩ : ∃ z : Int32, z = (z3.toUInt32 >>> (((Int8.ofInt 8).toInt32).toUInt32 &&& Int32.toUInt32 31)).toInt32 := ⟨_, rfl⟩
        refine pj_X_eqi hz25.symm ?_
        have fz25_0 : z25.toInt = z3.toInt / 256 := by rw [hz25]; exact pj_usI (k := 8) (by decide) (by decide) (by omega)
        have fz25_1 : 1 ≤ z25.toInt ∧ z25.toInt ≤ 256 := by rw [hz25]; exact (by have hq : ((z3.toUInt32 >>> (((Int8.ofInt 8).toInt32).toUInt32 &&& Int32.toUInt32 31)).toInt32).toInt = z3.toInt / 256 := pj_usI (k := 8) (by decide) (by decide) (by omega); have hr := pj_i32 z3; omega)
        refine pj_X_of (fun r h => pj_R_to (G0, 52, [(0, .int z25), (1, .int z24)], [.int ((Int8.ofInt 16).toInt32), .int z25], 0, 0) 52 4 (fun _ => rfl) h) ?_
        cases b26 : pj_c1 .le z25 ((Int8.ofInt 16).toInt32) with
        | true =>
          have ub26 := pj_u_leT b26
          refine pj_X_of (fun r h => pj_R_icT 62 rfl rfl b26 h) ?_
          refine pj_X_of (fun r h => pj_R_to (G0, 64, [(0, .int z25), (1, .int z24)], [.int (Int32.ofInt 4), .int z25], 0, 0) 64 3 (fun _ => rfl) h) ?_
          cases b27 : pj_c1 .le z25 (Int32.ofInt 4) with
          | true =>
            have ub27 := pj_u_leT b27
            refine pj_X_of (fun r h => pj_R_icT 74 rfl rfl b27 h) ?_
            refine pj_X_of (fun r h => pj_R_to (G0, 78, [(0, .int z25), (1, .int z24)], [.int ((z25.toUInt32 >>> ((Int32.ofInt 1).toUInt32 &&& Int32.toUInt32 31)).toInt32), .int z24], 0, 0) 78 5 (fun _ => rfl) h) ?_
            obtain ⟨z28, hz28⟩ : ∃ z : Int32, z = (z25.toUInt32 >>> ((Int32.ofInt 1).toUInt32 &&& Int32.toUInt32 31)).toInt32 := ⟨_, rfl⟩
            refine pj_X_eqi hz28.symm ?_
            have fz28_0 : z28.toInt = z25.toInt / 2 := by rw [hz28]; exact pj_usI (k := 1) (by decide) (by decide) (by omega)
            have fz28_1 : 0 ≤ z28.toInt ∧ z28.toInt ≤ 2 := by rw [hz28]; exact (by have hq : ((z25.toUInt32 >>> ((Int32.ofInt 1).toUInt32 &&& Int32.toUInt32 31)).toInt32).toInt = z25.toInt / 2 := pj_usI (k := 1) (by decide) (by decide) (by omega); have hr := pj_i32 z25; omega)
            refine pj_X_of (fun r h => pj_R_to (G0, 79, [(0, .int z25), (1, .int z24)], [.int (z24 + z28)], 0, 0) 79 2 (fun _ => rfl) h) ?_
            obtain ⟨z29, hz29⟩ : ∃ z : Int32, z = z24 + z28 := ⟨_, rfl⟩
            refine pj_X_eqi hz29.symm ?_
            have fz29_0 : z29.toInt = z24.toInt + z28.toInt := by rw [hz29]; exact pj_addI (by have := pj_i32 z24; have := pj_i32 z28; omega) (by have := pj_i32 z24; have := pj_i32 z28; omega)
            exact pj_X_rt rfl rfl ⟨_, rfl, rfl, ⟨by omega, by omega⟩⟩
          | false =>
            have ub27 := pj_u_leF b27
            refine pj_X_of (fun r h => pj_R_icF rfl b27 h) ?_
            refine pj_X_of (fun r h => pj_R_to (G0, 70, [(1, .int (z24 + Int32.ofInt 2)), (0, .int z25)], [], 0, 0) 70 2 (fun _ => rfl) h) ?_
            obtain ⟨z30, hz30⟩ : ∃ z : Int32, z = z24 + Int32.ofInt 2 := ⟨_, rfl⟩
            rw [← hz30]
            have fz30_0 : z30.toInt = z24.toInt + (Int32.ofInt 2).toInt := by rw [hz30]; exact pj_addI (by have := pj_i32 z24; have := pj_i32 (Int32.ofInt 2); omega) (by have := pj_i32 z24; have := pj_i32 (Int32.ofInt 2); omega)
            refine pj_X_of (fun r h => pj_R_to (G0, 73, [(1, .int z30), (0, .int z25)], [.int ((z25.toUInt32 >>> ((Int32.ofInt 2).toUInt32 &&& Int32.toUInt32 31)).toInt32)], 0, 0) 73 4 (fun _ => rfl) h) ?_
            obtain ⟨z31, hz31⟩ : ∃ z : Int32, z = (z25.toUInt32 >>> ((Int32.ofInt 2).toUInt32 &&& Int32.toUInt32 31)).toInt32 := ⟨_, rfl⟩
            refine pj_X_eqi hz31.symm ?_
            have fz31_0 : z31.toInt = z25.toInt / 4 := by rw [hz31]; exact pj_usI (k := 2) (by decide) (by decide) (by omega)
            have fz31_1 : 1 ≤ z31.toInt ∧ z31.toInt ≤ 4 := by rw [hz31]; exact (by have hq : ((z25.toUInt32 >>> ((Int32.ofInt 2).toUInt32 &&& Int32.toUInt32 31)).toInt32).toInt = z25.toInt / 4 := pj_usI (k := 2) (by decide) (by decide) (by omega); have hr := pj_i32 z25; omega)
            refine pj_X_of (fun r h => pj_R_to (G0, 78, [(0, .int z31), (1, .int z30)], [.int ((z31.toUInt32 >>> ((Int32.ofInt 1).toUInt32 &&& Int32.toUInt32 31)).toInt32), .int z30], 0, 0) 78 6 (fun _ => rfl) h) ?_
            obtain ⟨z32, hz32⟩ : ∃ z : Int32, z = (z31.toUInt32 >>> ((Int32.ofInt 1).toUInt32 &&& Int32.toUInt32 31)).toInt32 := ⟨_, rfl⟩
            refine pj_X_eqi hz32.symm ?_
            have fz32_0 : z32.toInt = z31.toInt / 2 := by rw [hz32]; exact pj_usI (k := 1) (by decide) (by decide) (by omega)
            have fz32_1 : 0 ≤ z32.toInt ∧ z32.toInt ≤ 2 := by rw [hz32]; exact (by have hq : ((z31.toUInt32 >>> ((Int32.ofInt 1).toUInt32 &&& Int32.toUInt32 31)).toInt32).toInt = z31.toInt / 2 := pj_usI (k := 1) (by decide) (by decide) (by omega); have hr := pj_i32 z31; omega)
            refine pj_X_of (fun r h => pj_R_to (G0, 79, [(0, .int z31), (1, .int z30)], [.int (z30 + z32)], 0, 0) 79 2 (fun _ => rfl) h) ?_
            obtain ⟨z33, hz33⟩ : ∃ z : Int32, z = z30 + z32 := ⟨_, rfl⟩
            refine pj_X_eqi hz33.symm ?_
            have fz33_0 : z33.toInt = z30.toInt + z32.toInt := by rw [hz33]; exact pj_addI (by have := pj_i32 z30; have := pj_i32 z32; omega) (by have := pj_i32 z30; have := pj_i32 z32; omega)
            exact pj_X_rt rfl rfl ⟨_, rfl, rfl, ⟨by omega, by omega⟩⟩
        | false =>
          have ub26 := pj_u_leF b26
          refine pj_X_of (fun r h => pj_R_icF rfl b26 h) ?_
          refine pj_X_of (fun r h => pj_R_to (G0, 58, [(1, .int (z24 + Int32.ofInt 4)), (0, .int z25)], [], 0, 0) 58 2 (fun _ => rfl) h) ?_
          obtain ⟨z34, hz34⟩ : ∃ z : Int32, z = z24 + Int32.ofInt 4 := ⟨_, rfl⟩
          rw [← hz34]
          have fz34_0 : z34.toInt = z24.toInt + (Int32.ofInt 4).toInt := by rw [hz34]; exact pj_addI (by have := pj_i32 z24; have := pj_i32 (Int32.ofInt 4); omega) (by have := pj_i32 z24; have := pj_i32 (Int32.ofInt 4); omega)
          refine pj_X_of (fun r h => pj_R_to (G0, 61, [(1, .int z34), (0, .int z25)], [.int ((z25.toUInt32 >>> ((Int32.ofInt 4).toUInt32 &&& Int32.toUInt32 31)).toInt32)], 0, 0) 61 4 (fun _ => rfl) h) ?_
          obtain ⟨z35, hz35⟩ : ∃ z : Int32, z = (z25.toUInt32 >>> ((Int32.ofInt 4).toUInt32 &&& Int32.toUInt32 31)).toInt32 := ⟨_, rfl⟩
          refine pj_X_eqi hz35.symm ?_
          have fz35_0 : z35.toInt = z25.toInt / 16 := by rw [hz35]; exact pj_usI (k := 4) (by decide) (by decide) (by omega)
          have fz35_1 : 1 ≤ z35.toInt ∧ z35.toInt ≤ 16 := by rw [hz35]; exact (by have hq : ((z25.toUInt32 >>> ((Int32.ofInt 4).toUInt32 &&& Int32.toUInt32 31)).toInt32).toInt = z25.toInt / 16 := pj_usI (k := 4) (by decide) (by decide) (by omega); have hr := pj_i32 z25; omega)
          refine pj_X_of (fun r h => pj_R_to (G0, 64, [(0, .int z35), (1, .int z34)], [.int (Int32.ofInt 4), .int z35], 0, 0) 64 4 (fun _ => rfl) h) ?_
          cases b36 : pj_c1 .le z35 (Int32.ofInt 4) with
          | true =>
            have ub36 := pj_u_leT b36
            refine pj_X_of (fun r h => pj_R_icT 74 rfl rfl b36 h) ?_
            refine pj_X_of (fun r h => pj_R_to (G0, 78, [(0, .int z35), (1, .int z34)], [.int ((z35.toUInt32 >>> ((Int32.ofInt 1).toUInt32 &&& Int32.toUInt32 31)).toInt32), .int z34], 0, 0) 78 5 (fun _ => rfl) h) ?_
            obtain ⟨z37, hz37⟩ : ∃ z : Int32, z = (z35.toUInt32 >>> ((Int32.ofInt 1).toUInt32 &&& Int32.toUInt32 31)).toInt32 := ⟨_, rfl⟩
            refine pj_X_eqi hz37.symm ?_
            have fz37_0 : z37.toInt = z35.toInt / 2 := by rw [hz37]; exact pj_usI (k := 1) (by decide) (by decide) (by omega)
            have fz37_1 : 0 ≤ z37.toInt ∧ z37.toInt ≤ 2 := by rw [hz37]; exact (by have hq : ((z35.toUInt32 >>> ((Int32.ofInt 1).toUInt32 &&& Int32.toUInt32 31)).toInt32).toInt = z35.toInt / 2 := pj_usI (k := 1) (by decide) (by decide) (by omega); have hr := pj_i32 z35; omega)
            refine pj_X_of (fun r h => pj_R_to (G0, 79, [(0, .int z35), (1, .int z34)], [.int (z34 + z37)], 0, 0) 79 2 (fun _ => rfl) h) ?_
            obtain ⟨z38, hz38⟩ : ∃ z : Int32, z = z34 + z37 := ⟨_, rfl⟩
            refine pj_X_eqi hz38.symm ?_
            have fz38_0 : z38.toInt = z34.toInt + z37.toInt := by rw [hz38]; exact pj_addI (by have := pj_i32 z34; have := pj_i32 z37; omega) (by have := pj_i32 z34; have := pj_i32 z37; omega)
            exact pj_X_rt rfl rfl ⟨_, rfl, rfl, ⟨by omega, by omega⟩⟩
          | false =>
            have ub36 := pj_u_leF b36
            refine pj_X_of (fun r h => pj_R_icF rfl b36 h) ?_
            refine pj_X_of (fun r h => pj_R_to (G0, 70, [(1, .int (z34 + Int32.ofInt 2)), (0, .int z35)], [], 0, 0) 70 2 (fun _ => rfl) h) ?_
            obtain ⟨z39, hz39⟩ : ∃ z : Int32, z = z34 + Int32.ofInt 2 := ⟨_, rfl⟩
            rw [← hz39]
            have fz39_0 : z39.toInt = z34.toInt + (Int32.ofInt 2).toInt := by rw [hz39]; exact pj_addI (by have := pj_i32 z34; have := pj_i32 (Int32.ofInt 2); omega) (by have := pj_i32 z34; have := pj_i32 (Int32.ofInt 2); omega)
            refine pj_X_of (fun r h => pj_R_to (G0, 73, [(1, .int z39), (0, .int z35)], [.int ((z35.toUInt32 >>> ((Int32.ofInt 2).toUInt32 &&& Int32.toUInt32 31)).toInt32)], 0, 0) 73 4 (fun _ => rfl) h) ?_
            obtain ⟨z40, hz40⟩ : ∃ z : Int32, z = (z35.toUInt32 >>> ((Int32.ofInt 2).toUInt32 &&& Int32.toUInt32 31)).toInt32 := ⟨_, rfl⟩
            refine pj_X_eqi hz40.symm ?_
            have fz40_0 : z40.toInt = z35.toInt / 4 := by rw [hz40]; exact pj_usI (k := 2) (by decide) (by decide) (by omega)
            have fz40_1 : 1 ≤ z40.toInt ∧ z40.toInt ≤ 4 := by rw [hz40]; exact (by have hq : ((z35.toUInt32 >>> ((Int32.ofInt 2).toUInt32 &&& Int32.toUInt32 31)).toInt32).toInt = z35.toInt / 4 := pj_usI (k := 2) (by decide) (by decide) (by omega); have hr := pj_i32 z35; omega)
            refine pj_X_of (fun r h => pj_R_to (G0, 78, [(0, .int z40), (1, .int z39)], [.int ((z40.toUInt32 >>> ((Int32.ofInt 1).toUInt32 &&& Int32.toUInt32 31)).toInt32), .int z39], 0, 0) 78 6 (fun _ => rfl) h) ?_
            obtain ⟨z41, hz41⟩ : ∃ z : Int32, z = (z40.toUInt32 >>> ((Int32.ofInt 1).toUInt32 &&& Int32.toUInt32 31)).toInt32 := ⟨_, rfl⟩
            refine pj_X_eqi hz41.symm ?_
            have fz41_0 : z41.toInt = z40.toInt / 2 := by rw [hz41]; exact pj_usI (k := 1) (by decide) (by decide) (by omega)
            have fz41_1 : 0 ≤ z41.toInt ∧ z41.toInt ≤ 2 := by rw [hz41]; exact (by have hq : ((z40.toUInt32 >>> ((Int32.ofInt 1).toUInt32 &&& Int32.toUInt32 31)).toInt32).toInt = z40.toInt / 2 := pj_usI (k := 1) (by decide) (by decide) (by omega); have hr := pj_i32 z40; omega)
            refine pj_X_of (fun r h => pj_R_to (G0, 79, [(0, .int z40), (1, .int z39)], [.int (z39 + z41)], 0, 0) 79 2 (fun _ => rfl) h) ?_
            obtain ⟨z42, hz42⟩ : ∃ z : Int32, z = z39 + z41 := ⟨_, rfl⟩
            refine pj_X_eqi hz42.symm ?_
            have fz42_0 : z42.toInt = z39.toInt + z41.toInt := by rw [hz42]; exact pj_addI (by have := pj_i32 z39; have := pj_i32 z41; omega) (by have := pj_i32 z39; have := pj_i32 z41; omega)
            exact pj_X_rt rfl rfl ⟨_, rfl, rfl, ⟨by omega, by omega⟩⟩
    | false =>
      have ub5 := pj_u_leF b5
      refine pj_X_of (fun r h => pj_R_icF rfl b5 h) ?_
      refine pj_X_of (fun r h => pj_R_to (G0, 29, [(1, .int (Int32.ofInt 1 + Int32.ofInt 16)), (0, .int z3)], [], 0, 0) 29 2 (fun _ => rfl) h) ?_
      obtain ⟨z43, hz43⟩ : ∃ z : Int32, z = Int32.ofInt 1 + Int32.ofInt 16 := ⟨_, rfl⟩
      rw [← hz43]
      have fz43_0 : z43.toInt = (Int32.ofInt 1).toInt + (Int32.ofInt 16).toInt := by rw [hz43]; exact pj_addI (by have := pj_i32 (Int32.ofInt 1); have := pj_i32 (Int32.ofInt 16); omega) (by have := pj_i32 (Int32.ofInt 1); have := pj_i32 (Int32.ofInt 16); omega)
      refine pj_X_of (fun r h => pj_R_to (G0, 33, [(1, .int z43), (0, .int z3)], [.int ((z3.toUInt32 >>> (((Int8.ofInt 16).toInt32).toUInt32 &&& Int32.toUInt32 31)).toInt32)], 0, 0) 33 4 (fun _ => rfl) h) ?_
      obtain ⟨z44, hz44⟩ : ∃ z : Int32, z = (z3.toUInt32 >>> (((Int8.ofInt 16).toInt32).toUInt32 &&& Int32.toUInt32 31)).toInt32 := ⟨_, rfl⟩
      refine pj_X_eqi hz44.symm ?_
      have fz44_0 : z44.toInt = z3.toInt / 65536 := by rw [hz44]; exact pj_usI (k := 16) (by decide) (by decide) (by omega)
      have fz44_1 : 1 ≤ z44.toInt ∧ z44.toInt ≤ 32767 := by rw [hz44]; exact (by have hq : ((z3.toUInt32 >>> (((Int8.ofInt 16).toInt32).toUInt32 &&& Int32.toUInt32 31)).toInt32).toInt = z3.toInt / 65536 := pj_usI (k := 16) (by decide) (by decide) (by omega); have hr := pj_i32 z3; omega)
      refine pj_X_of (fun r h => pj_R_to (G0, 38, [(0, .int z44), (1, .int z43)], [.int ((Int16.ofInt 256).toInt32), .int z44], 0, 0) 38 4 (fun _ => rfl) h) ?_
      cases b45 : pj_c1 .le z44 ((Int16.ofInt 256).toInt32) with
      | true =>
        have ub45 := pj_u_leT b45
        refine pj_X_of (fun r h => pj_R_icT 49 rfl rfl b45 h) ?_
        refine pj_X_of (fun r h => pj_R_to (G0, 52, [(0, .int z44), (1, .int z43)], [.int ((Int8.ofInt 16).toInt32), .int z44], 0, 0) 52 3 (fun _ => rfl) h) ?_
        cases b46 : pj_c1 .le z44 ((Int8.ofInt 16).toInt32) with
        | true =>
          have ub46 := pj_u_leT b46
          refine pj_X_of (fun r h => pj_R_icT 62 rfl rfl b46 h) ?_
          refine pj_X_of (fun r h => pj_R_to (G0, 64, [(0, .int z44), (1, .int z43)], [.int (Int32.ofInt 4), .int z44], 0, 0) 64 3 (fun _ => rfl) h) ?_
          cases b47 : pj_c1 .le z44 (Int32.ofInt 4) with
          | true =>
            have ub47 := pj_u_leT b47
            refine pj_X_of (fun r h => pj_R_icT 74 rfl rfl b47 h) ?_
            refine pj_X_of (fun r h => pj_R_to (G0, 78, [(0, .int z44), (1, .int z43)], [.int ((z44.toUInt32 >>> ((Int32.ofInt 1).toUInt32 &&& Int32.toUInt32 31)).toInt32), .int z43], 0, 0) 78 5 (fun _ => rfl) h) ?_
            obtain ⟨z48, hz48⟩ : ∃ z : Int32, z = (z44.toUInt32 >>> ((Int32.ofInt 1).toUInt32 &&& Int32.toUInt32 31)).toInt32 := ⟨_, rfl⟩
            refine pj_X_eqi hz48.symm ?_
            have fz48_0 : z48.toInt = z44.toInt / 2 := by rw [hz48]; exact pj_usI (k := 1) (by decide) (by decide) (by omega)
            have fz48_1 : 0 ≤ z48.toInt ∧ z48.toInt ≤ 2 := by rw [hz48]; exact (by have hq : ((z44.toUInt32 >>> ((Int32.ofInt 1).toUInt32 &&& Int32.toUInt32 31)).toInt32).toInt = z44.toInt / 2 := pj_usI (k := 1) (by decide) (by decide) (by omega); have hr := pj_i32 z44; omega)
            refine pj_X_of (fun r h => pj_R_to (G0, 79, [(0, .int z44), (1, .int z43)], [.int (z43 + z48)], 0, 0) 79 2 (fun _ => rfl) h) ?_
            obtain ⟨z49, hz49⟩ : ∃ z : Int32, z = z43 + z48 := ⟨_, rfl⟩
            refine pj_X_eqi hz49.symm ?_
            have fz49_0 : z49.toInt = z43.toInt + z48.toInt := by rw [hz49]; exact pj_addI (by have := pj_i32 z43; have := pj_i32 z48; omega) (by have := pj_i32 z43; have := pj_i32 z48; omega)
            exact pj_X_rt rfl rfl ⟨_, rfl, rfl, ⟨by omega, by omega⟩⟩
          | false =>
            have ub47 := pj_u_leF b47
            refine pj_X_of (fun r h => pj_R_icF rfl b47 h) ?_
            refine pj_X_of (fun r h => pj_R_to (G0, 70, [(1, .int (z43 + Int32.ofInt 2)), (0, .int z44)], [], 0, 0) 70 2 (fun _ => rfl) h) ?_
            obtain ⟨z50, hz50⟩ : ∃ z : Int32, z = z43 + Int32.ofInt 2 := ⟨_, rfl⟩
            rw [← hz50]
            have fz50_0 : z50.toInt = z43.toInt + (Int32.ofInt 2).toInt := by rw [hz50]; exact pj_addI (by have := pj_i32 z43; have := pj_i32 (Int32.ofInt 2); omega) (by have := pj_i32 z43; have := pj_i32 (Int32.ofInt 2); omega)
            refine pj_X_of (fun r h => pj_R_to (G0, 73, [(1, .int z50), (0, .int z44)], [.int ((z44.toUInt32 >>> ((Int32.ofInt 2).toUInt32 &&& Int32.toUInt32 31)).toInt32)], 0, 0) 73 4 (fun _ => rfl) h) ?_
            obtain ⟨z51, hz51⟩ : ∃ z : Int32, z = (z44.toUInt32 >>> ((Int32.ofInt 2).toUInt32 &&& Int32.toUInt32 31)).toInt32 := ⟨_, rfl⟩
            refine pj_X_eqi hz51.symm ?_
            have fz51_0 : z51.toInt = z44.toInt / 4 := by rw [hz51]; exact pj_usI (k := 2) (by decide) (by decide) (by omega)
            have fz51_1 : 1 ≤ z51.toInt ∧ z51.toInt ≤ 4 := by rw [hz51]; exact (by have hq : ((z44.toUInt32 >>> ((Int32.ofInt 2).toUInt32 &&& Int32.toUInt32 31)).toInt32).toInt = z44.toInt / 4 := pj_usI (k := 2) (by decide) (by decide) (by omega); have hr := pj_i32 z44; omega)
            refine pj_X_of (fun r h => pj_R_to (G0, 78, [(0, .int z51), (1, .int z50)], [.int ((z51.toUInt32 >>> ((Int32.ofInt 1).toUInt32 &&& Int32.toUInt32 31)).toInt32), .int z50], 0, 0) 78 6 (fun _ => rfl) h) ?_
            obtain ⟨z52, hz52⟩ : ∃ z : Int32, z = (z51.toUInt32 >>> ((Int32.ofInt 1).toUInt32 &&& Int32.toUInt32 31)).toInt32 := ⟨_, rfl⟩
            refine pj_X_eqi hz52.symm ?_
            have fz52_0 : z52.toInt = z51.toInt / 2 := by rw [hz52]; exact pj_usI (k := 1) (by decide) (by decide) (by omega)
            have fz52_1 : 0 ≤ z52.toInt ∧ z52.toInt ≤ 2 := by rw [hz52]; exact (by have hq : ((z51.toUInt32 >>> ((Int32.ofInt 1).toUInt32 &&& Int32.toUInt32 31)).toInt32).toInt = z51.toInt / 2 := pj_usI (k := 1) (by decide) (by decide) (by omega); have hr := pj_i32 z51; omega)
            refine pj_X_of (fun r h => pj_R_to (G0, 79, [(0, .int z51), (1, .int z50)], [.int (z50 + z52)], 0, 0) 79 2 (fun _ => rfl) h) ?_
            obtain ⟨z53, hz53⟩ : ∃ z : Int32, z = z50 + z52 := ⟨_, rfl⟩
            refine pj_X_eqi hz53.symm ?_
            have fz53_0 : z53.toInt = z50.toInt + z52.toInt := by rw [hz53]; exact pj_addI (by have := pj_i32 z50; have := pj_i32 z52; omega) (by have := pj_i32 z50; have := pj_i32 z52; omega)
            exact pj_X_rt rfl rfl ⟨_, rfl, rfl, ⟨by omega, by omega⟩⟩
        | false =>
          have ub46 := pj_u_leF b46
          refine pj_X_of (fun r h => pj_R_icF rfl b46 h) ?_
          refine pj_X_of (fun r h => pj_R_to (G0, 58, [(1, .int (z43 + Int32.ofInt 4)), (0, .int z44)], [], 0, 0) 58 2 (fun _ => rfl) h) ?_
          obtain ⟨z54, hz54⟩ : ∃ z : Int32, z = z43 + Int32.ofInt 4 := ⟨_, rfl⟩
          rw [← hz54]
          have fz54_0 : z54.toInt = z43.toInt + (Int32.ofInt 4).toInt := by rw [hz54]; exact pj_addI (by have := pj_i32 z43; have := pj_i32 (Int32.ofInt 4); omega) (by have := pj_i32 z43; have := pj_i32 (Int32.ofInt 4); omega)
          refine pj_X_of (fun r h => pj_R_to (G0, 61, [(1, .int z54), (0, .int z44)], [.int ((z44.toUInt32 >>> ((Int32.ofInt 4).toUInt32 &&& Int32.toUInt32 31)).toInt32)], 0, 0) 61 4 (fun _ => rfl) h) ?_
          obtain ⟨z55, hz55⟩ : ∃ z : Int32, z = (z44.toUInt32 >>> ((Int32.ofInt 4).toUInt32 &&& Int32.toUInt32 31)).toInt32 := ⟨_, rfl⟩
          refine pj_X_eqi hz55.symm ?_
          have fz55_0 : z55.toInt = z44.toInt / 16 := by rw [hz55]; exact pj_usI (k := 4) (by decide) (by decide) (by omega)
          have fz55_1 : 1 ≤ z55.toInt ∧ z55.toInt ≤ 16 := by rw [hz55]; exact (by have hq : ((z44.toUInt32 >>> ((Int32.ofInt 4).toUInt32 &&& Int32.toUInt32 31)).toInt32).toInt = z44.toInt / 16 := pj_usI (k := 4) (by decide) (by decide) (by omega); have hr := pj_i32 z44; omega)
          refine pj_X_of (fun r h => pj_R_to (G0, 64, [(0, .int z55), (1, .int z54)], [.int (Int32.ofInt 4), .int z55], 0, 0) 64 4 (fun _ => rfl) h) ?_
          cases b56 : pj_c1 .le z55 (Int32.ofInt 4) with
          | true =>
            have ub56 := pj_u_leT b56
            refine pj_X_of (fun r h => pj_R_icT 74 rfl rfl b56 h) ?_
            refine pj_X_of (fun r h => pj_R_to (G0, 78, [(0, .int z55), (1, .int z54)], [.int ((z55.toUInt32 >>> ((Int32.ofInt 1).toUInt32 &&& Int32.toUInt32 31)).toInt32), .int z54], 0, 0) 78 5 (fun _ => rfl) h) ?_
            obtain ⟨z57, hz57⟩ : ∃ z : Int32, z = (z55.toUInt32 >>> ((Int32.ofInt 1).toUInt32 &&& Int32.toUInt32 31)).toInt32 := ⟨_, rfl⟩
            refine pj_X_eqi hz57.symm ?_
            have fz57_0 : z57.toInt = z55.toInt / 2 := by rw [hz57]; exact pj_usI (k := 1) (by decide) (by decide) (by omega)
            have fz57_1 : 0 ≤ z57.toInt ∧ z57.toInt ≤ 2 := by rw [hz57]; exact (by have hq : ((z55.toUInt32 >>> ((Int32.ofInt 1).toUInt32 &&& Int32.toUInt32 31)).toInt32).toInt = z55.toInt / 2 := pj_usI (k := 1) (by decide) (by decide) (by omega); have hr := pj_i32 z55; omega)
            refine pj_X_of (fun r h => pj_R_to (G0, 79, [(0, .int z55), (1, .int z54)], [.int (z54 + z57)], 0, 0) 79 2 (fun _ => rfl) h) ?_
            obtain ⟨z58, hz58⟩ : ∃ z : Int32, z = z54 + z57 := ⟨_, rfl⟩
            refine pj_X_eqi hz58.symm ?_
            have fz58_0 : z58.toInt = z54.toInt + z57.toInt := by rw [hz58]; exact pj_addI (by have := pj_i32 z54; have := pj_i32 z57; omega) (by have := pj_i32 z54; have := pj_i32 z57; omega)
            exact pj_X_rt rfl rfl ⟨_, rfl, rfl, ⟨by omega, by omega⟩⟩
          | false =>
            have ub56 := pj_u_leF b56
            refine pj_X_of (fun r h => pj_R_icF rfl b56 h) ?_
            refine pj_X_of (fun r h => pj_R_to (G0, 70, [(1, .int (z54 + Int32.ofInt 2)), (0, .int z55)], [], 0, 0) 70 2 (fun _ => rfl) h) ?_
            obtain ⟨z59, hz59⟩ : ∃ z : Int32, z = z54 + Int32.ofInt 2 := ⟨_, rfl⟩
            rw [← hz59]
            have fz59_0 : z59.toInt = z54.toInt + (Int32.ofInt 2).toInt := by rw [hz59]; exact pj_addI (by have := pj_i32 z54; have := pj_i32 (Int32.ofInt 2); omega) (by have := pj_i32 z54; have := pj_i32 (Int32.ofInt 2); omega)
            refine pj_X_of (fun r h => pj_R_to (G0, 73, [(1, .int z59), (0, .int z55)], [.int ((z55.toUInt32 >>> ((Int32.ofInt 2).toUInt32 &&& Int32.toUInt32 31)).toInt32)], 0, 0) 73 4 (fun _ => rfl) h) ?_
            obtain ⟨z60, hz60⟩ : ∃ z : Int32, z = (z55.toUInt32 >>> ((Int32.ofInt 2).toUInt32 &&& Int32.toUInt32 31)).toInt32 := ⟨_, rfl⟩
            refine pj_X_eqi hz60.symm ?_
            have fz60_0 : z60.toInt = z55.toInt / 4 := by rw [hz60]; exact pj_usI (k := 2) (by decide) (by decide) (by omega)
            have fz60_1 : 1 ≤ z60.toInt ∧ z60.toInt ≤ 4 := by rw [hz60]; exact (by have hq : ((z55.toUInt32 >>> ((Int32.ofInt 2).toUInt32 &&& Int32.toUInt32 31)).toInt32).toInt = z55.toInt / 4 := pj_usI (k := 2) (by decide) (by decide) (by omega); have hr := pj_i32 z55; omega)
            refine pj_X_of (fun r h => pj_R_to (G0, 78, [(0, .int z60), (1, .int z59)], [.int ((z60.toUInt32 >>> ((Int32.ofInt 1).toUInt32 &&& Int32.toUInt32 31)).toInt32), .int z59], 0, 0) 78 6 (fun _ => rfl) h) ?_
            obtain ⟨z61, hz61⟩ : ∃ z : Int32, z = (z60.toUInt32 >>> ((Int32.ofInt 1).toUInt32 &&& Int32.toUInt32 31)).toInt32 := ⟨_, rfl⟩
            refine pj_X_eqi hz61.symm ?_
            have fz61_0 : z61.toInt = z60.toInt / 2 := by rw [hz61]; exact pj_usI (k := 1) (by decide) (by decide) (by omega)
            have fz61_1 : 0 ≤ z61.toInt ∧ z61.toInt ≤ 2 := by rw [hz61]; exact (by have hq : ((z60.toUInt32 >>> ((Int32.ofInt 1).toUInt32 &&& Int32.toUInt32 31)).toInt32).toInt = z60.toInt / 2 := pj_usI (k := 1) (by decide) (by decide) (by omega); have hr := pj_i32 z60; omega)
            refine pj_X_of (fun r h => pj_R_to (G0, 79, [(0, .int z60), (1, .int z59)], [.int (z59 + z61)], 0, 0) 79 2 (fun _ => rfl) h) ?_
            obtain ⟨z62, hz62⟩ : ∃ z : Int32, z = z59 + z61 := ⟨_, rfl⟩
            refine pj_X_eqi hz62.symm ?_
            have fz62_0 : z62.toInt = z59.toInt + z61.toInt := by rw [hz62]; exact pj_addI (by have := pj_i32 z59; have := pj_i32 z61; omega) (by have := pj_i32 z59; have := pj_i32 z61; omega)
            exact pj_X_rt rfl rfl ⟨_, rfl, rfl, ⟨by omega, by omega⟩⟩
      | false =>
        have ub45 := pj_u_leF b45
        refine pj_X_of (fun r h => pj_R_icF rfl b45 h) ?_
        refine pj_X_of (fun r h => pj_R_to (G0, 44, [(1, .int (z43 + Int32.ofInt 8)), (0, .int z44)], [], 0, 0) 44 2 (fun _ => rfl) h) ?_
        obtain ⟨z63, hz63⟩ : ∃ z : Int32, z = z43 + Int32.ofInt 8 := ⟨_, rfl⟩
        rw [← hz63]
        have fz63_0 : z63.toInt = z43.toInt + (Int32.ofInt 8).toInt := by rw [hz63]; exact pj_addI (by have := pj_i32 z43; have := pj_i32 (Int32.ofInt 8); omega) (by have := pj_i32 z43; have := pj_i32 (Int32.ofInt 8); omega)
        refine pj_X_of (fun r h => pj_R_to (G0, 48, [(1, .int z63), (0, .int z44)], [.int ((z44.toUInt32 >>> (((Int8.ofInt 8).toInt32).toUInt32 &&& Int32.toUInt32 31)).toInt32)], 0, 0) 48 4 (fun _ => rfl) h) ?_
        obtain ⟨z64, hz64⟩ : ∃ z : Int32, z = (z44.toUInt32 >>> (((Int8.ofInt 8).toInt32).toUInt32 &&& Int32.toUInt32 31)).toInt32 := ⟨_, rfl⟩
        refine pj_X_eqi hz64.symm ?_
        have fz64_0 : z64.toInt = z44.toInt / 256 := by rw [hz64]; exact pj_usI (k := 8) (by decide) (by decide) (by omega)
        have fz64_1 : 1 ≤ z64.toInt ∧ z64.toInt ≤ 127 := by rw [hz64]; exact (by have hq : ((z44.toUInt32 >>> (((Int8.ofInt 8).toInt32).toUInt32 &&& Int32.toUInt32 31)).toInt32).toInt = z44.toInt / 256 := pj_usI (k := 8) (by decide) (by decide) (by omega); have hr := pj_i32 z44; omega)
        refine pj_X_of (fun r h => pj_R_to (G0, 52, [(0, .int z64), (1, .int z63)], [.int ((Int8.ofInt 16).toInt32), .int z64], 0, 0) 52 4 (fun _ => rfl) h) ?_
        cases b65 : pj_c1 .le z64 ((Int8.ofInt 16).toInt32) with
        | true =>
          have ub65 := pj_u_leT b65
          refine pj_X_of (fun r h => pj_R_icT 62 rfl rfl b65 h) ?_
          refine pj_X_of (fun r h => pj_R_to (G0, 64, [(0, .int z64), (1, .int z63)], [.int (Int32.ofInt 4), .int z64], 0, 0) 64 3 (fun _ => rfl) h) ?_
          cases b66 : pj_c1 .le z64 (Int32.ofInt 4) with
          | true =>
            have ub66 := pj_u_leT b66
            refine pj_X_of (fun r h => pj_R_icT 74 rfl rfl b66 h) ?_
            refine pj_X_of (fun r h => pj_R_to (G0, 78, [(0, .int z64), (1, .int z63)], [.int ((z64.toUInt32 >>> ((Int32.ofInt 1).toUInt32 &&& Int32.toUInt32 31)).toInt32), .int z63], 0, 0) 78 5 (fun _ => rfl) h) ?_
            obtain ⟨z67, hz67⟩ : ∃ z : Int32, z = (z64.toUInt32 >>> ((Int32.ofInt 1).toUInt32 &&& Int32.toUInt32 31)).toInt32 := ⟨_, rfl⟩
            refine pj_X_eqi hz67.symm ?_
            have fz67_0 : z67.toInt = z64.toInt / 2 := by rw [hz67]; exact pj_usI (k := 1) (by decide) (by decide) (by omega)
            have fz67_1 : 0 ≤ z67.toInt ∧ z67.toInt ≤ 2 := by rw [hz67]; exact (by have hq : ((z64.toUInt32 >>> ((Int32.ofInt 1).toUInt32 &&& Int32.toUInt32 31)).toInt32).toInt = z64.toInt / 2 := pj_usI (k := 1) (by decide) (by decide) (by omega); have hr := pj_i32 z64; omega)
            refine pj_X_of (fun r h => pj_R_to (G0, 79, [(0, .int z64), (1, .int z63)], [.int (z63 + z67)], 0, 0) 79 2 (fun _ => rfl) h) ?_
            obtain ⟨z68, hz68⟩ : ∃ z : Int32, z = z63 + z67 := ⟨_, rfl⟩
            refine pj_X_eqi hz68.symm ?_
            have fz68_0 : z68.toInt = z63.toInt + z67.toInt := by rw [hz68]; exact pj_addI (by have := pj_i32 z63; have := pj_i32 z67; omega) (by have := pj_i32 z63; have := pj_i32 z67; omega)
            exact pj_X_rt rfl rfl ⟨_, rfl, rfl, ⟨by omega, by omega⟩⟩
          | false =>
            have ub66 := pj_u_leF b66
            refine pj_X_of (fun r h => pj_R_icF rfl b66 h) ?_
            refine pj_X_of (fun r h => pj_R_to (G0, 70, [(1, .int (z63 + Int32.ofInt 2)), (0, .int z64)], [], 0, 0) 70 2 (fun _ => rfl) h) ?_
            obtain ⟨z69, hz69⟩ : ∃ z : Int32, z = z63 + Int32.ofInt 2 := ⟨_, rfl⟩
            rw [← hz69]
            have fz69_0 : z69.toInt = z63.toInt + (Int32.ofInt 2).toInt := by rw [hz69]; exact pj_addI (by have := pj_i32 z63; have := pj_i32 (Int32.ofInt 2); omega) (by have := pj_i32 z63; have := pj_i32 (Int32.ofInt 2); omega)
            refine pj_X_of (fun r h => pj_R_to (G0, 73, [(1, .int z69), (0, .int z64)], [.int ((z64.toUInt32 >>> ((Int32.ofInt 2).toUInt32 &&& Int32.toUInt32 31)).toInt32)], 0, 0) 73 4 (fun _ => rfl) h) ?_
            obtain ⟨z70, hz70⟩ : ∃ z : Int32, z = (z64.toUInt32 >>> ((Int32.ofInt 2).toUInt32 &&& Int32.toUInt32 31)).toInt32 := ⟨_, rfl⟩
            refine pj_X_eqi hz70.symm ?_
            have fz70_0 : z70.toInt = z64.toInt / 4 := by rw [hz70]; exact pj_usI (k := 2) (by decide) (by decide) (by omega)
            have fz70_1 : 1 ≤ z70.toInt ∧ z70.toInt ≤ 4 := by rw [hz70]; exact (by have hq : ((z64.toUInt32 >>> ((Int32.ofInt 2).toUInt32 &&& Int32.toUInt32 31)).toInt32).toInt = z64.toInt / 4 := pj_usI (k := 2) (by decide) (by decide) (by omega); have hr := pj_i32 z64; omega)
            refine pj_X_of (fun r h => pj_R_to (G0, 78, [(0, .int z70), (1, .int z69)], [.int ((z70.toUInt32 >>> ((Int32.ofInt 1).toUInt32 &&& Int32.toUInt32 31)).toInt32), .int z69], 0, 0) 78 6 (fun _ => rfl) h) ?_
            obtain ⟨z71, hz71⟩ : ∃ z : Int32, z = (z70.toUInt32 >>> ((Int32.ofInt 1).toUInt32 &&& Int32.toUInt32 31)).toInt32 := ⟨_, rfl⟩
            refine pj_X_eqi hz71.symm ?_
            have fz71_0 : z71.toInt = z70.toInt / 2 := by rw [hz71]; exact pj_usI (k := 1) (by decide) (by decide) (by omega)
            have fz71_1 : 0 ≤ z71.toInt ∧ z71.toInt ≤ 2 := by rw [hz71]; exact (by have hq : ((z70.toUInt32 >>> ((Int32.ofInt 1).toUInt32 &&& Int32.toUInt32 31)).toInt32).toInt = z70.toInt / 2 := pj_usI (k := 1) (by decide) (by decide) (by omega); have hr := pj_i32 z70; omega)
            refine pj_X_of (fun r h => pj_R_to (G0, 79, [(0, .int z70), (1, .int z69)], [.int (z69 + z71)], 0, 0) 79 2 (fun _ => rfl) h) ?_
            obtain ⟨z72, hz72⟩ : ∃ z : Int32, z = z69 + z71 := ⟨_, rfl⟩
            refine pj_X_eqi hz72.symm ?_
            have fz72_0 : z72.toInt = z69.toInt + z71.toInt := by rw [hz72]; exact pj_addI (by have := pj_i32 z69; have := pj_i32 z71; omega) (by have := pj_i32 z69; have := pj_i32 z71; omega)
            exact pj_X_rt rfl rfl ⟨_, rfl, rfl, ⟨by omega, by omega⟩⟩
        | false =>
          have ub65 := pj_u_leF b65
          refine pj_X_of (fun r h => pj_R_icF rfl b65 h) ?_
          refine pj_X_of (fun r h => pj_R_to (G0, 58, [(1, .int (z63 + Int32.ofInt 4)), (0, .int z64)], [], 0, 0) 58 2 (fun _ => rfl) h) ?_
          obtain ⟨z73, hz73⟩ : ∃ z : Int32, z = z63 + Int32.ofInt 4 := ⟨_, rfl⟩
          rw [← hz73]
          have fz73_0 : z73.toInt = z63.toInt + (Int32.ofInt 4).toInt := by rw [hz73]; exact pj_addI (by have := pj_i32 z63; have := pj_i32 (Int32.ofInt 4); omega) (by have := pj_i32 z63; have := pj_i32 (Int32.ofInt 4); omega)
          refine pj_X_of (fun r h => pj_R_to (G0, 61, [(1, .int z73), (0, .int z64)], [.int ((z64.toUInt32 >>> ((Int32.ofInt 4).toUInt32 &&& Int32.toUInt32 31)).toInt32)], 0, 0) 61 4 (fun _ => rfl) h) ?_
          obtain ⟨z74, hz74⟩ : ∃ z : Int32, z = (z64.toUInt32 >>> ((Int32.ofInt 4).toUInt32 &&& Int32.toUInt32 31)).toInt32 := ⟨_, rfl⟩
          refine pj_X_eqi hz74.symm ?_
          have fz74_0 : z74.toInt = z64.toInt / 16 := by rw [hz74]; exact pj_usI (k := 4) (by decide) (by decide) (by omega)
          have fz74_1 : 1 ≤ z74.toInt ∧ z74.toInt ≤ 7 := by rw [hz74]; exact (by have hq : ((z64.toUInt32 >>> ((Int32.ofInt 4).toUInt32 &&& Int32.toUInt32 31)).toInt32).toInt = z64.toInt / 16 := pj_usI (k := 4) (by decide) (by decide) (by omega); have hr := pj_i32 z64; omega)
          refine pj_X_of (fun r h => pj_R_to (G0, 64, [(0, .int z74), (1, .int z73)], [.int (Int32.ofInt 4), .int z74], 0, 0) 64 4 (fun _ => rfl) h) ?_
          cases b75 : pj_c1 .le z74 (Int32.ofInt 4) with
          | true =>
            have ub75 := pj_u_leT b75
            refine pj_X_of (fun r h => pj_R_icT 74 rfl rfl b75 h) ?_
            refine pj_X_of (fun r h => pj_R_to (G0, 78, [(0, .int z74), (1, .int z73)], [.int ((z74.toUInt32 >>> ((Int32.ofInt 1).toUInt32 &&& Int32.toUInt32 31)).toInt32), .int z73], 0, 0) 78 5 (fun _ => rfl) h) ?_
            obtain ⟨z76, hz76⟩ : ∃ z : Int32, z = (z74.toUInt32 >>> ((Int32.ofInt 1).toUInt32 &&& Int32.toUInt32 31)).toInt32 := ⟨_, rfl⟩
            refine pj_X_eqi hz76.symm ?_
            have fz76_0 : z76.toInt = z74.toInt / 2 := by rw [hz76]; exact pj_usI (k := 1) (by decide) (by decide) (by omega)
            have fz76_1 : 0 ≤ z76.toInt ∧ z76.toInt ≤ 2 := by rw [hz76]; exact (by have hq : ((z74.toUInt32 >>> ((Int32.ofInt 1).toUInt32 &&& Int32.toUInt32 31)).toInt32).toInt = z74.toInt / 2 := pj_usI (k := 1) (by decide) (by decide) (by omega); have hr := pj_i32 z74; omega)
            refine pj_X_of (fun r h => pj_R_to (G0, 79, [(0, .int z74), (1, .int z73)], [.int (z73 + z76)], 0, 0) 79 2 (fun _ => rfl) h) ?_
            obtain ⟨z77, hz77⟩ : ∃ z : Int32, z = z73 + z76 := ⟨_, rfl⟩
            refine pj_X_eqi hz77.symm ?_
            have fz77_0 : z77.toInt = z73.toInt + z76.toInt := by rw [hz77]; exact pj_addI (by have := pj_i32 z73; have := pj_i32 z76; omega) (by have := pj_i32 z73; have := pj_i32 z76; omega)
            exact pj_X_rt rfl rfl ⟨_, rfl, rfl, ⟨by omega, by omega⟩⟩
          | false =>
            have ub75 := pj_u_leF b75
            refine pj_X_of (fun r h => pj_R_icF rfl b75 h) ?_
            refine pj_X_of (fun r h => pj_R_to (G0, 70, [(1, .int (z73 + Int32.ofInt 2)), (0, .int z74)], [], 0, 0) 70 2 (fun _ => rfl) h) ?_
            obtain ⟨z78, hz78⟩ : ∃ z : Int32, z = z73 + Int32.ofInt 2 := ⟨_, rfl⟩
            rw [← hz78]
            have fz78_0 : z78.toInt = z73.toInt + (Int32.ofInt 2).toInt := by rw [hz78]; exact pj_addI (by have := pj_i32 z73; have := pj_i32 (Int32.ofInt 2); omega) (by have := pj_i32 z73; have := pj_i32 (Int32.ofInt 2); omega)
            refine pj_X_of (fun r h => pj_R_to (G0, 73, [(1, .int z78), (0, .int z74)], [.int ((z74.toUInt32 >>> ((Int32.ofInt 2).toUInt32 &&& Int32.toUInt32 31)).toInt32)], 0, 0) 73 4 (fun _ => rfl) h) ?_
            obtain ⟨z79, hz79⟩ : ∃ z : Int32, z = (z74.toUInt32 >>> ((Int32.ofInt 2).toUInt32 &&& Int32.toUInt32 31)).toInt32 := ⟨_, rfl⟩
            refine pj_X_eqi hz79.symm ?_
            have fz79_0 : z79.toInt = z74.toInt / 4 := by rw [hz79]; exact pj_usI (k := 2) (by decide) (by decide) (by omega)
            have fz79_1 : 1 ≤ z79.toInt ∧ z79.toInt ≤ 1 := by rw [hz79]; exact (by have hq : ((z74.toUInt32 >>> ((Int32.ofInt 2).toUInt32 &&& Int32.toUInt32 31)).toInt32).toInt = z74.toInt / 4 := pj_usI (k := 2) (by decide) (by decide) (by omega); have hr := pj_i32 z74; omega)
            refine pj_X_of (fun r h => pj_R_to (G0, 78, [(0, .int z79), (1, .int z78)], [.int ((z79.toUInt32 >>> ((Int32.ofInt 1).toUInt32 &&& Int32.toUInt32 31)).toInt32), .int z78], 0, 0) 78 6 (fun _ => rfl) h) ?_
            obtain ⟨z80, hz80⟩ : ∃ z : Int32, z = (z79.toUInt32 >>> ((Int32.ofInt 1).toUInt32 &&& Int32.toUInt32 31)).toInt32 := ⟨_, rfl⟩
            refine pj_X_eqi hz80.symm ?_
            have fz80_0 : z80.toInt = z79.toInt / 2 := by rw [hz80]; exact pj_usI (k := 1) (by decide) (by decide) (by omega)
            have fz80_1 : 0 ≤ z80.toInt ∧ z80.toInt ≤ 0 := by rw [hz80]; exact (by have hq : ((z79.toUInt32 >>> ((Int32.ofInt 1).toUInt32 &&& Int32.toUInt32 31)).toInt32).toInt = z79.toInt / 2 := pj_usI (k := 1) (by decide) (by decide) (by omega); have hr := pj_i32 z79; omega)
            refine pj_X_of (fun r h => pj_R_to (G0, 79, [(0, .int z79), (1, .int z78)], [.int (z78 + z80)], 0, 0) 79 2 (fun _ => rfl) h) ?_
            obtain ⟨z81, hz81⟩ : ∃ z : Int32, z = z78 + z80 := ⟨_, rfl⟩
            refine pj_X_eqi hz81.symm ?_
            have fz81_0 : z81.toInt = z78.toInt + z80.toInt := by rw [hz81]; exact pj_addI (by have := pj_i32 z78; have := pj_i32 z80; omega) (by have := pj_i32 z78; have := pj_i32 z80; omega)
            exact pj_X_rt rfl rfl ⟨_, rfl, rfl, ⟨by omega, by omega⟩⟩
  | false =>
    have ub4 := pj_u0_gtF b4
    refine pj_X_of (fun r h => pj_R_ifF rfl b4 h) ?_
    refine pj_X_of (fun r h => pj_R_to (G0, 16, [(0, .int z3)], [.int (z3 &&& ((Int8.ofInt 32).toInt32))], 0, 0) 16 4 (fun _ => rfl) h) ?_
    obtain ⟨z82, hz82⟩ : ∃ z : Int32, z = z3 &&& ((Int8.ofInt 32).toInt32) := ⟨_, rfl⟩
    refine pj_X_eqi hz82.symm ?_
    have fz82_0 : 0 ≤ z82.toInt ∧ z82.toInt ≤ ((Int8.ofInt 32).toInt32).toInt := by rw [hz82]; exact pj_andI (by omega)
    exact pj_X_rt rfl rfl ⟨_, rfl, rfl, ⟨by omega, by omega⟩⟩
def kc_245 : pj_KT := ([(171, 0), (171, 1)], [171, 172, 191], [191])
theorem lp_ct_245 (G0 : pj_G) (hI0 : pj_Inv G0) (th : Int32) : ∀ mn : Nat, (∀ (G : pj_G) (hI : pj_Inv G) (hK : pj_kpt kc_245 G0 G) (v2 : Int32), ((0 : Int) ≤ v2.toInt ∧ v2.toInt ≤ 10) → (0 ≤ th.toInt ∧ th.toInt ≤ 1023) → ((pj_fi G 171 1).toInt = v2.toInt) → 10 - v2.toInt < (mn : Int) → pj_X 14 pj_m245 G 41 [(0, .ref 171), (1, .int th), (2, .int v2)] [] (fun v G' => ∃ y : Int32, v = some (.int y) ∧ pj_Inv G' ∧ pj_kpt kc_245 G0 G' ∧ ((-2147483648 : Int) ≤ y.toInt ∧ y.toInt ≤ 2147483647))) := by
  have c0_ : (Int32.ofInt (-1)).toInt = -1 := by decide
  have c1_ : (Int32.ofInt 0).toInt = 0 := by decide
  have c2_ : (Int32.ofInt 1).toInt = 1 := by decide
  intro mn
  induction mn with
  | zero =>
    intro G hI hK v2 rv2 x0_ x1_ hm
    exfalso
    omega
  | succ mn ih =>
    intro G hI hK v2 rv2 x0_ x1_ hm
    obtain ⟨y1, hy1⟩ : ∃ z : Int32, z = pj_fi G 171 1 := ⟨_, rfl⟩
    have ey1 : (pj_fi G 171 1).toInt = y1.toInt := by rw [hy1]
    have ry1 : (0 : Int) ≤ y1.toInt ∧ y1.toInt ≤ 24 := by rw [hy1]; exact hI.2.1 171 1 (0, 24) rfl
    obtain ⟨y2, hy2⟩ : ∃ z : Int32, z = pj_fi G 171 4 := ⟨_, rfl⟩
    have ey2 : (pj_fi G 171 4).toInt = y2.toInt := by rw [hy2]
    have ry2 : (0 : Int) ≤ y2.toInt ∧ y2.toInt ≤ 10 := by rw [hy2]; exact hI.2.1 171 4 (0, 10) rfl
    refine pj_X_of (fun r h => pj_R_to (G, 43, [(0, .ref 171), (1, .int th), (2, .int v2)], [.int th, .int v2], 0, 0) 43 3 (fun _ => rfl) h) ?_
    have q3 : (pj_fi G 171 1).toInt = y1.toInt := by rw [show pj_fi G 171 1 = y1 from hy1.symm]
    have q4 : (pj_fi G 171 4).toInt = y2.toInt := by rw [show pj_fi G 171 4 = y2 from hy2.symm]
    refine pj_X_ca (vs := [.int th]) rfl (fun _ => rfl) ⟨Nat.le_of_ble_eq_true rfl, Nat.le_of_ble_eq_true rfl, rfl⟩ ⟨rfl, rfl⟩ (pj_Y_up (by decide) (ct_287b G hI th)) ?_
    rintro _ _ ⟨y5, rfl, rfl, ry5, ey5⟩
    show pj_X _ _ G 46 [(0, .ref 171), (1, .int th), (2, .int v2)] [.int y5, .int v2] _
    cases b6 : pj_c1 .ge v2 y5 with
    | true =>
      have ub6 := pj_u_geT b6
      refine pj_X_of (fun r h => pj_R_icT 66 rfl rfl b6 h) ?_
      refine pj_X_of (fun r h => pj_R_to (G, 67, [(0, .ref 171), (1, .int th), (2, .int v2)], [.int (Int32.ofInt 1)], 0, 0) 67 2 (fun _ => rfl) h) ?_
      have q7 : (pj_fi G 171 1).toInt = y1.toInt := by rw [show pj_fi G 171 1 = y1 from hy1.symm]
      have q8 : (pj_fi G 171 4).toInt = y2.toInt := by rw [show pj_fi G 171 4 = y2 from hy2.symm]
      exact pj_X_rt rfl rfl ⟨_, rfl, hI, hK, pj_i32 _⟩
    | false =>
      have ub6 := pj_u_geF b6
      refine pj_X_of (fun r h => pj_R_icF rfl b6 h) ?_
      refine pj_X_of (fun r h => pj_R_to (G, 51, [(0, .ref 171), (1, .int th), (2, .int v2)], [.ref 171, .ref 171], 0, 0) 51 3 (fun _ => rfl) h) ?_
      refine pj_X_of (fun r h => pj_T_gr hI rfl rfl rfl h) ?_
      refine pj_X_of (fun r h => pj_R_to (G, 55, [(0, .ref 171), (1, .int th), (2, .int v2)], [.int v2, .ref 191, .ref 171], 0, 0) 55 2 (fun _ => rfl) h) ?_
      refine pj_X_of (fun r h => pj_T_il hI rfl rfl (by omega) (by omega) h) ?_
      show pj_X _ _ G 56 [(0, .ref 171), (1, .int th), (2, .int v2)] [.int (pj_ai G 191 v2.toInt.toNat), .ref 171] _
      obtain ⟨z9, hz9⟩ : ∃ z : Int32, z = pj_ai G 191 v2.toInt.toNat := ⟨_, rfl⟩
      refine pj_X_eqi hz9.symm ?_
      have ez9 : (pj_ai G 191 v2.toInt.toNat).toInt = z9.toInt := by rw [hz9]
      refine pj_X_of (fun r h => pj_R_to (G, 57, [(0, .ref 171), (1, .int th), (2, .int v2)], [.long z9.toInt64, .ref 171], 0, 0) 57 2 (fun _ => rfl) h) ?_
      have q10 : (pj_fi G 171 1).toInt = y1.toInt := by rw [show pj_fi G 171 1 = y1 from hy1.symm]
      have q11 : (pj_fi G 171 4).toInt = y2.toInt := by rw [show pj_fi G 171 4 = y2 from hy2.symm]
      have lc12 : (z9.toInt64).toInt = z9.toInt := Int32.toInt_toInt64 _
      refine pj_X_ca (vs := [.ref 171, .long z9.toInt64]) rfl (fun _ => rfl) ⟨Nat.le_of_ble_eq_true rfl, Nat.le_of_ble_eq_true rfl, pj_T_rcv hI rfl⟩ ⟨rfl, rfl⟩ (pj_Y_up (by decide) (ct_174x G hI z9.toInt64 (by omega))) ?_
      rintro _ G14 ⟨rfl, iG14, jG14, eG14, fy13⟩
      replace eG14 := eG14 _ rfl
      have kG14 : pj_kpt kc_245 G0 G14 := pj_kpt_t hK (pj_kpt_s jG14 rfl)
      have q15 : (pj_fi G14 171 4).toInt = (pj_fi G 171 4).toInt := by rw [jG14.1 (171, 4) (by decide)]
      obtain ⟨y16, hy16⟩ : ∃ z : Int32, z = pj_fi G14 171 1 := ⟨_, rfl⟩
      have ey16 : (pj_fi G14 171 1).toInt = y16.toInt := by rw [hy16]
      have ry16 : (0 : Int) ≤ y16.toInt ∧ y16.toInt ≤ 24 := by rw [hy16]; exact iG14.2.1 171 1 (0, 24) rfl
      obtain ⟨y17, hy17⟩ : ∃ z : Int32, z = pj_fi G14 171 4 := ⟨_, rfl⟩
      have ey17 : (pj_fi G14 171 4).toInt = y17.toInt := by rw [hy17]
      have ry17 : (0 : Int) ≤ y17.toInt ∧ y17.toInt ≤ 10 := by rw [hy17]; exact iG14.2.1 171 4 (0, 10) rfl
      show pj_X _ _ G14 60 [(0, .ref 171), (1, .int th), (2, .int v2)] [] _
      refine pj_X_of (fun r h => pj_R_to (G14, 63, [(2, .int (v2 + Int32.ofInt 1)), (0, .ref 171), (1, .int th)], [], 0, 0) 63 2 (fun _ => rfl) h) ?_
      obtain ⟨z18, hz18⟩ : ∃ z : Int32, z = v2 + Int32.ofInt 1 := ⟨_, rfl⟩
      rw [← hz18]
      have fz18_0 : z18.toInt = v2.toInt + (Int32.ofInt 1).toInt := by rw [hz18]; exact pj_addI (by have := pj_i32 v2; have := pj_i32 (Int32.ofInt 1); omega) (by have := pj_i32 v2; have := pj_i32 (Int32.ofInt 1); omega)
      refine pj_X_of (fun r h => pj_R_to (G14, 41, [(2, .int z18), (0, .ref 171), (1, .int th)], [], 0, 0) 41 2 (fun _ => rfl) h) ?_
      have q19 : (pj_fi G14 171 1).toInt = y16.toInt := by rw [show pj_fi G14 171 1 = y16 from hy16.symm]
      have q20 : (pj_fi G14 171 4).toInt = y17.toInt := by rw [show pj_fi G14 171 4 = y17 from hy17.symm]
      exact pj_X_sub [(0, .ref 171), (1, .int th), (2, .int z18)] (show List.Nodup [0, 1, 2] by decide) ⟨rfl, rfl, rfl, trivial⟩ (ih G14 iG14 kG14 z18 ⟨by omega, by omega⟩ (by omega) (by omega) (by omega))
theorem ct_245 (G0 : pj_G) (hI : pj_Inv G0) (th : Int32) : pj_Y 15 245 [.ref 171, .int th] G0 (fun v G' => ∃ y : Int32, v = some (.int y) ∧ pj_Inv G' ∧ pj_kpt kc_245 G0 G' ∧ ((-2147483648 : Int) ≤ y.toInt ∧ y.toInt ≤ 2147483647)) := by
  have c0_ : (Int32.ofInt (-1)).toInt = -1 := by decide
  have c1_ : (Int32.ofInt 0).toInt = 0 := by decide
  have c2_ : (Int32.ofInt 1).toInt = 1 := by decide
  refine pj_Y_X (M := pj_m245) rfl rfl (Nat.le_of_ble_eq_true rfl) ?_
  have hK : pj_kpt kc_245 G0 G0 := pj_kpt_r _ _
  show pj_X _ _ G0 0 [(0, .ref 171), (1, .int th)] [] _
  obtain ⟨y21, hy21⟩ : ∃ z : Int32, z = pj_fi G0 171 1 := ⟨_, rfl⟩
  have ey21 : (pj_fi G0 171 1).toInt = y21.toInt := by rw [hy21]
  have ry21 : (0 : Int) ≤ y21.toInt ∧ y21.toInt ≤ 24 := by rw [hy21]; exact hI.2.1 171 1 (0, 24) rfl
  obtain ⟨y22, hy22⟩ : ∃ z : Int32, z = pj_fi G0 171 4 := ⟨_, rfl⟩
  have ey22 : (pj_fi G0 171 4).toInt = y22.toInt := by rw [hy22]
  have ry22 : (0 : Int) ≤ y22.toInt ∧ y22.toInt ≤ 10 := by rw [hy22]; exact hI.2.1 171 4 (0, 10) rfl
  refine pj_X_of (fun r h => pj_R_to (G0, 2, [(0, .ref 171), (1, .int th)], [.int (Int32.ofInt 0), .ref 171], 0, 0) 2 3 (fun _ => rfl) h) ?_
  refine pj_X_of (fun r h => pj_T_pf hI rfl rfl rfl h) ?_
  show pj_X _ _ (pj_wv G0 171 0 (.int (Int32.ofInt 0))) 5 [(0, .ref 171), (1, .int th)] [] _
  obtain ⟨G23, hG23⟩ : ∃ H, H = pj_wv G0 171 0 (.int (Int32.ofInt 0)) := ⟨_, rfl⟩
  have iG23 : pj_Inv G23 := by rw [hG23]; exact pj_Inv_wi hI (ci := 12) rfl (fun q hq => by cases hq)
  have kG23 : pj_kpt kc_245 G0 G23 := by rw [hG23]; exact pj_kpt_v hK rfl
  rw [← hG23]
  refine pj_X_of (fun r h => pj_R_to (G23, 9, [(0, .ref 171), (1, .int th)], [.ref 171, .long (Int64.ofNat 0), .long th.toInt64], 0, 0) 9 5 (fun _ => rfl) h) ?_
  have q24 : (pj_fi G23 171 1).toInt = y21.toInt := by rw [show pj_fi G23 171 1 = y21 from by rw [hG23, pj_fi_wv_ne _ _ _ _ _ _ (by decide)]; exact hy21.symm]
  have q25 : (pj_fi G23 171 4).toInt = y22.toInt := by rw [show pj_fi G23 171 4 = y22 from by rw [hG23, pj_fi_wv_ne _ _ _ _ _ _ (by decide)]; exact hy22.symm]
  refine pj_X_ca (vs := [.ref 171]) rfl (fun _ => rfl) ⟨Nat.le_of_ble_eq_true rfl, Nat.le_of_ble_eq_true rfl, pj_T_rcv iG23 rfl⟩ ⟨rfl, rfl⟩ (pj_Y_up (by decide) (ct_244 G23 iG23)) ?_
  rintro _ _ ⟨y26, rfl, rfl, ry26⟩
  show pj_X _ _ G23 12 [(0, .ref 171), (1, .int th)] [.int y26, .long (Int64.ofNat 0), .long th.toInt64] _
  refine pj_X_of (fun r h => pj_R_to (G23, 13, [(0, .ref 171), (1, .int th)], [.long y26.toInt64, .long (Int64.ofNat 0), .long th.toInt64], 0, 0) 13 2 (fun _ => rfl) h) ?_
  have q27 : (pj_fi G23 171 1).toInt = y21.toInt := by rw [show pj_fi G23 171 1 = y21 from by rw [hG23, pj_fi_wv_ne _ _ _ _ _ _ (by decide)]; exact hy21.symm]
  have q28 : (pj_fi G23 171 4).toInt = y22.toInt := by rw [show pj_fi G23 171 4 = y22 from by rw [hG23, pj_fi_wv_ne _ _ _ _ _ _ (by decide)]; exact hy22.symm]
  have lc29 : (th.toInt64).toInt = th.toInt := Int32.toInt_toInt64 _
  have lc30 : (Int64.ofNat 0).toInt = 0 := by decide
  have lc31 : (y26.toInt64).toInt = y26.toInt := Int32.toInt_toInt64 _
  refine pj_X_ca (vs := [.long th.toInt64, .long (Int64.ofNat 0), .long y26.toInt64]) rfl (fun _ => rfl) ⟨Nat.le_of_ble_eq_true rfl, Nat.le_of_ble_eq_true rfl, rfl⟩ ⟨rfl, rfl⟩ (pj_Y_up (by decide) (ct_170x G23 iG23 th.toInt64 (Int64.ofNat 0) y26.toInt64)) ?_
  rintro _ _ ⟨y32, rfl, rfl, ry32, ey32, fy32⟩
  show pj_X _ _ G23 16 [(0, .ref 171), (1, .int th)] [.int y32] _
  cases b33 : pj_c1 .ne y32 0 with
  | true =>
    have ub33 := pj_u0_neT b33
    refine pj_X_of (fun r h => pj_R_ifT 21 rfl rfl b33 h) ?_
    refine pj_X_of (fun r h => pj_R_to (G23, 23, [(0, .ref 171), (1, .int th)], [.int (Int32.ofInt 0), .ref 171], 0, 0) 23 3 (fun _ => rfl) h) ?_
    refine pj_X_of (fun r h => pj_T_pf iG23 rfl rfl rfl h) ?_
    show pj_X _ _ (pj_wv G23 171 1 (.int (Int32.ofInt 0))) 26 [(0, .ref 171), (1, .int th)] [] _
    obtain ⟨G34, hG34⟩ : ∃ H, H = pj_wv G23 171 1 (.int (Int32.ofInt 0)) := ⟨_, rfl⟩
    have iG34 : pj_Inv G34 := by rw [hG34]; exact pj_Inv_wi iG23 (ci := 12) rfl (fun q hq => by cases hq; exact ⟨by show (0 : Int) ≤ _; omega, by show _ ≤ (24 : Int); omega⟩)
    have kG34 : pj_kpt kc_245 G0 G34 := by rw [hG34]; exact pj_kpt_v kG23 rfl
    rw [← hG34]
    refine pj_X_of (fun r h => pj_R_to (G34, 31, [(0, .ref 171), (1, .int th)], [.int (Int32.ofInt 0), .int (Int32.ofInt 0), .int (Int32.ofInt 0), .int th, .ref 171], 0, 0) 31 6 (fun _ => rfl) h) ?_
    have q35 : (pj_fi G34 171 1).toInt = (Int32.ofInt 0).toInt := by rw [show pj_fi G34 171 1 = Int32.ofInt 0 from by rw [hG34]; exact pj_fi_wi iG23.1 (ci := 12) rfl _]
    have q36 : (pj_fi G34 171 4).toInt = y22.toInt := by rw [show pj_fi G34 171 4 = y22 from by rw [hG34, pj_fi_wv_ne _ _ _ _ _ _ (by decide)]; exact (by rw [hG23, pj_fi_wv_ne _ _ _ _ _ _ (by decide)]; exact hy22.symm)]
    refine pj_X_ca (vs := [.ref 171, .int th, .int (Int32.ofInt 0), .int (Int32.ofInt 0), .int (Int32.ofInt 0)]) rfl (fun _ => rfl) ⟨Nat.le_of_ble_eq_true rfl, Nat.le_of_ble_eq_true rfl, pj_T_rcv iG34 rfl⟩ ⟨rfl, rfl⟩ (pj_Y_up (by decide) (ct_242_0 G34 iG34 th (Int32.ofInt 0) (Int32.ofInt 0) (Int32.ofInt 0) ⟨by omega, by omega⟩ ⟨by omega, by omega⟩ (by omega))) ?_
    rintro _ G38 ⟨y37, rfl, iG38, jG38, ry37⟩
    have kG38 : pj_kpt kc_245 G0 G38 := pj_kpt_t kG34 (pj_kpt_s jG38 rfl)
    have q39 : (pj_fi G38 171 1).toInt = (pj_fi G34 171 1).toInt := by rw [jG38.1 (171, 1) (by decide)]
    have q40 : (pj_fi G38 171 4).toInt = (pj_fi G34 171 4).toInt := by rw [jG38.1 (171, 4) (by decide)]
    obtain ⟨y41, hy41⟩ : ∃ z : Int32, z = pj_fi G38 171 1 := ⟨_, rfl⟩
    have ey41 : (pj_fi G38 171 1).toInt = y41.toInt := by rw [hy41]
    have ry41 : (0 : Int) ≤ y41.toInt ∧ y41.toInt ≤ 24 := by rw [hy41]; exact iG38.2.1 171 1 (0, 24) rfl
    obtain ⟨y42, hy42⟩ : ∃ z : Int32, z = pj_fi G38 171 4 := ⟨_, rfl⟩
    have ey42 : (pj_fi G38 171 4).toInt = y42.toInt := by rw [hy42]
    have ry42 : (0 : Int) ≤ y42.toInt ∧ y42.toInt ≤ 10 := by rw [hy42]; exact iG38.2.1 171 4 (0, 10) rfl
    show pj_X _ _ G38 34 [(0, .ref 171), (1, .int th)] [.int y37] _
    cases b43 : pj_c1 .ne y37 0 with
    | true =>
      have ub43 := pj_u0_neT b43
      refine pj_X_of (fun r h => pj_R_ifT 39 rfl rfl b43 h) ?_
      refine pj_X_of (fun r h => pj_R_to (G38, 41, [(2, .int (Int32.ofInt 0)), (0, .ref 171), (1, .int th)], [], 0, 0) 41 3 (fun _ => rfl) h) ?_
      have q44 : (pj_fi G38 171 1).toInt = y41.toInt := by rw [show pj_fi G38 171 1 = y41 from hy41.symm]
      have q45 : (pj_fi G38 171 4).toInt = y42.toInt := by rw [show pj_fi G38 171 4 = y42 from hy42.symm]
      exact pj_X_sub [(0, .ref 171), (1, .int th), (2, .int (Int32.ofInt 0))] (show List.Nodup [0, 1, 2] by decide) ⟨rfl, rfl, rfl, trivial⟩ ((lp_ct_245 G0 hI th  11) G38 iG38 kG38 (Int32.ofInt 0) ⟨by omega, by omega⟩ (by omega) (by omega) (by omega))
    | false =>
      have ub43 := pj_u0_neF b43
      refine pj_X_of (fun r h => pj_R_ifF rfl b43 h) ?_
      refine pj_X_of (fun r h => pj_R_to (G38, 38, [(0, .ref 171), (1, .int th)], [.int (Int32.ofInt 0)], 0, 0) 38 2 (fun _ => rfl) h) ?_
      have q46 : (pj_fi G38 171 1).toInt = y41.toInt := by rw [show pj_fi G38 171 1 = y41 from hy41.symm]
      have q47 : (pj_fi G38 171 4).toInt = y42.toInt := by rw [show pj_fi G38 171 4 = y42 from hy42.symm]
      exact pj_X_rt rfl rfl ⟨_, rfl, iG38, kG38, pj_i32 _⟩
  | false =>
    have ub33 := pj_u0_neF b33
    refine pj_X_of (fun r h => pj_R_ifF rfl b33 h) ?_
    refine pj_X_of (fun r h => pj_R_to (G23, 20, [(0, .ref 171), (1, .int th)], [.int (Int32.ofInt (-1))], 0, 0) 20 2 (fun _ => rfl) h) ?_
    have q48 : (pj_fi G23 171 1).toInt = y21.toInt := by rw [show pj_fi G23 171 1 = y21 from by rw [hG23, pj_fi_wv_ne _ _ _ _ _ _ (by decide)]; exact hy21.symm]
    have q49 : (pj_fi G23 171 4).toInt = y22.toInt := by rw [show pj_fi G23 171 4 = y22 from by rw [hG23, pj_fi_wv_ne _ _ _ _ _ _ (by decide)]; exact hy22.symm]
    exact pj_X_rt rfl rfl ⟨_, rfl, iG23, kG23, pj_i32 _⟩
def kc_248 : pj_KT := ([(171, 0), (171, 1), (171, 44)], [171, 172, 192, 193], [192, 193])
theorem lp_ct_248 (G0 : pj_G) (hI0 : pj_Inv G0) (th : Int32) : ∀ mn : Nat, (∀ (G : pj_G) (hI : pj_Inv G) (hK : pj_kpt kc_248 G0 G) (v2 : Int32) (v3 : Int32), ((-2147483648 : Int) ≤ v2.toInt ∧ v2.toInt ≤ 2147483647) → ((1 : Int) ≤ v3.toInt ∧ v3.toInt ≤ 40) → ((pj_fi G 171 44).toInt ≤ v3.toInt) → ((pj_fi G 171 44).toInt ≤ 8) → 40 - v3.toInt < (mn : Int) → pj_X 6 pj_m248 G 39 [(0, .ref 171), (1, .int th), (2, .int v2), (3, .int v3)] [] (fun v G' => ∃ y : Int32, v = some (.int y) ∧ pj_Inv G' ∧ pj_kpt kc_248 G0 G' ∧ ((-2147483648 : Int) ≤ y.toInt ∧ y.toInt ≤ 2147483647))) := by
  have c0_ : (Int32.ofInt (-1)).toInt = -1 := by decide
  have c1_ : (Int32.ofInt 0).toInt = 0 := by decide
  have c2_ : (Int32.ofInt 1).toInt = 1 := by decide
  intro mn
  induction mn with
  | zero =>
    intro G hI hK v2 v3 rv2 rv3 x0_ x1_ hm
    exfalso
    omega
  | succ mn ih =>
    intro G hI hK v2 v3 rv2 rv3 x0_ x1_ hm
    obtain ⟨y1, hy1⟩ : ∃ z : Int32, z = pj_fi G 171 44 := ⟨_, rfl⟩
    have ey1 : (pj_fi G 171 44).toInt = y1.toInt := by rw [hy1]
    have ry1 : (0 : Int) ≤ y1.toInt ∧ y1.toInt ≤ 16 := by rw [hy1]; exact hI.2.1 171 44 (0, 16) rfl
    refine pj_X_of (fun r h => pj_R_to (G, 41, [(0, .ref 171), (1, .int th), (2, .int v2), (3, .int v3)], [.ref 171, .int v3], 0, 0) 41 3 (fun _ => rfl) h) ?_
    refine pj_X_of (fun r h => pj_T_gi hI rfl rfl h) ?_
    show pj_X _ _ G 44 [(0, .ref 171), (1, .int th), (2, .int v2), (3, .int v3)] [.int (pj_fi G 171 3), .int v3] _
    obtain ⟨y2, hy2⟩ : ∃ z : Int32, z = pj_fi G 171 3 := ⟨_, rfl⟩
    refine pj_X_eqi hy2.symm ?_
    have ey2 : (pj_fi G 171 3).toInt = y2.toInt := by rw [hy2]
    have ry2 : (0 : Int) ≤ y2.toInt ∧ y2.toInt ≤ 8 := by rw [hy2]; exact hI.2.1 171 3 (0, 8) rfl
    cases b3 : pj_c1 .ge v3 y2 with
    | true =>
      have ub3 := pj_u_geT b3
      refine pj_X_of (fun r h => pj_R_icT 91 rfl rfl b3 h) ?_
      refine pj_X_of (fun r h => pj_R_to (G, 92, [(0, .ref 171), (1, .int th), (2, .int v2), (3, .int v3)], [.ref 171], 0, 0) 92 2 (fun _ => rfl) h) ?_
      have q4 : (pj_fi G 171 44).toInt = y1.toInt := by rw [show pj_fi G 171 44 = y1 from hy1.symm]
      refine pj_X_ca (vs := [.ref 171]) rfl (fun _ => rfl) ⟨Nat.le_of_ble_eq_true rfl, Nat.le_of_ble_eq_true rfl, pj_T_rcv hI rfl⟩ ⟨rfl, rfl⟩ (pj_Y_up (by decide) (ct_247 G hI)) ?_
      rintro _ G6 ⟨y5, rfl, iG6, jG6, ry5⟩
      have kG6 : pj_kpt kc_248 G0 G6 := pj_kpt_t hK (pj_kpt_s jG6 rfl)
      have q7 : (pj_fi G6 171 44).toInt = (pj_fi G 171 44).toInt := by rw [jG6.1 (171, 44) (by decide)]
      obtain ⟨y8, hy8⟩ : ∃ z : Int32, z = pj_fi G6 171 44 := ⟨_, rfl⟩
      have ey8 : (pj_fi G6 171 44).toInt = y8.toInt := by rw [hy8]
      have ry8 : (0 : Int) ≤ y8.toInt ∧ y8.toInt ≤ 16 := by rw [hy8]; exact iG6.2.1 171 44 (0, 16) rfl
      show pj_X _ _ G6 95 [(0, .ref 171), (1, .int th), (2, .int v2), (3, .int v3)] [.int y5] _
      have q9 : (pj_fi G6 171 44).toInt = y8.toInt := by rw [show pj_fi G6 171 44 = y8 from hy8.symm]
      exact pj_X_rt rfl rfl ⟨_, rfl, iG6, kG6, pj_i32 _⟩
    | false =>
      have ub3 := pj_u_geF b3
      refine pj_X_of (fun r h => pj_R_icF rfl b3 h) ?_
      refine pj_X_of (fun r h => pj_R_to (G, 49, [(0, .ref 171), (1, .int th), (2, .int v2), (3, .int v3)], [.int v3, .int th], 0, 0) 49 3 (fun _ => rfl) h) ?_
      have q10 : (pj_fi G 171 44).toInt = y1.toInt := by rw [show pj_fi G 171 44 = y1 from hy1.symm]
      refine pj_X_ca (vs := [.int th, .int v3]) rfl (fun _ => rfl) ⟨Nat.le_of_ble_eq_true rfl, Nat.le_of_ble_eq_true rfl, rfl⟩ ⟨rfl, rfl⟩ (pj_Y_up (by decide) (ct_171bx G hI th v3)) ?_
      rintro _ _ ⟨y11, rfl, rfl, ry11, ey11, fy11⟩
      show pj_X _ _ G 52 [(0, .ref 171), (1, .int th), (2, .int v2), (3, .int v3)] [.int y11] _
      cases b12 : pj_c1 .eq y11 0 with
      | true =>
        have ub12 := pj_u0_eqT b12
        refine pj_X_of (fun r h => pj_R_ifT 85 rfl rfl b12 h) ?_
        refine pj_X_of (fun r h => pj_R_to (G, 88, [(3, .int (v3 + Int32.ofInt 1)), (0, .ref 171), (1, .int th), (2, .int v2)], [], 0, 0) 88 2 (fun _ => rfl) h) ?_
        obtain ⟨z13, hz13⟩ : ∃ z : Int32, z = v3 + Int32.ofInt 1 := ⟨_, rfl⟩
        rw [← hz13]
        have fz13_0 : z13.toInt = v3.toInt + (Int32.ofInt 1).toInt := by rw [hz13]; exact pj_addI (by have := pj_i32 v3; have := pj_i32 (Int32.ofInt 1); omega) (by have := pj_i32 v3; have := pj_i32 (Int32.ofInt 1); omega)
        refine pj_X_of (fun r h => pj_R_to (G, 39, [(3, .int z13), (0, .ref 171), (1, .int th), (2, .int v2)], [], 0, 0) 39 2 (fun _ => rfl) h) ?_
        have q14 : (pj_fi G 171 44).toInt = y1.toInt := by rw [show pj_fi G 171 44 = y1 from hy1.symm]
        exact pj_X_sub [(0, .ref 171), (1, .int th), (2, .int v2), (3, .int z13)] (show List.Nodup [0, 1, 2, 3] by decide) ⟨rfl, rfl, rfl, rfl, trivial⟩ (ih G hI hK v2 z13 (pj_i32 _) ⟨by omega, by omega⟩ (by omega) (by omega) (by omega))
      | false =>
        have ub12 := pj_u0_eqF b12
        refine pj_X_of (fun r h => pj_R_ifF rfl b12 h) ?_
        refine pj_X_of (fun r h => pj_R_to (G, 56, [(0, .ref 171), (1, .int th), (2, .int v2), (3, .int v3)], [.ref 171], 0, 0) 56 2 (fun _ => rfl) h) ?_
        refine pj_X_of (fun r h => pj_T_gr hI rfl rfl rfl h) ?_
        refine pj_X_of (fun r h => pj_R_to (G, 60, [(0, .ref 171), (1, .int th), (2, .int v2), (3, .int v3)], [.ref 171, .ref 192], 0, 0) 60 2 (fun _ => rfl) h) ?_
        refine pj_X_of (fun r h => pj_T_gi hI rfl rfl h) ?_
        show pj_X _ _ G 63 [(0, .ref 171), (1, .int th), (2, .int v2), (3, .int v3)] [.int (pj_fi G 171 44), .ref 192] _
        refine pj_X_eqi (show pj_fi G 171 44 = y1 from hy1.symm) ?_
        refine pj_X_of (fun r h => pj_R_to (G, 64, [(0, .ref 171), (1, .int th), (2, .int v2), (3, .int v3)], [.int v2, .int y1, .ref 192], 0, 0) 64 2 (fun _ => rfl) h) ?_
        refine pj_X_of (fun r h => pj_T_is hI rfl rfl (by omega) (by omega) h) ?_
        show pj_X _ _ (pj_wa G 192 y1.toInt.toNat v2) 65 [(0, .ref 171), (1, .int th), (2, .int v2), (3, .int v3)] [] _
        obtain ⟨G15, hG15⟩ : ∃ H, H = pj_wa G 192 y1.toInt.toNat v2 := ⟨_, rfl⟩
        have iG15 : pj_Inv G15 := by rw [hG15]; exact pj_Inv_wa hI rfl (fun q hq => by cases hq) (fun n hn => by cases hn)
        have kG15 : pj_kpt kc_248 G0 G15 := by rw [hG15]; exact pj_kpt_a hK rfl
        rw [← hG15]
        refine pj_X_of (fun r h => pj_R_to (G15, 66, [(0, .ref 171), (1, .int th), (2, .int v2), (3, .int v3)], [.ref 171], 0, 0) 66 2 (fun _ => rfl) h) ?_
        refine pj_X_of (fun r h => pj_T_gr iG15 rfl rfl rfl h) ?_
        refine pj_X_of (fun r h => pj_R_to (G15, 70, [(0, .ref 171), (1, .int th), (2, .int v2), (3, .int v3)], [.ref 171, .ref 193], 0, 0) 70 2 (fun _ => rfl) h) ?_
        refine pj_X_of (fun r h => pj_T_gi iG15 rfl rfl h) ?_
        show pj_X _ _ G15 73 [(0, .ref 171), (1, .int th), (2, .int v2), (3, .int v3)] [.int (pj_fi G15 171 44), .ref 193] _
        refine pj_X_eqi (show pj_fi G15 171 44 = y1 from by rw [hG15, pj_fi_wa]; exact hy1.symm) ?_
        refine pj_X_of (fun r h => pj_R_to (G15, 74, [(0, .ref 171), (1, .int th), (2, .int v2), (3, .int v3)], [.int v3, .int y1, .ref 193], 0, 0) 74 2 (fun _ => rfl) h) ?_
        refine pj_X_of (fun r h => pj_T_is iG15 rfl rfl (by omega) (by omega) h) ?_
        show pj_X _ _ (pj_wa G15 193 y1.toInt.toNat v3) 75 [(0, .ref 171), (1, .int th), (2, .int v2), (3, .int v3)] [] _
        obtain ⟨G16, hG16⟩ : ∃ H, H = pj_wa G15 193 y1.toInt.toNat v3 := ⟨_, rfl⟩
        have iG16 : pj_Inv G16 := by rw [hG16]; exact pj_Inv_wa iG15 rfl (fun q hq => by cases hq) (fun n hn => by cases hn)
        have kG16 : pj_kpt kc_248 G0 G16 := by rw [hG16]; exact pj_kpt_a kG15 rfl
        rw [← hG16]
        refine pj_X_of (fun r h => pj_R_to (G16, 77, [(0, .ref 171), (1, .int th), (2, .int v2), (3, .int v3)], [.ref 171, .ref 171], 0, 0) 77 3 (fun _ => rfl) h) ?_
        refine pj_X_of (fun r h => pj_T_gi iG16 rfl rfl h) ?_
        show pj_X _ _ G16 80 [(0, .ref 171), (1, .int th), (2, .int v2), (3, .int v3)] [.int (pj_fi G16 171 44), .ref 171] _
        refine pj_X_eqi (show pj_fi G16 171 44 = y1 from by rw [hG16, pj_fi_wa]; exact (by rw [hG15, pj_fi_wa]; exact hy1.symm)) ?_
        refine pj_X_of (fun r h => pj_R_to (G16, 82, [(0, .ref 171), (1, .int th), (2, .int v2), (3, .int v3)], [.int (y1 + (Int32.ofInt 1)), .ref 171], 0, 0) 82 3 (fun _ => rfl) h) ?_
        obtain ⟨z17, hz17⟩ : ∃ z : Int32, z = y1 + (Int32.ofInt 1) := ⟨_, rfl⟩
        refine pj_X_eqi hz17.symm ?_
        have fz17_0 : z17.toInt = y1.toInt + (Int32.ofInt 1).toInt := by rw [hz17]; exact pj_addI (by have := pj_i32 y1; have := pj_i32 (Int32.ofInt 1); omega) (by have := pj_i32 y1; have := pj_i32 (Int32.ofInt 1); omega)
        refine pj_X_of (fun r h => pj_T_pf iG16 rfl rfl rfl h) ?_
        show pj_X _ _ (pj_wv G16 171 44 (.int z17)) 85 [(0, .ref 171), (1, .int th), (2, .int v2), (3, .int v3)] [] _
        obtain ⟨G18, hG18⟩ : ∃ H, H = pj_wv G16 171 44 (.int z17) := ⟨_, rfl⟩
        have iG18 : pj_Inv G18 := by rw [hG18]; exact pj_Inv_wi iG16 (ci := 12) rfl (fun q hq => by cases hq; exact ⟨by show (0 : Int) ≤ _; omega, by show _ ≤ (16 : Int); omega⟩)
        have kG18 : pj_kpt kc_248 G0 G18 := by rw [hG18]; exact pj_kpt_v kG16 rfl
        rw [← hG18]
        refine pj_X_of (fun r h => pj_R_to (G18, 88, [(3, .int (v3 + Int32.ofInt 1)), (0, .ref 171), (1, .int th), (2, .int v2)], [], 0, 0) 88 2 (fun _ => rfl) h) ?_
        obtain ⟨z19, hz19⟩ : ∃ z : Int32, z = v3 + Int32.ofInt 1 := ⟨_, rfl⟩
        rw [← hz19]
        have fz19_0 : z19.toInt = v3.toInt + (Int32.ofInt 1).toInt := by rw [hz19]; exact pj_addI (by have := pj_i32 v3; have := pj_i32 (Int32.ofInt 1); omega) (by have := pj_i32 v3; have := pj_i32 (Int32.ofInt 1); omega)
        refine pj_X_of (fun r h => pj_R_to (G18, 39, [(3, .int z19), (0, .ref 171), (1, .int th), (2, .int v2)], [], 0, 0) 39 2 (fun _ => rfl) h) ?_
        have q20 : (pj_fi G18 171 44).toInt = z17.toInt := by rw [show pj_fi G18 171 44 = z17 from by rw [hG18]; exact pj_fi_wi iG16.1 (ci := 12) rfl _]
        exact pj_X_sub [(0, .ref 171), (1, .int th), (2, .int v2), (3, .int z19)] (show List.Nodup [0, 1, 2, 3] by decide) ⟨rfl, rfl, rfl, rfl, trivial⟩ (ih G18 iG18 kG18 v2 z19 (pj_i32 _) ⟨by omega, by omega⟩ (by omega) (by omega) (by omega))
theorem ct_248 (G0 : pj_G) (hI : pj_Inv G0) (th : Int32) : pj_Y 7 248 [.ref 171, .int th] G0 (fun v G' => ∃ y : Int32, v = some (.int y) ∧ pj_Inv G' ∧ pj_kpt kc_248 G0 G' ∧ ((-2147483648 : Int) ≤ y.toInt ∧ y.toInt ≤ 2147483647)) := by
  have c0_ : (Int32.ofInt (-1)).toInt = -1 := by decide
  have c1_ : (Int32.ofInt 0).toInt = 0 := by decide
  have c2_ : (Int32.ofInt 1).toInt = 1 := by decide
  refine pj_Y_X (M := pj_m248) rfl rfl (Nat.le_of_ble_eq_true rfl) ?_
  have hK : pj_kpt kc_248 G0 G0 := pj_kpt_r _ _
  show pj_X _ _ G0 0 [(0, .ref 171), (1, .int th)] [] _
  obtain ⟨y21, hy21⟩ : ∃ z : Int32, z = pj_fi G0 171 44 := ⟨_, rfl⟩
  have ey21 : (pj_fi G0 171 44).toInt = y21.toInt := by rw [hy21]
  have ry21 : (0 : Int) ≤ y21.toInt ∧ y21.toInt ≤ 16 := by rw [hy21]; exact hI.2.1 171 44 (0, 16) rfl
  refine pj_X_of (fun r h => pj_R_to (G0, 2, [(0, .ref 171), (1, .int th)], [.int (Int32.ofInt 0), .ref 171], 0, 0) 2 3 (fun _ => rfl) h) ?_
  refine pj_X_of (fun r h => pj_T_pf hI rfl rfl rfl h) ?_
  show pj_X _ _ (pj_wv G0 171 0 (.int (Int32.ofInt 0))) 5 [(0, .ref 171), (1, .int th)] [] _
  obtain ⟨G22, hG22⟩ : ∃ H, H = pj_wv G0 171 0 (.int (Int32.ofInt 0)) := ⟨_, rfl⟩
  have iG22 : pj_Inv G22 := by rw [hG22]; exact pj_Inv_wi hI (ci := 12) rfl (fun q hq => by cases hq)
  have kG22 : pj_kpt kc_248 G0 G22 := by rw [hG22]; exact pj_kpt_v hK rfl
  rw [← hG22]
  refine pj_X_of (fun r h => pj_R_to (G22, 10, [(0, .ref 171), (1, .int th)], [.ref 171, .int (Int32.ofInt 1), .long (Int64.ofNat 0), .long th.toInt64], 0, 0) 10 6 (fun _ => rfl) h) ?_
  refine pj_X_of (fun r h => pj_T_gi iG22 rfl rfl h) ?_
  show pj_X _ _ G22 13 [(0, .ref 171), (1, .int th)] [.int (pj_fi G22 171 3), .int (Int32.ofInt 1), .long (Int64.ofNat 0), .long th.toInt64] _
  obtain ⟨y23, hy23⟩ : ∃ z : Int32, z = pj_fi G22 171 3 := ⟨_, rfl⟩
  refine pj_X_eqi hy23.symm ?_
  have ey23 : (pj_fi G22 171 3).toInt = y23.toInt := by rw [hy23]
  have ry23 : (0 : Int) ≤ y23.toInt ∧ y23.toInt ≤ 8 := by rw [hy23]; exact iG22.2.1 171 3 (0, 8) rfl
  refine pj_X_of (fun r h => pj_R_to (G22, 14, [(0, .ref 171), (1, .int th)], [.int ((Int32.ofInt 1) <<< (y23 &&& 31)), .long (Int64.ofNat 0), .long th.toInt64], 0, 0) 14 2 (fun _ => rfl) h) ?_
  obtain ⟨z24, hz24⟩ : ∃ z : Int32, z = (Int32.ofInt 1) <<< (y23 &&& 31) := ⟨_, rfl⟩
  refine pj_X_eqi hz24.symm ?_
  have fz24_0 : 1 ≤ z24.toInt ∧ z24.toInt ≤ 256 := by rw [hz24]; exact pj_shlI8 (by omega) (by omega)
  refine pj_X_of (fun r h => pj_R_to (G22, 16, [(0, .ref 171), (1, .int th)], [.int (z24 - (Int32.ofInt 1)), .long (Int64.ofNat 0), .long th.toInt64], 0, 0) 16 3 (fun _ => rfl) h) ?_
  obtain ⟨z25, hz25⟩ : ∃ z : Int32, z = z24 - (Int32.ofInt 1) := ⟨_, rfl⟩
  refine pj_X_eqi hz25.symm ?_
  have fz25_0 : z25.toInt = z24.toInt - (Int32.ofInt 1).toInt := by rw [hz25]; exact pj_subI (by have := pj_i32 z24; have := pj_i32 (Int32.ofInt 1); omega) (by have := pj_i32 z24; have := pj_i32 (Int32.ofInt 1); omega)
  refine pj_X_of (fun r h => pj_R_to (G22, 17, [(0, .ref 171), (1, .int th)], [.long z25.toInt64, .long (Int64.ofNat 0), .long th.toInt64], 0, 0) 17 2 (fun _ => rfl) h) ?_
  have q26 : (pj_fi G22 171 44).toInt = y21.toInt := by rw [show pj_fi G22 171 44 = y21 from by rw [hG22, pj_fi_wv_ne _ _ _ _ _ _ (by decide)]; exact hy21.symm]
  have lc27 : (th.toInt64).toInt = th.toInt := Int32.toInt_toInt64 _
  have lc28 : (Int64.ofNat 0).toInt = 0 := by decide
  have lc29 : (z25.toInt64).toInt = z25.toInt := Int32.toInt_toInt64 _
  refine pj_X_ca (vs := [.long th.toInt64, .long (Int64.ofNat 0), .long z25.toInt64]) rfl (fun _ => rfl) ⟨Nat.le_of_ble_eq_true rfl, Nat.le_of_ble_eq_true rfl, rfl⟩ ⟨rfl, rfl⟩ (pj_Y_up (by decide) (ct_170x G22 iG22 th.toInt64 (Int64.ofNat 0) z25.toInt64)) ?_
  rintro _ _ ⟨y30, rfl, rfl, ry30, ey30, fy30⟩
  show pj_X _ _ G22 20 [(0, .ref 171), (1, .int th)] [.int y30] _
  cases b31 : pj_c1 .ne y30 0 with
  | true =>
    have ub31 := pj_u0_neT b31
    refine pj_X_of (fun r h => pj_R_ifT 25 rfl rfl b31 h) ?_
    refine pj_X_of (fun r h => pj_R_to (G22, 27, [(0, .ref 171), (1, .int th)], [.int (Int32.ofInt 0), .ref 171], 0, 0) 27 3 (fun _ => rfl) h) ?_
    refine pj_X_of (fun r h => pj_T_pf iG22 rfl rfl rfl h) ?_
    show pj_X _ _ (pj_wv G22 171 44 (.int (Int32.ofInt 0))) 30 [(0, .ref 171), (1, .int th)] [] _
    obtain ⟨G32, hG32⟩ : ∃ H, H = pj_wv G22 171 44 (.int (Int32.ofInt 0)) := ⟨_, rfl⟩
    have iG32 : pj_Inv G32 := by rw [hG32]; exact pj_Inv_wi iG22 (ci := 12) rfl (fun q hq => by cases hq; exact ⟨by show (0 : Int) ≤ _; omega, by show _ ≤ (16 : Int); omega⟩)
    have kG32 : pj_kpt kc_248 G0 G32 := by rw [hG32]; exact pj_kpt_v kG22 rfl
    rw [← hG32]
    refine pj_X_of (fun r h => pj_R_to (G32, 31, [(0, .ref 171), (1, .int th)], [.int th], 0, 0) 31 2 (fun _ => rfl) h) ?_
    have q33 : (pj_fi G32 171 44).toInt = (Int32.ofInt 0).toInt := by rw [show pj_fi G32 171 44 = Int32.ofInt 0 from by rw [hG32]; exact pj_fi_wi iG22.1 (ci := 12) rfl _]
    refine pj_X_ca (vs := [.int th]) rfl (fun _ => rfl) ⟨Nat.le_of_ble_eq_true rfl, Nat.le_of_ble_eq_true rfl, rfl⟩ ⟨rfl, rfl⟩ (pj_Y_up (by decide) (ct_286b G32 iG32 th)) ?_
    rintro _ _ ⟨y34, rfl, rfl, ry34⟩
    show pj_X _ _ G32 34 [(0, .ref 171), (1, .int th)] [.int y34] _
    refine pj_X_of (fun r h => pj_R_to (G32, 38, [(2, .int y34), (0, .ref 171), (1, .int th)], [.int (y34 + (Int32.ofInt 1))], 0, 0) 38 5 (fun _ => rfl) h) ?_
    obtain ⟨z35, hz35⟩ : ∃ z : Int32, z = y34 + (Int32.ofInt 1) := ⟨_, rfl⟩
    refine pj_X_eqi hz35.symm ?_
    have fz35_0 : z35.toInt = y34.toInt + (Int32.ofInt 1).toInt := by rw [hz35]; exact pj_addI (by have := pj_i32 y34; have := pj_i32 (Int32.ofInt 1); omega) (by have := pj_i32 y34; have := pj_i32 (Int32.ofInt 1); omega)
    refine pj_X_of (fun r h => pj_R_to (G32, 39, [(3, .int z35), (2, .int y34), (0, .ref 171), (1, .int th)], [], 0, 0) 39 2 (fun _ => rfl) h) ?_
    have q36 : (pj_fi G32 171 44).toInt = (Int32.ofInt 0).toInt := by rw [show pj_fi G32 171 44 = Int32.ofInt 0 from by rw [hG32]; exact pj_fi_wi iG22.1 (ci := 12) rfl _]
    exact pj_X_sub [(0, .ref 171), (1, .int th), (2, .int y34), (3, .int z35)] (show List.Nodup [0, 1, 2, 3] by decide) ⟨rfl, rfl, rfl, rfl, trivial⟩ ((lp_ct_248 G0 hI th  40) G32 iG32 kG32 y34 z35 (pj_i32 _) ⟨by omega, by omega⟩ (by omega) (by omega) (by omega))
  | false =>
    have ub31 := pj_u0_neF b31
    refine pj_X_of (fun r h => pj_R_ifF rfl b31 h) ?_
    refine pj_X_of (fun r h => pj_R_to (G22, 24, [(0, .ref 171), (1, .int th)], [.int (Int32.ofInt (-1))], 0, 0) 24 2 (fun _ => rfl) h) ?_
    have q37 : (pj_fi G22 171 44).toInt = y21.toInt := by rw [show pj_fi G22 171 44 = y21 from by rw [hG22, pj_fi_wv_ne _ _ _ _ _ _ (by decide)]; exact hy21.symm]
    exact pj_X_rt rfl rfl ⟨_, rfl, iG22, kG22, pj_i32 _⟩
