theorem md_k {C R : pj_G} (h : tx_RD C R) : tx_RD (F_84_s4x C).2 (F_186_s15x R).2 ∧ ((((F_84_s4x C).1.toInt = 116 ∧ (F_186_s15x R).1.toInt = 0 ∨ (F_84_s4x C).1.toInt = 108 ∧ (F_186_s15x R).1.toInt = 1 ∨ (F_84_s4x C).1.toInt = 99 ∧ (F_186_s15x R).1.toInt = 2 ∨ (F_84_s4x C).1.toInt = 104 ∧ (F_186_s15x R).1.toInt = 3) ∧ (pj_fi ((F_186_s15x R).2) 171 17).toInt = (pj_fi R 171 17).toInt + 1) ∨ ((F_84_s4x C).1.toInt = -1 ∧ (F_186_s15x R).1.toInt = -1 ∧ (pj_fi ((F_186_s15x R).2) 171 17).toInt = (pj_fi R 171 17).toInt)) := by
  obtain ⟨i, k, rg, c0, c1, c2, c3, cn, cb⟩ := fr_84_s4x C h.1
  obtain ⟨i', k', rg', -, d0, d1, d2, d3, dn⟩ := fr_186_s15x R h.2.1
  have cur := tx_cur h
  obtain ⟨a1, a2, a3, a4, a5, a6, a7⟩ := id h
  by_cases ql : (pj_fi R 171 17).toInt < (pj_fi R 171 18).toInt
  · have cur := cur ql
    by_cases q0 : (pj_ai R 180 (pj_fi R 171 17).toInt.toNat).toInt = 116
    · obtain ⟨x1, x2⟩ := c0 ⟨⟨a3, by omega⟩, by omega⟩
      obtain ⟨y1, y2⟩ := d0 ⟨ql, q0⟩
      exact ⟨pr_sB h i k rfl i' k' rfl cb x2 y2 ql, .inl ⟨.inl ⟨x1, y1⟩, y2⟩⟩
    · skip
      by_cases q1 : (pj_ai R 180 (pj_fi R 171 17).toInt.toNat).toInt = 108
      · obtain ⟨x1, x2⟩ := c1 ⟨⟨a3, by omega⟩, by omega⟩
        obtain ⟨y1, y2⟩ := d1 ⟨ql, q1⟩
        exact ⟨pr_sB h i k rfl i' k' rfl cb x2 y2 ql, .inl ⟨.inr (.inl ⟨x1, y1⟩), y2⟩⟩
      · skip
        by_cases q2 : (pj_ai R 180 (pj_fi R 171 17).toInt.toNat).toInt = 99
        · obtain ⟨x1, x2⟩ := c2 ⟨⟨a3, by omega⟩, by omega⟩
          obtain ⟨y1, y2⟩ := d2 ⟨ql, q2⟩
          exact ⟨pr_sB h i k rfl i' k' rfl cb x2 y2 ql, .inl ⟨.inr (.inr (.inl ⟨x1, y1⟩)), y2⟩⟩
        · skip
          by_cases q3 : (pj_ai R 180 (pj_fi R 171 17).toInt.toNat).toInt = 104
          · obtain ⟨x1, x2⟩ := c3 ⟨⟨a3, by omega⟩, by omega⟩
            obtain ⟨y1, y2⟩ := d3 ⟨ql, q3⟩
            exact ⟨pr_sB h i k rfl i' k' rfl cb x2 y2 ql, .inl ⟨.inr (.inr (.inr ⟨x1, y1⟩)), y2⟩⟩
          · skip
            obtain ⟨x1, x2⟩ := cn (by rintro ⟨-, z⟩; omega)
            obtain ⟨y1, y2⟩ := dn (by rintro ⟨-, z⟩; omega)
            exact ⟨pr_sR (pr_sC h i k rfl cb x2) i' k' rfl y2, .inr ⟨x1, y1, y2⟩⟩
  · obtain ⟨x1, x2⟩ := cn (by rintro ⟨⟨-, z⟩, -⟩; omega)
    obtain ⟨y1, y2⟩ := dn (by rintro ⟨z, -⟩; exact ql z)
    exact ⟨pr_sR (pr_sC h i k rfl cb x2) i' k' rfl y2, .inr ⟨x1, y1, y2⟩⟩
/-! A DAY, on both sides -/
def md_o (l : List Nat) (n : Nat) (C C' : pj_G) : Prop := ∀ a, pj_mN [50, 51, 52, 187, 188, 189] a = true → ∀ j, (a ∈ l → j ≠ n) → pj_ai C' a j = pj_ai C a j
theorem md_ot {l l2 l3 : List Nat} {n : Nat} {A B D : pj_G} (h : md_o l n A B) (g : md_o l2 n B D) (s : ∀ a ∈ l, a ∈ l3) (s2 : ∀ a ∈ l2, a ∈ l3) : md_o l3 n A D := fun a ha j hj => (g a ha j (fun z => hj (s2 a z))).trans (h a ha j (fun z => hj (s a z)))
theorem md_ok {W : pj_KT} {C C' : pj_G} (k : pj_kpt W C C') (w : W.2.2.all (fun a => !(pj_mN [50, 51, 52, 187, 188, 189] a)) = true) (n : Nat) : md_o [] n C C' := fun a ha j _ => k.2.2 a (mr_nA w a ha) j
theorem md_or (n : Nat) (C : pj_G) : md_o [] n C C := fun _ _ _ _ => rfl
theorem md_ow (C : pj_G) (a n : Nat) (x : Int32) : md_o [a] n C (pj_wa C a n x) := fun b _ j hj => by
  by_cases e : b = a
  · subst e
    exact pj_ai_wa_nj _ _ _ _ _ (hj List.mem_cons_self)
  · exact pj_ai_wa_ne _ _ _ _ _ _ e
theorem md_ov (C : pj_G) (a k n : Nat) (v : Value) : md_o [] n C (pj_wv C a k v) := fun b _ j _ => pj_ai_wv _ _ _ _ _ _
/-- an act, told alike -/
def md_a (C R : pj_G) (n : Nat) : Prop := ((pj_ai C 50 n).toInt = 116 ∧ (pj_ai R 187 n).toInt = 0 ∨ (pj_ai C 50 n).toInt = 108 ∧ (pj_ai R 187 n).toInt = 1 ∨ (pj_ai C 50 n).toInt = 99 ∧ (pj_ai R 187 n).toInt = 2 ∨ (pj_ai C 50 n).toInt = 104 ∧ (pj_ai R 187 n).toInt = 3) ∧ pj_ai C 51 n = pj_ai R 188 n ∧ (¬ (pj_ai R 187 n).toInt = 3 → pj_ai C 52 n = pj_ai R 189 n) ∧ 0 ≤ (pj_ai R 188 n).toInt ∧ (pj_ai R 188 n).toInt ≤ 99
theorem md_ak {C R C' R' : pj_G} {n : Nat} (h : md_a C R n) (a0 : pj_ai C' 50 n = pj_ai C 50 n) (a1 : pj_ai C' 51 n = pj_ai C 51 n) (a2 : pj_ai C' 52 n = pj_ai C 52 n) (b0 : pj_ai R' 187 n = pj_ai R 187 n) (b1 : pj_ai R' 188 n = pj_ai R 188 n) (b2 : pj_ai R' 189 n = pj_ai R 189 n) : md_a C' R' n := by
  unfold md_a
  rw [a0, a1, a2, b0, b1, b2]
  exact h
theorem md_i {C : pj_G} (iC : pj_Inv C) (j : Nat) (x : Int32) : pj_Inv (pj_wa C 50 j x) ∧ pj_Inv (pj_wa C 52 j x) ∧ pj_Inv (pj_wa C 187 j x) ∧ pj_Inv (pj_wa C 188 j x) ∧ pj_Inv (pj_wa C 189 j x) := ⟨pj_Inv_wa iC rfl (fun q hq => by cases hq) (fun n hn => by cases hn), pj_Inv_wa iC rfl (fun q hq => by cases hq) (fun n hn => by cases hn), pj_Inv_wa iC rfl (fun q hq => by cases hq) (fun n hn => by cases hn), pj_Inv_wa iC rfl (fun q hq => by cases hq) (fun n hn => by cases hn), pj_Inv_wa iC rfl (fun q hq => by cases hq) (fun n hn => by cases hn)⟩
theorem md_i51 {C : pj_G} (iC : pj_Inv C) (j : Nat) (x : Int32) (hx : 0 ≤ x.toInt ∧ x.toInt ≤ 999) : pj_Inv (pj_wa C 51 j x) := pj_Inv_wa iC rfl (fun q hq => by cases hq; exact ⟨by show (0 : Int) ≤ _; omega, by show _ ≤ (999 : Int); omega, by show _ ≤ (0 : Int) ∨ (0 : Int) ≤ _; omega⟩) (fun n hn => by cases hn)
theorem md_n1 {C R : pj_G} (h : tx_RD C R) (d : Int32) (rd : (1 : Int) ≤ d.toInt ∧ d.toInt ≤ 3) (n : Nat) : ∃ (y : Int32) (C' R' : pj_G), pj_wa (F_86x C d).2 51 n (F_86x C d).1 = C' ∧ (F_187ex R d).1 = y ∧ pj_wa (F_187ex R d).2 188 n y = R' ∧ md_o [51] n C C' ∧ md_o [188] n R R' ∧ pj_fi R' 171 39 = pj_fi R 171 39 ∧ pj_ai R' 188 n = y ∧ ((0 ≤ y.toInt ∧ tx_RD C' R' ∧ pj_ai C' 51 n = y ∧ (pj_fi R 171 17).toInt + 1 ≤ (pj_fi R' 171 17).toInt) ∨ (y.toInt < 0 ∧ tx_ER C' R')) ∧ ((d.toInt = 1 → y.toInt ≤ 9) ∧ (d.toInt = 2 → y.toInt ≤ 99)) := by
  obtain ⟨i1, q1, r1⟩ := fr_86x C h.1 d rd
  obtain ⟨i2, q2, r2, e1, e2, e3, e4, -⟩ := fr_187ex R h.2.1 d rd
  have x2 := tx_num h d rd
  refine ⟨_, _, _, rfl, rfl, rfl, md_ot (md_ok q1 rfl n) (md_ow _ 51 n _) (by decide) (by decide), md_ot (md_ok q2 rfl n) (md_ow _ 188 n _) (by decide) (by decide), (pj_fi_wa _ _ _ _ _ _).trans (q2.1 (171, 39) (by decide)), pj_ai_wa_eq i2.1 rfl, ?_, e1, e2⟩
  rcases x2 with ⟨x, y0, dd⟩ | ⟨x, dd⟩
  · exact .inl ⟨y0, tx_waR (tx_waC dd (md_i51 i1 n _ (by omega)) (by decide)) (md_i i2 n _).2.2.2.1 (by decide), (pj_ai_wa_eq i1.1 rfl).trans (x), by rw [pj_fi_wa]; have := e4 y0; omega⟩
  · exact .inr ⟨by omega, tx_ewaR (tx_ewaC dd (md_i51 i1 n _ (by omega))) (md_i i2 n _).2.2.2.1⟩
theorem md_n2 {C R : pj_G} (h : tx_RD C R) (d : Int32) (rd : (1 : Int) ≤ d.toInt ∧ d.toInt ≤ 3) (n : Nat) : ∃ (y : Int32) (C' R' : pj_G), pj_wa (F_86x C d).2 52 n (F_86x C d).1 = C' ∧ (F_187ex R d).1 = y ∧ pj_wa (F_187ex R d).2 189 n y = R' ∧ md_o [52] n C C' ∧ md_o [189] n R R' ∧ pj_fi R' 171 39 = pj_fi R 171 39 ∧ pj_ai R' 189 n = y ∧ ((0 ≤ y.toInt ∧ tx_RD C' R' ∧ pj_ai C' 52 n = y ∧ (pj_fi R 171 17).toInt + 1 ≤ (pj_fi R' 171 17).toInt) ∨ (y.toInt < 0 ∧ tx_ER C' R')) ∧ ((d.toInt = 1 → y.toInt ≤ 9) ∧ (d.toInt = 2 → y.toInt ≤ 99)) := by
  obtain ⟨i1, q1, r1⟩ := fr_86x C h.1 d rd
  obtain ⟨i2, q2, r2, e1, e2, e3, e4, -⟩ := fr_187ex R h.2.1 d rd
  have x2 := tx_num h d rd
  refine ⟨_, _, _, rfl, rfl, rfl, md_ot (md_ok q1 rfl n) (md_ow _ 52 n _) (by decide) (by decide), md_ot (md_ok q2 rfl n) (md_ow _ 189 n _) (by decide) (by decide), (pj_fi_wa _ _ _ _ _ _).trans (q2.1 (171, 39) (by decide)), pj_ai_wa_eq i2.1 rfl, ?_, e1, e2⟩
  rcases x2 with ⟨x, y0, dd⟩ | ⟨x, dd⟩
  · exact .inl ⟨y0, tx_waR (tx_waC dd (md_i i1 n _).2.1 (by decide)) (md_i i2 n _).2.2.2.2 (by decide), (pj_ai_wa_eq i1.1 rfl).trans (x), by rw [pj_fi_wa]; have := e4 y0; omega⟩
  · exact .inr ⟨by omega, tx_ewaR (tx_ewaC dd (md_i i1 n _).2.1) (md_i i2 n _).2.2.2.2⟩
theorem md_l1 {C R : pj_G} (h : tx_RD C R) (n : Nat) : ∃ (y : Int32) (C' R' : pj_G), pj_wa (F_83x C ((Int8.ofInt 97).toInt32) ((Int8.ofInt 102).toInt32)).2 51 n (F_83x C ((Int8.ofInt 97).toInt32) ((Int8.ofInt 102).toInt32)).1 = C' ∧ (F_188x R ((Int8.ofInt 6).toInt32)).1 = y ∧ pj_wa (F_188x R ((Int8.ofInt 6).toInt32)).2 188 n y = R' ∧ md_o [51] n C C' ∧ md_o [188] n R R' ∧ pj_fi R' 171 39 = pj_fi R 171 39 ∧ pj_ai R' 188 n = y ∧ ((0 ≤ y.toInt ∧ tx_RD C' R' ∧ pj_ai C' 51 n = y ∧ (pj_fi R 171 17).toInt + 1 ≤ (pj_fi R' 171 17).toInt) ∨ (y.toInt < 0 ∧ tx_ER C' R')) ∧ y.toInt ≤ 7 := by
  obtain ⟨i1, q1, r1, -⟩ := fr_83x C h.1 ((Int8.ofInt 97).toInt32) ((Int8.ofInt 102).toInt32) (by decide) (by decide)
  obtain ⟨i2, q2, r2, ⟨e1, e4, -⟩, -⟩ := fr_188x R h.2.1 ((Int8.ofInt 6).toInt32) (by decide)
  have x2 := tx_let h ((Int8.ofInt 6).toInt32) ((Int8.ofInt 102).toInt32) (by decide) (by decide)
  refine ⟨_, _, _, rfl, rfl, rfl, md_ot (md_ok q1 rfl n) (md_ow _ 51 n _) (by decide) (by decide), md_ot (md_ok q2 rfl n) (md_ow _ 188 n _) (by decide) (by decide), (pj_fi_wa _ _ _ _ _ _).trans (q2.1 (171, 39) (by decide)), pj_ai_wa_eq i2.1 rfl, ?_, r2.2⟩
  rcases x2 with ⟨x, y0, dd⟩ | ⟨x, dd⟩
  · exact .inl ⟨y0, tx_waR (tx_waC dd (md_i51 i1 n _ (by omega)) (by decide)) (md_i i2 n _).2.2.2.1 (by decide), (pj_ai_wa_eq i1.1 rfl).trans (Int32.toInt_inj.mp x), by rw [pj_fi_wa]; have := e4 y0; omega⟩
  · exact .inr ⟨by omega, tx_ewaR (tx_ewaC dd (md_i51 i1 n _ (by omega))) (md_i i2 n _).2.2.2.1⟩
/-- what an act ends with: its second half, the reference's -/
noncomputable def md_t (y1 : Int32) (G25 : pj_G) : Int32 × pj_G := pj_nm (pj_ai G25 188 y1.toInt.toNat) (fun z26 => cond (pj_c1 .lt z26 0) ((Int32.ofInt 0, G25)) (pj_nm (pj_ai G25 187 y1.toInt.toNat) (fun z31 => cond (pj_c1 .ne z31 (Int32.ofInt 3)) (cond (pj_c1 .ne z31 0) (cond (pj_c1 .ne z31 (Int32.ofInt 1)) (pj_bd (F_187ex G25 (Int32.ofInt 1)) (fun y37 G38 => pj_nm (pj_wa G38 189 y1.toInt.toNat y37) (fun G42 => pj_nm (pj_ai G42 189 y1.toInt.toNat) (fun z43 => cond (pj_c1 .lt z43 0) ((Int32.ofInt 0, G42)) ((Int32.ofInt 1, G42)))))) (pj_bd (F_187ex G25 (Int32.ofInt 3)) (fun y52 G53 => pj_nm (pj_wa G53 189 y1.toInt.toNat y52) (fun G57 => pj_nm (pj_ai G57 189 y1.toInt.toNat) (fun z58 => cond (pj_c1 .lt z58 0) ((Int32.ofInt 0, G57)) ((Int32.ofInt 1, G57))))))) (pj_bd (F_183x G25 ((Int8.ofInt 45).toInt32)) (fun y67 G68 => cond (pj_c1 .eq y67 0) (pj_nm (pj_ai G68 187 y1.toInt.toNat) (fun z73 => cond (pj_c1 .ne z73 (Int32.ofInt 1)) (pj_bd (F_187ex G68 (Int32.ofInt 1)) (fun y77 G78 => pj_nm (pj_wa G78 189 y1.toInt.toNat y77) (fun G82 => pj_nm (pj_ai G82 189 y1.toInt.toNat) (fun z83 => cond (pj_c1 .lt z83 0) ((Int32.ofInt 0, G82)) ((Int32.ofInt 1, G82)))))) (pj_bd (F_187ex G68 (Int32.ofInt 3)) (fun y92 G93 => pj_nm (pj_wa G93 189 y1.toInt.toNat y92) (fun G97 => pj_nm (pj_ai G97 189 y1.toInt.toNat) (fun z98 => cond (pj_c1 .lt z98 0) ((Int32.ofInt 0, G97)) ((Int32.ofInt 1, G97)))))))) (pj_nm (pj_wa G68 189 y1.toInt.toNat (Int32.ofInt (-1))) (fun G105 => (Int32.ofInt 1, G105)))))) ((Int32.ofInt 1, G25)))))
theorem md_230 (G0 : pj_G) : F_230x G0 = pj_nm (pj_fi G0 171 39) (fun y1 => pj_bd (F_186_s15x G0) (fun y5 G6 => pj_nm (pj_wa G6 187 y1.toInt.toNat y5) (fun G10 => pj_nm (pj_fi G6 171 39) (fun y8 => pj_nm (y8 + (Int32.ofInt 1)) (fun z11 => pj_nm (pj_wv G10 171 39 (.int z11)) (fun G12 => pj_nm (pj_ai G12 187 y1.toInt.toNat) (fun z13 => cond (pj_c1 .ge z13 0) (cond (pj_c1 .ne z13 (Int32.ofInt 2)) (cond (pj_c1 .ne z13 (Int32.ofInt 3)) (pj_bd (F_187ex G12 (Int32.ofInt 1)) (fun y20 G21 => pj_nm (pj_wa G21 188 y1.toInt.toNat y20) (fun G25 => md_t y1 G25))) (pj_bd (F_187ex G12 (Int32.ofInt 2)) (fun y112 G113 => pj_nm (pj_wa G113 188 y1.toInt.toNat y112) (fun G117 => md_t y1 G117)))) (pj_bd (F_188x G12 ((Int8.ofInt 6).toInt32)) (fun y204 G205 => pj_nm (pj_wa G205 188 y1.toInt.toNat y204) (fun G209 => md_t y1 G209)))) ((Int32.ofInt 0, G12))))))))) := by
  unfold md_t
  exact F_230x_e G0
theorem md_act {C R : pj_G} (h : tx_RD C R) (i : Int32) (n : Nat) (hi : i.toInt = (n : Int)) (hr : (pj_fi R 171 39).toInt = (n : Int)) (n20 : n ≤ 20) : ∃ (y : Int32) (C' R' : pj_G), F_2x C i = C' ∧ F_230x R = (y, R') ∧ md_o [50, 51, 52] n C C' ∧ md_o [187, 188, 189] n R R' ∧ (pj_fi R' 171 39).toInt = (n : Int) + 1 ∧ ((y.toInt = 1 ∧ tx_RD C' R' ∧ md_a C' R' n ∧ (pj_fi R 171 17).toInt + 2 ≤ (pj_fi R' 171 17).toInt) ∨ (y.toInt = 0 ∧ tx_ER C' R')) := by
  have k0 : (Int32.ofInt 0).toInt = 0 := by decide
  have k1 : (Int32.ofInt 1).toInt = 1 := by decide
  have k2 : (Int32.ofInt 2).toInt = 2 := by decide
  have k3 : (Int32.ofInt 3).toInt = 3 := by decide
  have km : (Int32.ofInt (-1)).toInt = -1 := by decide
  have en : i.toInt.toNat = n := by omega
  have er : (pj_fi R 171 39).toInt.toNat = n := by omega
  obtain ⟨d1, kk⟩ := md_k h
  obtain ⟨i1, q1, -⟩ := fr_84_s4x C h.1
  obtain ⟨i2, q2, -⟩ := fr_186_s15x R h.2.1
  have m39 : pj_fi (F_186_s15x R).2 171 39 = pj_fi R 171 39 := q2.1 (171, 39) (by decide)
  have o1 := md_ok q1 rfl n
  have o2 := md_ok q2 rfl n
  rw [F_2x_e, md_230]
  simp only [pj_nm_x, pj_bd_x]
  rw [en, er, m39]
  generalize (F_84_s4x C).2 = C1 at *
  generalize (F_84_s4x C).1 = ch at *
  generalize (F_186_s15x R).2 = R1 at *
  generalize (F_186_s15x R).1 = ix at *
  have s : (pj_fi R 171 39 + Int32.ofInt 1).toInt = (n : Int) + 1 := by rw [pj_addI (by omega) (by omega), k1]; omega
  have iC2 := (md_i i1 n ch).1
  have iR2 := (md_i i2 n ix).2.2.1
  have iR3 : pj_Inv (pj_wv (pj_wa R1 187 n ix) 171 39 (.int (pj_fi R 171 39 + Int32.ofInt 1))) := pj_Inv_wi iR2 (ci := 12) rfl (fun q hq => by cases hq; exact ⟨by show (0 : Int) ≤ _; omega, by show _ ≤ (60 : Int); omega⟩)
  have dC := tx_waC d1 iC2 (by decide)
  have dd := tx_wvR (tx_waR dC iR2 (by decide)) iR3 (by decide) (by decide)
  have oC := md_ot (l3 := [50]) o1 (md_ow C1 50 n ch) (by decide) (by decide)
  have oR := md_ot (l3 := [187]) o2 (md_ot (l3 := [187]) (md_ow R1 187 n ix) (md_ov (pj_wa R1 187 n ix) 171 39 n (.int (pj_fi R 171 39 + Int32.ofInt 1))) (by decide) (by decide)) (by decide) (by decide)
  have e50 : pj_ai (pj_wa C1 50 n ch) 50 n = ch := pj_ai_wa_eq i1.1 rfl
  have e187 : pj_ai (pj_wv (pj_wa R1 187 n ix) 171 39 (.int (pj_fi R 171 39 + Int32.ofInt 1))) 187 n = ix := (pj_ai_wv _ _ _ _ _ _).trans (pj_ai_wa_eq i2.1 rfl)
  have e39 : (pj_fi (pj_wv (pj_wa R1 187 n ix) 171 39 (.int (pj_fi R 171 39 + Int32.ofInt 1))) 171 39).toInt = (n : Int) + 1 := by rw [pj_fi_wi iR2.1 (a := 171) (ci := 12) (k := 39) rfl]; exact s
  have e17 : (pj_fi (pj_wv (pj_wa R1 187 n ix) 171 39 (.int (pj_fi R 171 39 + Int32.ofInt 1))) 171 17).toInt = (pj_fi R1 171 17).toInt := by rw [pj_fi_wv_ne _ _ _ _ _ _ (by decide), pj_fi_wa]
  rw [e50, e187]
  generalize pj_wa C1 50 n ch = C2 at *
  generalize pj_wv (pj_wa R1 187 n ix) 171 39 (.int (pj_fi R 171 39 + Int32.ofInt 1)) = R2 at *
  rcases kk with kk | ⟨x1, y1, -⟩
  · have a17 : (pj_fi R1 171 17).toInt = (pj_fi R 171 17).toInt + 1 := kk.2
    have kk := kk.1
    rw [pj_b0_geT (show 0 ≤ ix.toInt by omega), pj_cT]
    rcases kk with ⟨c1, c2⟩ | ⟨c1, c2⟩ | ⟨c1, c2⟩ | ⟨c1, c2⟩
    · -- t
      rw [if_neg (show ¬ ch.toInt = 99 by omega), if_neg (show ¬ ch.toInt = 104 by omega), if_neg (show ¬ ch.toInt = 108 by omega), if_pos c1, pj_b_neT (show ¬ ix.toInt = (Int32.ofInt 2).toInt by omega), pj_cT, pj_b_neT (show ¬ ix.toInt = (Int32.ofInt 3).toInt by omega), pj_cT]
      simp only [← tx_p1]
      obtain ⟨y, C3, R3, z1, z2, z3, z4, z5, z6, z7, z8, z9⟩ := md_n1 dd (Int32.ofInt 1) (by decide) n
      rw [z2, z1, z3]
      unfold md_t
      simp only [pj_nm_x, pj_bd_x]
      rw [er, z7]
      have a50 : pj_ai C3 50 n = ch := (z4 50 rfl n (fun z => absurd z (by decide))).trans e50
      have a187 : pj_ai R3 187 n = ix := (z5 187 rfl n (fun z => absurd z (by decide))).trans e187
      have oC3 := md_ot (l3 := [50, 51]) oC z4 (by decide) (by decide)
      have oR3 := md_ot (l3 := [187, 188]) oR z5 (by decide) (by decide)
      rcases z8 with ⟨w1, w2, w3, w4⟩ | ⟨w1, w2⟩
      · rw [pj_b0_ltF w1, pj_cF, a187, pj_b_neT (show ¬ ix.toInt = (Int32.ofInt 3).toInt by omega), pj_cT, pj_b0_neF (show ix.toInt = 0 by omega), pj_cF]
        obtain ⟨s1, s2⟩ := tx_skip w2 ((Int8.ofInt 45).toInt32) (by decide)
        obtain ⟨j1, t1, -⟩ := fr_82x C3 w2.1 ((Int8.ofInt 45).toInt32) (by decide)
        obtain ⟨j2, t2, r2, ⟨t3, -⟩, -⟩ := fr_183x R3 w2.2.1 ((Int8.ofInt 45).toInt32) (by decide)
        have y9 := z9.1 k1
        have p1 := md_ok t1 rfl n
        have p2 := md_ok t2 rfl n
        have b50 : pj_ai (F_82x C3 ((Int8.ofInt 45).toInt32)).2 50 n = ch := (p1 50 rfl n (fun z => absurd z (by decide))).trans a50
        have b51 : pj_ai (F_82x C3 ((Int8.ofInt 45).toInt32)).2 51 n = y := (p1 51 rfl n (fun z => absurd z (by decide))).trans w3
        have b187 : pj_ai (F_183x R3 ((Int8.ofInt 45).toInt32)).2 187 n = ix := (p2 187 rfl n (fun z => absurd z (by decide))).trans a187
        have b188 : pj_ai (F_183x R3 ((Int8.ofInt 45).toInt32)).2 188 n = y := (p2 188 rfl n (fun z => absurd z (by decide))).trans z7
        have b39 : pj_fi (F_183x R3 ((Int8.ofInt 45).toInt32)).2 171 39 = pj_fi R3 171 39 := t2.1 (171, 39) (by decide)
        have oC4 := md_ot (l3 := [50, 51]) oC3 p1 (by decide) (by decide)
        have oR4 := md_ot (l3 := [187, 188]) oR3 p2 (by decide) (by decide)
        generalize (F_82x C3 ((Int8.ofInt 45).toInt32)).2 = C4 at *
        generalize (F_82x C3 ((Int8.ofInt 45).toInt32)).1 = sk at *
        generalize (F_183x R3 ((Int8.ofInt 45).toInt32)).2 = R4 at *
        generalize (F_183x R3 ((Int8.ofInt 45).toInt32)).1 = sr at *
        by_cases q0 : sk.toInt = 0
        · rw [pj_b0_eqT q0, pj_cT, pj_b0_eqT (show sr.toInt = 0 by omega), pj_cT, b187, pj_b_neT (show ¬ ix.toInt = (Int32.ofInt 1).toInt by omega), pj_cT]
          obtain ⟨y', C5, R5, u1, u2, u3, u4, u5, u6, u7, u8, -⟩ := md_n2 s2 (Int32.ofInt 1) (by decide) n
          rw [u2, u1, u3, u7]
          have oC5 := md_ot (l3 := [50, 51, 52]) oC4 u4 (by decide) (by decide)
          have oR5 := md_ot (l3 := [187, 188, 189]) oR4 u5 (by decide) (by decide)
          have f39 : (pj_fi R5 171 39).toInt = (n : Int) + 1 := by rw [u6, b39, z6]; exact e39
          rcases u8 with ⟨v1, v2, v3, v4⟩ | ⟨v1, v2⟩
          · rw [pj_b0_ltF v1, pj_cF]
            exact ⟨_, _, _, rfl, rfl, oC5, oR5, f39, .inl ⟨k1, v2, ⟨.inl ⟨by rw [u4 50 rfl n (fun z => absurd z (by decide)), b50]; exact c1, by rw [u5 187 rfl n (fun z => absurd z (by decide)), b187]; exact c2⟩, by rw [u4 51 rfl n (fun z => absurd z (by decide)), u5 188 rfl n (fun z => absurd z (by decide)), b51, b188], fun _ => by rw [v3, u7], by rw [u5 188 rfl n (fun z => absurd z (by decide)), b188]; omega⟩, by omega⟩⟩
          · rw [pj_b0_ltT v1, pj_cT]
            exact ⟨_, _, _, rfl, rfl, oC5, oR5, f39, .inr ⟨k0, v2⟩⟩
        · rw [pj_b0_eqF q0, pj_cF, pj_b0_eqF (show ¬ sr.toInt = 0 by omega), pj_cF]
          have u4 := md_ow C4 52 n (Int32.ofInt (-1))
          have u5 := md_ow R4 189 n (Int32.ofInt (-1))
          have oC5 := md_ot (l3 := [50, 51, 52]) oC4 u4 (by decide) (by decide)
          have oR5 := md_ot (l3 := [187, 188, 189]) oR4 u5 (by decide) (by decide)
          have v2 := tx_waR (tx_waC s2 (md_i s2.1 n (Int32.ofInt (-1))).2.1 (by decide)) (md_i s2.2.1 n (Int32.ofInt (-1))).2.2.2.2 (by decide)
          exact ⟨_, _, _, rfl, rfl, oC5, oR5, by rw [pj_fi_wa, b39, z6]; exact e39, .inl ⟨k1, v2, ⟨.inl ⟨by rw [u4 50 rfl n (fun z => absurd z (by decide)), b50]; exact c1, by rw [u5 187 rfl n (fun z => absurd z (by decide)), b187]; exact c2⟩, by rw [u4 51 rfl n (fun z => absurd z (by decide)), u5 188 rfl n (fun z => absurd z (by decide)), b51, b188], fun _ => by rw [pj_ai_wa_eq s2.1.1 rfl, pj_ai_wa_eq s2.2.1.1 rfl], by rw [u5 188 rfl n (fun z => absurd z (by decide)), b188]; omega⟩, by rw [pj_fi_wa]; omega⟩⟩
      · rw [pj_b0_ltT w1, pj_cT]
        obtain ⟨j1, j2, j3, j4⟩ := tx_82d w2.1 (tx_enb w2) ((Int8.ofInt 45).toInt32) (by decide)
        obtain ⟨-, t1, -⟩ := fr_82x C3 w2.1 ((Int8.ofInt 45).toInt32) (by decide)
        rw [pj_b0_eqT j2, pj_cT]
        have oC4 := md_ot (l3 := [50, 51, 52]) oC3 (md_ok t1 rfl n) (by decide) (by decide)
        have w4 := tx_eC w2 j1 ⟨j3, j4⟩
        obtain ⟨j1, j2, j3, j4⟩ := tx_86d w4.1 (tx_enb w4) (Int32.ofInt 1) (by decide)
        obtain ⟨-, t1, -⟩ := fr_86x (F_82x C3 ((Int8.ofInt 45).toInt32)).2 w4.1 (Int32.ofInt 1) (by decide)
        have w5 := tx_eC w4 j1 ⟨j3, j4⟩
        have w6 := tx_ewaC w5 (md_i w5.1 n (F_86x (F_82x C3 ((Int8.ofInt 45).toInt32)).2 (Int32.ofInt 1)).1).2.1
        exact ⟨_, _, _, rfl, rfl, md_ot (l3 := [50, 51, 52]) oC4 (md_ot (l3 := [52]) (md_ok t1 rfl n) (md_ow _ 52 n _) (by decide) (by decide)) (by decide) (by decide), md_ot oR3 (md_or n _) (by decide) (by decide), by rw [z6]; exact e39, .inr ⟨k0, w6⟩⟩
    · -- l
      rw [if_neg (show ¬ ch.toInt = 99 by omega), if_neg (show ¬ ch.toInt = 104 by omega), if_pos c1, pj_b_neT (show ¬ ix.toInt = (Int32.ofInt 2).toInt by omega), pj_cT, pj_b_neT (show ¬ ix.toInt = (Int32.ofInt 3).toInt by omega), pj_cT]
      simp only [← tx_p1]
      obtain ⟨y, C3, R3, z1, z2, z3, z4, z5, z6, z7, z8, z9⟩ := md_n1 dd (Int32.ofInt 1) (by decide) n
      have a50 : pj_ai C3 50 n = ch := (z4 50 rfl n (fun z => absurd z (by decide))).trans e50
      have a187 : pj_ai R3 187 n = ix := (z5 187 rfl n (fun z => absurd z (by decide))).trans e187
      have oC3 := md_ot (l3 := [50, 51]) oC z4 (by decide) (by decide)
      have oR3 := md_ot (l3 := [187, 188]) oR z5 (by decide) (by decide)
      rw [z2, z3, z1]
      unfold md_t
      simp only [pj_nm_x, pj_bd_x]
      rw [er, z7]
      rcases z8 with ⟨w1, w2, w3, w4⟩ | ⟨w1, w2⟩
      · rw [pj_b0_ltF w1, pj_cF, a187, pj_b_neT (show ¬ ix.toInt = (Int32.ofInt 3).toInt by omega), pj_cT, pj_b0_neT (show ¬ ix.toInt = 0 by omega), pj_cT, pj_b_neF (show ix.toInt = (Int32.ofInt 1).toInt by omega), pj_cF]
        obtain ⟨y', C5, R5, u1, u2, u3, u4, u5, u6, u7, u8, -⟩ := md_n2 w2 (Int32.ofInt 3) (by decide) n
        rw [u1, u2, u3, u7]
        have oC5 := md_ot (l3 := [50, 51, 52]) oC3 u4 (by decide) (by decide)
        have oR5 := md_ot (l3 := [187, 188, 189]) oR3 u5 (by decide) (by decide)
        have f39 : (pj_fi R5 171 39).toInt = (n : Int) + 1 := by rw [u6, z6]; exact e39
        rcases u8 with ⟨v1, v2, v3, v4⟩ | ⟨v1, v2⟩
        · rw [pj_b0_ltF v1, pj_cF]
          exact ⟨_, _, _, rfl, rfl, oC5, oR5, f39, .inl ⟨k1, v2, ⟨.inr (.inl ⟨by rw [u4 50 rfl n (fun z => absurd z (by decide)), a50]; exact c1, by rw [u5 187 rfl n (fun z => absurd z (by decide)), a187]; exact c2⟩), by rw [u4 51 rfl n (fun z => absurd z (by decide)), u5 188 rfl n (fun z => absurd z (by decide)), w3, z7], fun _ => by rw [v3, u7], by rw [u5 188 rfl n (fun z => absurd z (by decide)), z7]; omega⟩, by omega⟩⟩
        · rw [pj_b0_ltT v1, pj_cT]
          exact ⟨_, _, _, rfl, rfl, oC5, oR5, f39, .inr ⟨k0, v2⟩⟩
      · rw [pj_b0_ltT w1, pj_cT]
        obtain ⟨j1, j2, j3, j4⟩ := tx_86d w2.1 (tx_enb w2) (Int32.ofInt 3) (by decide)
        obtain ⟨-, t1, -⟩ := fr_86x C3 w2.1 (Int32.ofInt 3) (by decide)
        have w5 := tx_eC w2 j1 ⟨j3, j4⟩
        have w6 := tx_ewaC w5 (md_i w5.1 n (F_86x C3 (Int32.ofInt 3)).1).2.1
        exact ⟨_, _, _, rfl, rfl, md_ot (l3 := [50, 51, 52]) oC3 (md_ot (l3 := [52]) (md_ok t1 rfl n) (md_ow _ 52 n _) (by decide) (by decide)) (by decide) (by decide), md_ot oR3 (md_or n _) (by decide) (by decide), by rw [z6]; exact e39, .inr ⟨k0, w6⟩⟩
    · -- c
      rw [if_pos c1, pj_b_neF (show ix.toInt = (Int32.ofInt 2).toInt by omega), pj_cF]
      obtain ⟨y, C3, R3, z1, z2, z3, z4, z5, z6, z7, z8, z9⟩ := md_l1 dd n
      have a50 : pj_ai C3 50 n = ch := (z4 50 rfl n (fun z => absurd z (by decide))).trans e50
      have a187 : pj_ai R3 187 n = ix := (z5 187 rfl n (fun z => absurd z (by decide))).trans e187
      simp only [← tx_p1]
      rw [z1]
      have oC3 := md_ot (l3 := [50, 51]) oC z4 (by decide) (by decide)
      have oR3 := md_ot (l3 := [187, 188]) oR z5 (by decide) (by decide)
      rw [z2, z3]
      unfold md_t
      simp only [pj_nm_x, pj_bd_x]
      rw [er, z7]
      rcases z8 with ⟨w1, w2, w3, w4⟩ | ⟨w1, w2⟩
      · rw [pj_b0_ltF w1, pj_cF, a187, pj_b_neT (show ¬ ix.toInt = (Int32.ofInt 3).toInt by omega), pj_cT, pj_b0_neT (show ¬ ix.toInt = 0 by omega), pj_cT, pj_b_neT (show ¬ ix.toInt = (Int32.ofInt 1).toInt by omega), pj_cT]
        obtain ⟨y', C5, R5, u1, u2, u3, u4, u5, u6, u7, u8, -⟩ := md_n2 w2 (Int32.ofInt 1) (by decide) n
        rw [u1, u2, u3, u7]
        have oC5 := md_ot (l3 := [50, 51, 52]) oC3 u4 (by decide) (by decide)
        have oR5 := md_ot (l3 := [187, 188, 189]) oR3 u5 (by decide) (by decide)
        have f39 : (pj_fi R5 171 39).toInt = (n : Int) + 1 := by rw [u6, z6]; exact e39
        rcases u8 with ⟨v1, v2, v3, v4⟩ | ⟨v1, v2⟩
        · rw [pj_b0_ltF v1, pj_cF]
          exact ⟨_, _, _, rfl, rfl, oC5, oR5, f39, .inl ⟨k1, v2, ⟨.inr (.inr (.inl ⟨by rw [u4 50 rfl n (fun z => absurd z (by decide)), a50]; exact c1, by rw [u5 187 rfl n (fun z => absurd z (by decide)), a187]; exact c2⟩)), by rw [u4 51 rfl n (fun z => absurd z (by decide)), u5 188 rfl n (fun z => absurd z (by decide)), w3, z7], fun _ => by rw [v3, u7], by rw [u5 188 rfl n (fun z => absurd z (by decide)), z7]; omega⟩, by omega⟩⟩
        · rw [pj_b0_ltT v1, pj_cT]
          exact ⟨_, _, _, rfl, rfl, oC5, oR5, f39, .inr ⟨k0, v2⟩⟩
      · rw [pj_b0_ltT w1, pj_cT]
        obtain ⟨j1, j2, j3, j4⟩ := tx_86d w2.1 (tx_enb w2) (Int32.ofInt 1) (by decide)
        obtain ⟨-, t1, -⟩ := fr_86x C3 w2.1 (Int32.ofInt 1) (by decide)
        have w5 := tx_eC w2 j1 ⟨j3, j4⟩
        have w6 := tx_ewaC w5 (md_i w5.1 n (F_86x C3 (Int32.ofInt 1)).1).2.1
        exact ⟨_, _, _, rfl, rfl, md_ot (l3 := [50, 51, 52]) oC3 (md_ot (l3 := [52]) (md_ok t1 rfl n) (md_ow _ 52 n _) (by decide) (by decide)) (by decide) (by decide), md_ot oR3 (md_or n _) (by decide) (by decide), by rw [z6]; exact e39, .inr ⟨k0, w6⟩⟩
    · -- h
      rw [if_neg (show ¬ ch.toInt = 99 by omega), if_pos c1, pj_b_neT (show ¬ ix.toInt = (Int32.ofInt 2).toInt by omega), pj_cT, pj_b_neF (show ix.toInt = (Int32.ofInt 3).toInt by omega), pj_cF]
      obtain ⟨y, C3, R3, z1, z2, z3, z4, z5, z6, z7, z8, z9⟩ := md_n1 dd (Int32.ofInt 2) (by decide) n
      have a50 : pj_ai C3 50 n = ch := (z4 50 rfl n (fun z => absurd z (by decide))).trans e50
      have a187 : pj_ai R3 187 n = ix := (z5 187 rfl n (fun z => absurd z (by decide))).trans e187
      have oC3 := md_ot (l3 := [50, 51, 52]) oC z4 (by decide) (by decide)
      have oR3 := md_ot (l3 := [187, 188, 189]) oR z5 (by decide) (by decide)
      have y9 := z9.2 k2
      rw [z1, z2, z3]
      unfold md_t
      simp only [pj_nm_x, pj_bd_x]
      rw [er, z7]
      rcases z8 with ⟨w1, w2, w3, w4⟩ | ⟨w1, w2⟩
      · rw [pj_b0_ltF w1, pj_cF, a187, pj_b_neF (show ix.toInt = (Int32.ofInt 3).toInt by omega), pj_cF]
        exact ⟨_, _, _, rfl, rfl, oC3, oR3, by rw [z6]; exact e39, .inl ⟨k1, w2, ⟨.inr (.inr (.inr ⟨by rw [a50]; exact c1, by rw [a187]; exact c2⟩)), by rw [w3, z7], fun z => absurd (show (pj_ai R3 187 n).toInt = 3 by rw [a187]; exact c2) z, by rw [z7]; omega⟩, by omega⟩⟩
      · rw [pj_b0_ltT w1, pj_cT]
        exact ⟨_, _, _, rfl, rfl, oC3, oR3, by rw [z6]; exact e39, .inr ⟨k0, w2⟩⟩
  · -- no act
    rw [if_neg (show ¬ ch.toInt = 99 by omega), if_neg (show ¬ ch.toInt = 104 by omega), if_neg (show ¬ ch.toInt = 108 by omega), if_neg (show ¬ ch.toInt = 116 by omega), pj_b0_geF (show ix.toInt < 0 by omega), pj_cF]
    obtain ⟨i8, k8, -, e8, -⟩ := fr_81x C2 dd.1
    exact ⟨_, _, _, rfl, rfl, md_ot oC (md_ok k8 rfl n) (by decide) (by decide), md_ot oR (md_or n _) (by decide) (by decide), e39, .inr ⟨k0, pr_E dd i8 dd.2.1 (by rw [k8.1 (2, 2) (by decide)]) (e8 dd.2.2.1) rfl rfl⟩⟩
