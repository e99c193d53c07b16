/-! CHECKS THAT ASK A METHOD'S OWN WORDS ONCE: how many arguments, its kind (0 static, 1 virtual, 2 a constructor, 3 never called) -/
def pj_pm : List (pj_M × Nat × Nat) := [(pj_m0, 0, 2), (pj_m1, 1, 1), (pj_m2, 2, 1), (pj_m3, 1, 1), (pj_m4, 2, 1), (pj_m5, 1, 2), (pj_m6, 2, 1), (pj_m7, 3, 1), (pj_m8, 1, 1), (pj_m9, 0, 1), (pj_m10, 2, 1), (pj_m11, 2, 0), (pj_m12, 3, 1), (pj_m13, 1, 1), (pj_m14, 0, 1), (pj_m15, 1, 2), (pj_m16, 2, 0), (pj_m17, 3, 1), (pj_m18, 2, 1), (pj_m19, 1, 1), (pj_m20, 0, 1), (pj_m21, 2, 1), (pj_m22, 1, 2), (pj_m23, 0, 1), (pj_m24, 2, 1), (pj_m25, 3, 1), (pj_m26, 3, 1), (pj_m27, 1, 1), (pj_m28, 1, 1), (pj_m29, 1, 1), (pj_m30, 1, 1), (pj_m31, 1, 1), (pj_m32, 0, 2), (pj_m33, 1, 1), (pj_m34, 1, 1), (pj_m35, 0, 1), (pj_m36, 0, 1), (pj_m37, 0, 1), (pj_m38, 2, 1), (pj_m39, 2, 1), (pj_m40, 0, 2), (pj_m41, 1, 1), (pj_m42, 0, 1), (pj_m43, 1, 1), (pj_m44, 2, 1), (pj_m45, 2, 1), (pj_m46, 3, 1), (pj_m47, 2, 1), (pj_m48, 3, 1), (pj_m49, 1, 1), (pj_m50, 3, 1), (pj_m51, 5, 1), (pj_m52, 0, 2), (pj_m53, 0, 1), (pj_m54, 1, 1), (pj_m55, 1, 1), (pj_m56, 2, 1), (pj_m57, 0, 2), (pj_m58, 1, 1), (pj_m59, 0, 1), (pj_m60, 1, 1), (pj_m61, 1, 0), (pj_m62, 3, 1), (pj_m63, 2, 1), (pj_m64, 2, 1), (pj_m65, 1, 1), (pj_m66, 3, 0), (pj_m67, 0, 2), (pj_m68, 1, 1), (pj_m69, 1, 1), (pj_m70, 1, 1), (pj_m71, 1, 1), (pj_m72, 1, 1), (pj_m73, 0, 1), (pj_m74, 0, 1), (pj_m75, 0, 1), (pj_m76, 0, 2), (pj_m77, 1, 1), (pj_m78, 1, 1), (pj_m79, 1, 1), (pj_m80, 0, 1), (pj_m81, 0, 1), (pj_m82, 1, 1), (pj_m83, 2, 1), (pj_m84, 1, 1), (pj_m85, 0, 1), (pj_m86, 1, 1), (pj_m87, 2, 1), (pj_m88, 0, 1), (pj_m89, 0, 2), (pj_m90, 0, 1), (pj_m91, 1, 1), (pj_m92, 1, 1), (pj_m93, 1, 1), (pj_m94, 1, 1), (pj_m95, 1, 1), (pj_m96, 1, 1), (pj_m97, 4, 1), (pj_m98, 2, 0), (pj_m99, 2, 1), (pj_m100, 1, 1), (pj_m101, 2, 1), (pj_m102, 2, 1), (pj_m103, 2, 1), (pj_m104, 2, 1), (pj_m105, 1, 1), (pj_m106, 0, 1), (pj_m107, 0, 1), (pj_m108, 2, 1), (pj_m109, 1, 1), (pj_m110, 2, 1), (pj_m111, 4, 1), (pj_m112, 4, 1), (pj_m113, 4, 1), (pj_m114, 6, 1), (pj_m115, 1, 1), (pj_m116, 0, 2), (pj_m117, 1, 1), (pj_m118, 1, 1), (pj_m119, 0, 1), (pj_m120, 0, 1), (pj_m121, 0, 1), (pj_m122, 0, 1), (pj_m123, 0, 3), (pj_m124, 0, 3), (pj_m125, 0, 3), (pj_m126, 4, 1), (pj_m127, 2, 1), (pj_m128, 2, 1), (pj_m129, 2, 1), (pj_m130, 2, 1), (pj_m131, 1, 1), (pj_m132, 0, 1), (pj_m133, 0, 1), (pj_m134, 2, 1), (pj_m135, 1, 1), (pj_m136, 2, 1), (pj_m137, 2, 1), (pj_m138, 0, 1), (pj_m139, 1, 1), (pj_m140, 1, 1), (pj_m141, 0, 1), (pj_m142, 0, 1), (pj_m143, 1, 1), (pj_m144, 0, 1), (pj_m145, 1, 1), (pj_m146, 4, 1), (pj_m147, 3, 1), (pj_m148, 3, 1), (pj_m149, 0, 1), (pj_m150, 0, 1), (pj_m151, 0, 1), (pj_m152, 4, 1), (pj_m153, 3, 1), (pj_m154, 1, 1), (pj_m155, 0, 1), (pj_m156, 2, 1), (pj_m157, 1, 1), (pj_m158, 1, 1), (pj_m159, 1, 1), (pj_m160, 0, 3), (pj_m161, 1, 1), (pj_m162, 1, 0), (pj_m163, 2, 0), (pj_m164, 2, 0), (pj_m165, 4, 0), (pj_m166, 3, 0), (pj_m167, 3, 0), (pj_m168, 0, 2), (pj_m169, 0, 1), (pj_m170, 3, 0), (pj_m171, 2, 0), (pj_m172, 1, 0), (pj_m173, 2, 0), (pj_m174, 1, 1), (pj_m175, 1, 1), (pj_m176, 1, 1), (pj_m177, 1, 1), (pj_m178, 1, 1), (pj_m179, 1, 1), (pj_m180, 1, 1), (pj_m181, 1, 1), (pj_m182, 1, 1), (pj_m183, 0, 1), (pj_m184, 1, 1), (pj_m185, 1, 1), (pj_m186, 1, 1), (pj_m187, 1, 1), (pj_m188, 3, 1), (pj_m189, 1, 1), (pj_m190, 0, 1), (pj_m191, 0, 1), (pj_m192, 0, 1), (pj_m193, 1, 1), (pj_m194, 1, 1), (pj_m195, 0, 1), (pj_m196, 0, 1), (pj_m197, 1, 1), (pj_m198, 0, 1), (pj_m199, 1, 1), (pj_m200, 0, 1), (pj_m201, 3, 0), (pj_m202, 0, 1), (pj_m203, 1, 1), (pj_m204, 2, 1), (pj_m205, 2, 1), (pj_m206, 2, 1), (pj_m207, 2, 1), (pj_m208, 2, 1), (pj_m209, 1, 1), (pj_m210, 2, 1), (pj_m211, 2, 1), (pj_m212, 2, 1), (pj_m213, 4, 1), (pj_m214, 0, 1), (pj_m215, 1, 1), (pj_m216, 1, 1), (pj_m217, 0, 1), (pj_m218, 2, 1), (pj_m219, 2, 1), (pj_m220, 2, 1), (pj_m221, 2, 1), (pj_m222, 2, 1), (pj_m223, 0, 1), (pj_m224, 0, 1), (pj_m225, 2, 1), (pj_m226, 2, 1), (pj_m227, 2, 1), (pj_m228, 1, 1), (pj_m229, 0, 1), (pj_m230, 1, 1), (pj_m231, 0, 1), (pj_m232, 2, 1), (pj_m233, 2, 1), (pj_m234, 1, 1), (pj_m235, 2, 1), (pj_m236, 1, 1), (pj_m237, 2, 1), (pj_m238, 4, 1), (pj_m239, 3, 1), (pj_m240, 2, 1), (pj_m241, 0, 1), (pj_m242, 4, 1), (pj_m243, 1, 1), (pj_m244, 0, 1), (pj_m245, 1, 1), (pj_m246, 1, 1), (pj_m247, 0, 1), (pj_m248, 1, 1), (pj_m249, 0, 1), (pj_m250, 0, 1), (pj_m251, 1, 1), (pj_m252, 1, 1), (pj_m253, 1, 1), (pj_m254, 0, 1), (pj_m255, 1, 1), (pj_m256, 1, 1), (pj_m257, 1, 1), (pj_m258, 3, 1), (pj_m259, 1, 1), (pj_m260, 4, 1), (pj_m261, 3, 1), (pj_m262, 1, 0), (pj_m263, 3, 1), (pj_m264, 0, 1), (pj_m265, 3, 1), (pj_m266, 0, 1), (pj_m267, 0, 1), (pj_m268, 0, 1), (pj_m269, 4, 1), (pj_m270, 3, 1), (pj_m271, 4, 1), (pj_m272, 3, 1), (pj_m273, 3, 0), (pj_m274, 3, 0), (pj_m275, 1, 1), (pj_m276, 1, 1), (pj_m277, 0, 1), (pj_m278, 0, 1), (pj_m279, 1, 1), (pj_m280, 2, 1), (pj_m281, 1, 1), (pj_m282, 1, 1), (pj_m283, 1, 1), (pj_m284, 1, 1), (pj_m285, 1, 1), (pj_m286, 1, 0), (pj_m287, 1, 0), (pj_m288, 0, 1), (pj_m289, 1, 1), (pj_m290, 1, 1)]
def pj_okm (M : pj_M) (q : Nat × Nat) : Bool := match q.2 with
  | 0 => pj_okM M q.1 && pj_wd (M.2.2.2.2.1.getD 2 0) (.static M.1)
  | 1 => pj_okM M q.1 && pj_wd (M.2.2.2.2.1.getD 2 0) (.instanceMethod M.1) && pj_wd (M.2.2.2.2.1.getD 3 0) (.selects M.1.cls M.1 M.1)
  | 2 => pj_okM M q.1 && pj_wd (M.2.2.2.2.1.getD 2 0) (.instanceMethod M.1) && decide (M.1.name = "<init>") && decide (M.2.2.2.1 = none)
  | _ => true
def pj_mtx (i a k : Nat) : Bool := match pj_pm[i]? with
  | none => false
  | some p => Nat.beq p.2.1 a && Nat.beq p.2.2 k
def pj_lk (own : String) (idx : Nat) (inf : List Nat) (M : pj_M) : Bool := pj_lnk (inf.getD 4 0) own idx M.1 || pj_lnkN (inf.getD 4 0) own idx M.1
def pj_okvL (own : String) (idx : Nat) (inf : List Nat) : Bool := match pj_prog[inf.getD 2 0]? with
  | none => false
  | some M => decide (1 ≤ inf.getD 1 0) && pj_mtx (inf.getD 2 0) (inf.getD 1 0 - 1) 1 &&
    ((decide (inf.getD 0 0 = 0) && ((pj_lnk (inf.getD 4 0) own idx M.1 || pj_lnkN (inf.getD 4 0) own idx M.1) && decide ((pj_cls[inf.getD 3 0]?).map (fun q => q.1) = some M.1.cls))) ||
     (decide (inf.getD 0 0 = 8) && (pj_lnk (inf.getD 4 0) own idx M.1 && decide ("java/lang/String" = M.1.cls))))
def pj_oksL (own : String) (idx : Nat) (inf : List Nat) : Bool := if inf.getD 0 0 = 2 then (match pj_prog[inf.getD 2 0]? with
  | none => false
  | some M => pj_mtx (inf.getD 2 0) (inf.getD 1 0) 0 && (pj_lnk (inf.getD 4 0) own idx M.1 || pj_lnkN (inf.getD 4 0) own idx M.1)) else pj_oks pj_prog own idx inf
def pj_okcL (own : String) (idx : Nat) (inf : List Nat) : Bool := if inf.getD 0 0 = 4 then (match pj_prog[inf.getD 2 0]? with
  | none => false
  | some M => decide (1 ≤ inf.getD 1 0) && pj_mtx (inf.getD 2 0) (inf.getD 1 0 - 1) 2 && (pj_lnk (inf.getD 4 0) own idx M.1 || pj_lnkN (inf.getD 4 0) own idx M.1)) else pj_okc pj_prog own idx inf
def pj_okL (own : String) (ini : Bool) (pc : Nat) (i : Instr) (len : Nat) (inf : List Nat) (z : Int) : Bool := match i with
  | .invokevirtual idx => decide (len = 3) && pj_okvL own idx inf
  | .invokespecial idx => decide (len = 3) && pj_okcL own idx inf
  | .invokestatic idx => decide (len = 3) && pj_oksL own idx inf
  | i => pj_ok pj_prog own ini pc i len inf z
def pj_okRL (M : pj_M) : Bool := M.2.2.2.2.2.all (fun q => decide (decode M.2.1 q.1 = .ok (q.2.1, q.2.2.1)) && pj_okL M.1.cls (decide (M.1.name = "<init>")) q.1 q.2.1 q.2.2.1 q.2.2.2.1 q.2.2.2.2)
def pj_HM : Prop := ∀ p ∈ pj_pm, pj_okm p.1 p.2 = true
set_option maxRecDepth 100000 in
theorem pj_pm_1 : pj_pm.map (fun p => p.1) = pj_prog := rfl
theorem pj_mtx_s (H : pj_HM) {i a k : Nat} {M : pj_M} (hM : pj_prog[i]? = some M) (h : pj_mtx i a k = true) : pj_okm M (a, k) = true := by
  unfold pj_mtx at h
  split at h
  · cases h
  · rename_i p hp
    rw [Bool.and_eq_true] at h
    have e1 := Nat.eq_of_beq_eq_true h.1
    have e2 := Nat.eq_of_beq_eq_true h.2
    have e : pj_prog[i]? = some p.1 := by
      rw [← pj_pm_1, List.getElem?_map, hp]
      rfl
    rw [hM] at e
    have e3 : M = p.1 := Option.some.inj e
    have := H p (List.mem_of_getElem? hp)
    rw [e3, ← e1, ← e2]
    exact this
theorem pj_okvL_s (H : pj_HM) {own : String} {idx : Nat} {inf : List Nat} (h : pj_okvL own idx inf = true) : pj_okv pj_prog own idx inf = true := by
  unfold pj_okvL at h
  unfold pj_okv
  split at h
  · cases h
  · rename_i M hM
    rw [hM]
    dsimp only
    rw [Bool.and_eq_true, Bool.and_eq_true] at h
    have w := pj_mtx_s H hM h.1.2
    have w2 : (pj_okM M (inf.getD 1 0 - 1) && pj_wd (M.2.2.2.2.1.getD 2 0) (.instanceMethod M.1) && pj_wd (M.2.2.2.2.1.getD 3 0) (.selects M.1.cls M.1 M.1)) = true := w
    rw [Bool.and_eq_true, Bool.and_eq_true] at w2
    rw [h.1.1, w2.1.1, w2.1.2, w2.2, h.2]
    rfl
theorem pj_oksL_s (H : pj_HM) {own : String} {idx : Nat} {inf : List Nat} (h : pj_oksL own idx inf = true) : pj_oks pj_prog own idx inf = true := by
  unfold pj_oksL at h
  split at h
  · rename_i h2
    split at h
    · cases h
    · rename_i M hM
      rw [Bool.and_eq_true] at h
      have w : (pj_okM M (inf.getD 1 0) && pj_wd (M.2.2.2.2.1.getD 2 0) (.static M.1)) = true := pj_mtx_s H hM h.1
      rw [Bool.and_eq_true] at w
      unfold pj_oks
      rw [if_neg (by omega), if_neg (by omega), if_neg (by omega), if_neg (by omega), if_neg (by omega), hM]
      dsimp only
      rw [decide_eq_true h2, w.1, w.2, h.2]
      rfl
  · exact h
theorem pj_okcL_s (H : pj_HM) {own : String} {idx : Nat} {inf : List Nat} (h : pj_okcL own idx inf = true) : pj_okc pj_prog own idx inf = true := by
  unfold pj_okcL at h
  split at h
  · rename_i h2
    split at h
    · cases h
    · rename_i M hM
      rw [Bool.and_eq_true, Bool.and_eq_true] at h
      have w : (pj_okM M (inf.getD 1 0 - 1) && pj_wd (M.2.2.2.2.1.getD 2 0) (.instanceMethod M.1) && decide (M.1.name = "<init>") && decide (M.2.2.2.1 = none)) = true := pj_mtx_s H hM h.1.2
      rw [Bool.and_eq_true, Bool.and_eq_true, Bool.and_eq_true] at w
      unfold pj_okc
      rw [if_neg (by omega), hM]
      dsimp only
      rw [decide_eq_true h2, h.1.1, w.1.1.1, w.1.1.2, w.1.2, w.2, h.2]
      rfl
  · exact h
theorem pj_okL_s (H : pj_HM) {own : String} {ini : Bool} {pc : Nat} {i : Instr} {len : Nat} {inf : List Nat} {z : Int} (h : pj_okL own ini pc i len inf z = true) : pj_ok pj_prog own ini pc i len inf z = true := by
  unfold pj_okL at h
  split at h
  · rw [Bool.and_eq_true] at h
    show (decide (len = 3) && pj_okv pj_prog own _ inf) = true
    rw [h.1, pj_okvL_s H h.2]
    rfl
  · rw [Bool.and_eq_true] at h
    show (decide (len = 3) && pj_okc pj_prog own _ inf) = true
    rw [h.1, pj_okcL_s H h.2]
    rfl
  · rw [Bool.and_eq_true] at h
    show (decide (len = 3) && pj_oks pj_prog own _ inf) = true
    rw [h.1, pj_oksL_s H h.2]
    rfl
  · exact h
theorem pj_okRL_s (H : pj_HM) {M : pj_M} (hp : plainName M.1.cls = true) (h : pj_okRL M = true) : pj_okR pj_prog M = true := by
  unfold pj_okR
  rw [hp, Bool.true_and]
  refine List.all_eq_true.mpr (fun q hq => ?_)
  have h1 := List.all_eq_true.mp h q hq
  rw [Bool.and_eq_true] at h1 ⊢
  exact ⟨h1.1, pj_okL_s H h1.2⟩
/-- a method's own words, each held against its place -/
def pj_okq (M : pj_M) (n : Nat) : Bool := pj_stb (.code M.1 M.2.1 M.2.2.1 M.2.2.2.1) && (pj_stb (.initialized M.1.cls) && ((decide (M.1.cls ≠ "java/lang/invoke/MethodHandle") && decide (M.1.cls ≠ "java/lang/invoke/VarHandle")) && (decide ((parseMethodDescriptor M.1.desc).map (fun d => d.parameters.length) = some n) && decide (M.2.2.1 ≤ 45))))
theorem pj_okq_s {M : pj_M} {n : Nat} (h0 : pj_wt (M.2.2.2.2.1.getD 0 0) = some (.code M.1 M.2.1 M.2.2.1 M.2.2.2.1)) (h1 : pj_wt (M.2.2.2.2.1.getD 1 0) = some (.initialized M.1.cls)) (h : pj_okq M n = true) : pj_okM M n = true := by
  unfold pj_okq at h
  simp only [Bool.and_eq_true] at h
  obtain ⟨g1, g2, ⟨g3, g4⟩, g5, g6⟩ := h
  unfold pj_okM pj_wd
  rw [decide_eq_true h0, decide_eq_true h1, g1, g2, g3, g4, g5, g6]
  rfl
theorem pj_okm0 {M : pj_M} {n : Nat} (hm : pj_okM M n = true) (h2 : pj_wt (M.2.2.2.2.1.getD 2 0) = some (.static M.1)) (h : pj_stb (.static M.1) = true) : pj_okm M (n, 0) = true := by
  show (pj_okM M n && pj_wd (M.2.2.2.2.1.getD 2 0) (.static M.1)) = true
  unfold pj_wd
  rw [hm, decide_eq_true h2, h]
  rfl
theorem pj_okm1 {M : pj_M} {n : Nat} (hm : pj_okM M n = true) (h2 : pj_wt (M.2.2.2.2.1.getD 2 0) = some (.instanceMethod M.1)) (h : pj_stb (.instanceMethod M.1) = true) (h3 : pj_wt (M.2.2.2.2.1.getD 3 0) = some (.selects M.1.cls M.1 M.1)) (g : pj_stb (.selects M.1.cls M.1 M.1) = true) : pj_okm M (n, 1) = true := by
  show (pj_okM M n && pj_wd (M.2.2.2.2.1.getD 2 0) (.instanceMethod M.1) && pj_wd (M.2.2.2.2.1.getD 3 0) (.selects M.1.cls M.1 M.1)) = true
  unfold pj_wd
  rw [hm, decide_eq_true h2, h, decide_eq_true h3, g]
  rfl
theorem pj_okm2 {M : pj_M} {n : Nat} (hm : pj_okM M n = true) (h2 : pj_wt (M.2.2.2.2.1.getD 2 0) = some (.instanceMethod M.1)) (h : pj_stb (.instanceMethod M.1) = true) (g : (decide (M.1.name = "<init>") && decide (M.2.2.2.1 = none)) = true) : pj_okm M (n, 2) = true := by
  show (pj_okM M n && pj_wd (M.2.2.2.2.1.getD 2 0) (.instanceMethod M.1) && decide (M.1.name = "<init>") && decide (M.2.2.2.1 = none)) = true
  unfold pj_wd
  rw [Bool.and_eq_true] at g
  rw [hm, decide_eq_true h2, h, g.1, g.2]
  rfl
def pj_okRF (M : pj_M) : Bool := M.2.2.2.2.2.all (fun q => pj_dr M.2.1 q.1 q.2.1 q.2.2.1 && pj_okL M.1.cls (decide (M.1.name = "<init>")) q.1 q.2.1 q.2.2.1 q.2.2.2.1 q.2.2.2.2)
theorem pj_okRF_s {M : pj_M} (h : pj_okRF M = true) : pj_okRL M = true := by
  unfold pj_okRL
  refine List.all_eq_true.mpr (fun q hq => ?_)
  have h1 := List.all_eq_true.mp h q hq
  rw [Bool.and_eq_true] at h1 ⊢
  exact ⟨decide_eq_true (pj_dr_s h1.1), h1.2⟩
/-! LINKS: EACH HELD ONCE, BY TABLES -/
def pj_leq : List Nat → List Nat → Bool
  | [], [] => true
  | a :: l, b :: m => Nat.beq a b && pj_leq l m
  | _, _ => false
theorem pj_leq_s : ∀ {l m : List Nat}, pj_leq l m = true → l = m
  | [], [], _ => rfl
  | a :: l, b :: m, h => by
    have h : (Nat.beq a b && pj_leq l m) = true := h
    rw [Bool.and_eq_true] at h
    rw [Nat.eq_of_beq_eq_true h.1, pj_leq_s h.2]
  | [], _ :: _, h => by cases h
  | _ :: _, [], h => by cases h
def pj_tm : List (Nat × List Nat) → Nat → List Nat → Bool
  | [], _, _ => false
  | e :: r, x, m => (Nat.beq e.1 x && pj_leq e.2 m) || pj_tm r x m
theorem pj_tm_s : ∀ {T : List (Nat × List Nat)} {x : Nat} {m : List Nat}, pj_tm T x m = true → (x, m) ∈ T
  | [], _, _, h => by cases h
  | e :: r, x, m, h => by
    have h : ((Nat.beq e.1 x && pj_leq e.2 m) || pj_tm r x m) = true := h
    rw [Bool.or_eq_true, Bool.and_eq_true] at h
    rcases h with ⟨h1, h2⟩ | h
    · have e1 := Nat.eq_of_beq_eq_true h1
      have e2 := pj_leq_s h2
      rw [← e1, ← e2]
      exact List.mem_cons_self
    · exact List.mem_cons_of_mem _ (pj_tm_s h)
abbrev pj_TT : Type := List (Nat × List Nat) × List (Nat × List Nat) × List (Nat × List Nat) × List (Nat × List Nat)
def pj_TH (own : String) (T : pj_TT) : Prop := (∀ e ∈ T.1, pj_okf own e.1 (e.2.getD 0 0) (e.2.getD 1 0) (e.2.getD 2 0) = true) ∧ (∀ e ∈ T.2.1, pj_okvL own e.1 e.2 = true) ∧ (∀ e ∈ T.2.2.1, pj_okcL own e.1 e.2 = true) ∧ ∀ e ∈ T.2.2.2, pj_oksL own e.1 e.2 = true
def pj_okG (T : pj_TT) (own : String) (ini : Bool) (pc : Nat) (i : Instr) (len : Nat) (inf : List Nat) (z : Int) : Bool := match i with
  | .getfield idx => decide (len = 3) && pj_tm T.1 idx inf
  | .putfield idx => decide (len = 3) && pj_tm T.1 idx inf && pj_okp own ini idx (inf.getD 0 0) (inf.getD 1 0) (inf.getD 2 0)
  | .invokevirtual idx => decide (len = 3) && pj_tm T.2.1 idx inf
  | .invokespecial idx => decide (len = 3) && pj_tm T.2.2.1 idx inf
  | .invokestatic idx => decide (len = 3) && pj_tm T.2.2.2 idx inf
  | i => pj_okL own ini pc i len inf z
theorem pj_okG_s {own : String} {T : pj_TT} (H : pj_TH own T) {ini : Bool} {pc : Nat} {i : Instr} {len : Nat} {inf : List Nat} {z : Int} (h : pj_okG T own ini pc i len inf z = true) : pj_okL own ini pc i len inf z = true := by
  unfold pj_okG at h
  split at h
  · rw [Bool.and_eq_true] at h
    show (decide (len = 3) && pj_okf own _ (inf.getD 0 0) (inf.getD 1 0) (inf.getD 2 0)) = true
    rw [h.1, H.1 _ (pj_tm_s h.2)]
    rfl
  · rw [Bool.and_eq_true, Bool.and_eq_true] at h
    show (decide (len = 3) && pj_okf own _ (inf.getD 0 0) (inf.getD 1 0) (inf.getD 2 0) && pj_okp own ini _ (inf.getD 0 0) (inf.getD 1 0) (inf.getD 2 0)) = true
    rw [h.1.1, H.1 _ (pj_tm_s h.1.2), h.2]
    rfl
  · rw [Bool.and_eq_true] at h
    show (decide (len = 3) && pj_okvL own _ inf) = true
    rw [h.1, H.2.1 _ (pj_tm_s h.2)]
    rfl
  · rw [Bool.and_eq_true] at h
    show (decide (len = 3) && pj_okcL own _ inf) = true
    rw [h.1, H.2.2.1 _ (pj_tm_s h.2)]
    rfl
  · rw [Bool.and_eq_true] at h
    show (decide (len = 3) && pj_oksL own _ inf) = true
    rw [h.1, H.2.2.2 _ (pj_tm_s h.2)]
    rfl
  · exact h
def pj_okRG (T : pj_TT) (own : String) (M : pj_M) : Bool := M.2.2.2.2.2.all (fun q => pj_dr M.2.1 q.1 q.2.1 q.2.2.1 && pj_okG T own (decide (M.1.name = "<init>")) q.1 q.2.1 q.2.2.1 q.2.2.2.1 q.2.2.2.2)
theorem pj_okRG_s {M : pj_M} {T : pj_TT} {own : String} (H : pj_TH own T) (e : M.1.cls = own) (h : pj_okRG T own M = true) : pj_okRL M = true := by
  unfold pj_okRL
  refine List.all_eq_true.mpr (fun q hq => ?_)
  have h1 := List.all_eq_true.mp h q hq
  rw [Bool.and_eq_true] at h1 ⊢
  rw [e]
  exact ⟨decide_eq_true (pj_dr_s h1.1), pj_okG_s H h1.2⟩
theorem pj_pl0 : plainName "BridgesAreLent" = true := by decide +kernel
theorem pj_pl1 : plainName "BridgesAreLent$Day" = true := by decide +kernel
theorem pj_pl2 : plainName "BridgesAreLent$Drifting" = true := by decide +kernel
theorem pj_pl3 : plainName "BridgesAreLent$Finds" = true := by decide +kernel
theorem pj_pl4 : plainName "BridgesAreLent$Layouts" = true := by decide +kernel
theorem pj_pl5 : plainName "BridgesAreLent$Memory" = true := by decide +kernel
theorem pj_pl6 : plainName "BridgesAreLent$River" = true := by decide +kernel
theorem pj_pl7 : plainName "BridgesAreLent$Row" = true := by decide +kernel
theorem pj_pl8 : plainName "BridgesAreLent$Rule" = true := by decide +kernel
theorem pj_pl9 : plainName "BridgesAreLent$State" = true := by decide +kernel
theorem pj_pl10 : plainName "BridgesAreLent$Text" = true := by decide +kernel
theorem pj_pl11 : plainName "BridgesAreLent$Valley" = true := by decide +kernel
theorem pj_pl12 : plainName "BridgesAreLentModel" = true := by decide +kernel
theorem pj_pl13 : plainName "java/lang/Integer" = true := by decide +kernel
theorem pj_pl14 : plainName "java/lang/String" = true := by decide +kernel

