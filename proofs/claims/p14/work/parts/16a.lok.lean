def pj_lokf (q : pj_I) : Bool := decide (decode pj_law.2.1 q.1 = .ok (q.2.1, q.2.2.1)) && pj_okL pj_law.1.cls (decide (pj_law.1.name = "<init>")) q.1 q.2.1 q.2.2.1 q.2.2.2.1 q.2.2.2.2
theorem pj_chunk {α : Type} {l : List α} {f : α → Bool} {k : Nat} (n : Nat) (h : ((l.drop k).take n).all f = true) (h2 : (l.drop (k + n)).all f = true) : (l.drop k).all f = true := by
  rw [← List.take_append_drop n (l.drop k), List.all_append, List.drop_drop, h, h2]
  rfl
set_option maxRecDepth 100000 in
theorem pj_lok0 : ((pj_law.2.2.2.2.2.drop 0).take 61).all pj_lokf = true := by decide +kernel
set_option maxRecDepth 100000 in
theorem pj_lok61 : ((pj_law.2.2.2.2.2.drop 61).take 61).all pj_lokf = true := by decide +kernel
set_option maxRecDepth 100000 in
theorem pj_lok122 : ((pj_law.2.2.2.2.2.drop 122).take 61).all pj_lokf = true := by decide +kernel
set_option maxRecDepth 100000 in
theorem pj_lok183 : ((pj_law.2.2.2.2.2.drop 183).take 61).all pj_lokf = true := by decide +kernel
set_option maxRecDepth 100000 in
theorem pj_lok244 : ((pj_law.2.2.2.2.2.drop 244).take 61).all pj_lokf = true := by decide +kernel
set_option maxRecDepth 100000 in
theorem pj_lok305 : ((pj_law.2.2.2.2.2.drop 305).take 61).all pj_lokf = true := by decide +kernel
set_option maxRecDepth 100000 in
theorem pj_lok366 : ((pj_law.2.2.2.2.2.drop 366).take 61).all pj_lokf = true := by decide +kernel
set_option maxRecDepth 100000 in
theorem pj_lok427 : ((pj_law.2.2.2.2.2.drop 427).take 61).all pj_lokf = true := by decide +kernel
set_option maxRecDepth 100000 in
theorem pj_lok488 : ((pj_law.2.2.2.2.2.drop 488).take 61).all pj_lokf = true := by decide +kernel
set_option maxRecDepth 100000 in
theorem pj_lok549 : ((pj_law.2.2.2.2.2.drop 549).take 61).all pj_lokf = true := by decide +kernel
set_option maxRecDepth 100000 in
theorem pj_lok610 : ((pj_law.2.2.2.2.2.drop 610).take 61).all pj_lokf = true := by decide +kernel
set_option maxRecDepth 100000 in
theorem pj_lok671 : ((pj_law.2.2.2.2.2.drop 671).take 61).all pj_lokf = true := by decide +kernel
set_option maxRecDepth 100000 in
theorem pj_lok732 : ((pj_law.2.2.2.2.2.drop 732).take 61).all pj_lokf = true := by decide +kernel
set_option maxRecDepth 100000 in
theorem pj_lok793 : ((pj_law.2.2.2.2.2.drop 793).take 61).all pj_lokf = true := by decide +kernel
set_option maxRecDepth 100000 in
theorem pj_lok854 : ((pj_law.2.2.2.2.2.drop 854).take 61).all pj_lokf = true := by decide +kernel
theorem pj_lokz : (pj_law.2.2.2.2.2.drop 915).all pj_lokf = true := by decide +kernel
theorem pj_law_all : (pj_law.2.2.2.2.2.drop 0).all pj_lokf = true := (pj_chunk 61 pj_lok0 (pj_chunk 61 pj_lok61 (pj_chunk 61 pj_lok122 (pj_chunk 61 pj_lok183 (pj_chunk 61 pj_lok244 (pj_chunk 61 pj_lok305 (pj_chunk 61 pj_lok366 (pj_chunk 61 pj_lok427 (pj_chunk 61 pj_lok488 (pj_chunk 61 pj_lok549 (pj_chunk 61 pj_lok610 (pj_chunk 61 pj_lok671 (pj_chunk 61 pj_lok732 (pj_chunk 61 pj_lok793 (pj_chunk 61 pj_lok854 pj_lokz)))))))))))))))
theorem pj_law_pl : plainName pj_law.1.cls = true := by decide +kernel
theorem pj_law_ok : pj_okR pj_prog pj_law = true := by
  unfold pj_okR
  rw [pj_law_pl, Bool.true_and]
  refine List.all_eq_true.mpr (fun q hq => ?_)
  have h1 := List.all_eq_true.mp pj_law_all q (show q ∈ pj_law.2.2.2.2.2.drop 0 from hq)
  unfold pj_lokf at h1
  rw [Bool.and_eq_true] at h1 ⊢
  exact ⟨h1.1, pj_okL_s pj_hm h1.2⟩
