/-- the reference's 'in' -/
def in_r (v lo hi : Int64) : Int32 := if lo ≤ v ∧ v ≤ hi then 1 else 0
theorem in_no (v : Int64) : in_r v 0 ((0 - 1 : Int32).toInt64) = 0 := by
  unfold in_r
  exact if_neg (fun h => absurd (Int64.le_trans h.1 h.2) (by decide))
theorem in_nar (v lo hi : Int64) : narrow .boolean (.int (in_r v lo hi)) = .int (in_r v lo hi) := by
  unfold in_r
  by_cases h : lo ≤ v ∧ v ≤ hi
  · rw [if_pos h]; rfl
  · rw [if_neg h]; rfl
theorem in_1 {v lo hi : Int64} (c : lg_cmp v lo < 0) : (0 : Int32) = in_r v lo hi := by
  unfold in_r
  exact (if_neg (fun h => absurd h.1 (Int64.not_le.mpr ((lg_cmp_lt v lo).mp c)))).symm
theorem in_2 {v lo hi : Int64} (_ : ¬ lg_cmp v lo < 0) (c : 0 < lg_cmp v hi) : (0 : Int32) = in_r v lo hi := by
  unfold in_r
  exact (if_neg (fun h => absurd h.2 (Int64.not_le.mpr ((lg_cmp_gt v hi).mp c)))).symm
theorem in_12 {v lo hi : Int64} (c1 : ¬ lg_cmp v lo < 0) (c2 : ¬ 0 < lg_cmp v hi) : (1 : Int32) = in_r v lo hi := by
  unfold in_r
  exact (if_pos ⟨Int64.not_lt.mp (fun h => c1 ((lg_cmp_lt v lo).mpr h)), Int64.not_lt.mp (fun h => c2 ((lg_cmp_gt v hi).mpr h))⟩).symm
/-- count() of a fresh object -/
def cnt (w : Int32) : Int32 := if w = 0 then 0 else if w = 1 then 0 else if w = 2 then 0 else -1
/-- weight() of a fresh object -/
def wgt (i : Int32) (w : Int64) : Int64 := if (0 ≤ i.toInt ∧ i.toInt ≤ 31) ∧ (0 ≤ w.toInt ∧ w.toInt ≤ 1000000000000) then 0 else -1
theorem wg_1 {i : Int32} {w : Int64} (c : i < 0) : (-1 : Int64) = wgt i w := by
  have h : i.toInt < 0 := Int32.lt_iff_toInt_lt.mp c
  unfold wgt
  exact (if_neg (fun q => by have := q.1.1; omega)).symm
theorem wg_2 {i : Int32} {w : Int64} (c : 32 ≤ i) : (-1 : Int64) = wgt i w := by
  have h : (32 : Int) ≤ i.toInt := Int32.le_iff_toInt_le.mp c
  unfold wgt
  exact (if_neg (fun q => by have := q.1.2; omega)).symm
theorem wg_3 {i : Int32} {w : Int64} (c : lg_cmp w 0 < 0) : (-1 : Int64) = wgt i w := by
  have h : w.toInt < 0 := Int64.lt_iff_toInt_lt.mp ((lg_cmp_lt w 0).mp c)
  unfold wgt
  exact (if_neg (fun q => by have := q.2.1; omega)).symm
theorem wg_4 {i : Int32} {w : Int64} (c : ¬ lg_cmp w 1000000000000 ≤ 0) : (-1 : Int64) = wgt i w := by
  have h : (1000000000000 : Int) < w.toInt := Int64.lt_iff_toInt_lt.mp (Int64.not_le.mp (fun h => c ((lg_cmp_le w 1000000000000).mpr h)))
  unfold wgt
  exact (if_neg (fun q => by have := q.2.2; omega)).symm
theorem wg_ok {i : Int32} {w : Int64} (c1 : ¬ i < 0) (c2 : ¬ 32 ≤ i) (c3 : ¬ lg_cmp w 0 < 0) (c4 : lg_cmp w 1000000000000 ≤ 0) : (0 : Int64) = wgt i w := by
  have h1 : (0 : Int) ≤ i.toInt := Int32.le_iff_toInt_le.mp (Int32.not_lt.mp c1)
  have h2 : i.toInt < 32 := Int32.lt_iff_toInt_lt.mp (Int32.not_le.mp c2)
  have h3 : (0 : Int) ≤ w.toInt := Int64.le_iff_toInt_le.mp (Int64.not_lt.mp (fun h => c3 ((lg_cmp_lt w 0).mpr h)))
  have h4 : w.toInt ≤ 1000000000000 := Int64.le_iff_toInt_le.mp ((lg_cmp_le w 1000000000000).mp c4)
  unfold wgt
  exact (if_pos ⟨⟨h1, by omega⟩, h3, h4⟩).symm
theorem wg_in {i : Int32} (c1 : ¬ i < 0) (c2 : ¬ 32 ≤ i) : vp_in i 32 := by
  have h1 : (0 : Int) ≤ i.toInt := Int32.le_iff_toInt_le.mp (Int32.not_lt.mp c1)
  have h2 : i.toInt < 32 := Int32.lt_iff_toInt_lt.mp (Int32.not_le.mp c2)
  exact vp_in_iff.mpr ⟨h1, h2⟩
theorem in_iff {v lo hi : Int64} : in_r v lo hi = 0 ↔ ¬ (lo ≤ v ∧ v ≤ hi) := by
  unfold in_r
  by_cases h : lo ≤ v ∧ v ≤ hi
  · rw [if_pos h]; exact ⟨fun q => absurd q (by decide), fun q => absurd h q⟩
  · rw [if_neg h]; exact ⟨fun _ => h, fun _ => rfl⟩
theorem wr_i {i : Int32} : (0 : Int64) ≤ i.toInt64 ∧ i.toInt64 ≤ 31 ↔ 0 ≤ i.toInt ∧ i.toInt ≤ 31 := by
  rw [Int64.le_iff_toInt_le, Int64.le_iff_toInt_le, Int32.toInt_toInt64]
  exact Iff.rfl
theorem wr_w {w : Int64} : (0 : Int64) ≤ w ∧ w ≤ 1000000000000 ↔ 0 ≤ w.toInt ∧ w.toInt ≤ 1000000000000 := by
  rw [Int64.le_iff_toInt_le, Int64.le_iff_toInt_le]
  exact Iff.rfl
theorem wr_1 {i : Int32} {w : Int64} (c : in_r (i : Int32).toInt64 0 31 = 0) : (-1 : Int64) = wgt i w := by
  unfold wgt
  exact (if_neg (fun q => in_iff.mp c (wr_i.mpr q.1))).symm
theorem wr_2 {i : Int32} {w : Int64} (c : in_r w 0 1000000000000 = 0) : (-1 : Int64) = wgt i w := by
  unfold wgt
  exact (if_neg (fun q => in_iff.mp c (wr_w.mpr q.2))).symm
theorem wr_ok {i : Int32} {w : Int64} (c1 : ¬ in_r (i : Int32).toInt64 0 31 = 0) (c2 : ¬ in_r w 0 1000000000000 = 0) : (0 : Int64) = wgt i w := by
  unfold wgt
  refine (if_pos ⟨?_, ?_⟩).symm
  · exact wr_i.mp (Classical.not_not.mp (fun h => c1 (in_iff.mpr h)))
  · exact wr_w.mp (Classical.not_not.mp (fun h => c2 (in_iff.mpr h)))
theorem wr_in {i : Int32} (c1 : ¬ in_r (i : Int32).toInt64 0 31 = 0) : vp_in i 32 := by
  have h := wr_i.mp (Classical.not_not.mp (fun h => c1 (in_iff.mpr h)))
  exact vp_in_iff.mpr ⟨h.1, by have := h.2; omega⟩
