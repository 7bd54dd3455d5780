-- the greatest epoch of the coordinators that are up
def gm_1 (M : xm) (z : Int32 × Int32) (i : Nat) : Int32 × Int32 := if M 1 i = 0 then z else (z.1 + 1, if z.2 < M 0 i then M 0 i else z.2)
def gm_z (M : xm) : Int32 × Int32 := gm_1 M (gm_1 M (gm_1 M (0, -1) 0) 1) 2
def cu_1 (M : xm) (x : Int32) (i : Nat) : Int32 := if M 1 i = 0 then x else x + 1
def gr_1 (M : xm) (x : Int32) (i : Nat) : Int32 := if M 1 i = 0 then x else if M 0 i ≤ x then x else M 0 i
theorem em_step {K : xk} {M : xm} {B : Nat} (hO : iO K B) (hC : iC K M B) {n i : Nat} (hi : i < 3) (z : Int32 × Int32) : kf_ES_epochOfMajority_6 (n + 1) K B z.1 z.2 (nI i) = kf_ES_epochOfMajority_6 n K B (gm_1 M z i).1 (gm_1 M z i).2 (nI (i + 1)) := by
  show kb_ES_epochOfMajority_6 (kf_ES_epochOfMajority_6 n) K B z.1 z.2 (nI i) = _
  unfold kb_ES_epochOfMajority_6
  obtain ⟨c1, c2, c3⟩ := hC
  obtain ⟨e1, e2, e3, e4⟩ := c3 i hi
  have h3 : ¬ (3 : Int32) ≤ nI i := nI_ge (a := i) (b := 3) hi (by decide)
  rw [if_neg h3]
  simp only [xR_ok hO.1, hO.2.1, xb_some, xRa_ok c1 c2 hi (by decide), e1, xI_ok e2, e3, e4, nI_1]
  unfold gm_1
  by_cases hz : M 1 i = 0
  · rw [if_pos hz, if_pos hz]
  · rw [if_neg hz, if_neg hz]
theorem em_end {K : xk} {B n : Nat} (x1 x2 : Int32) : kf_ES_epochOfMajority_6 (n + 1) K B x1 x2 (nI 3) = some (if x1 < 2 then -1 else x2, K) := by
  show kb_ES_epochOfMajority_6 (kf_ES_epochOfMajority_6 n) K B x1 x2 (nI 3) = _
  unfold kb_ES_epochOfMajority_6 kf_ES_epochOfMajority_55
  have h33 : (3 : Int32) ≤ nI 3 := nI_le (a := 3) (b := 3) (Nat.le_refl _) (by decide)
  rw [if_pos h33]
  by_cases hz : x1 < 2
  · rw [if_pos hz, if_pos hz]
  · rw [if_neg hz, if_neg hz]
theorem em_all {K : xk} {M : xm} {B : Nat} (hO : iO K B) (hC : iC K M B) : kf_ES_epochOfMajority_0 K B = some (if (gm_z M).1 < 2 then -1 else (gm_z M).2, K) := by
  show kf_ES_epochOfMajority_6 (999 + 1) K B ((0 : Int32), (-1 : Int32)).1 ((0 : Int32), (-1 : Int32)).2 (nI 0) = _
  rw [em_step hO hC (by decide)]
  show kf_ES_epochOfMajority_6 (998 + 1) K B _ _ (nI 1) = _
  rw [em_step hO hC (by decide)]
  show kf_ES_epochOfMajority_6 (997 + 1) K B _ _ (nI 2) = _
  rw [em_step hO hC (by decide)]
  show kf_ES_epochOfMajority_6 (996 + 1) K B _ _ (nI 3) = _
  rw [em_end]
  rfl
theorem cu_step {M : xm} {n i : Nat} (hi : i < 3) (x : Int32) : kf_EM_coordinatorsUp_4 (n + 1) M x (nI i) = kf_EM_coordinatorsUp_4 n M (cu_1 M x i) (nI (i + 1)) := by
  show kb_EM_coordinatorsUp_4 (kf_EM_coordinatorsUp_4 n) M x (nI i) = _
  unfold kb_EM_coordinatorsUp_4 cu_1
  have h3 : ¬ (3 : Int32) ≤ nI i := nI_ge (a := i) (b := 3) hi (by decide)
  rw [if_neg h3, xMi_ok hi (by decide), xb_some, nI_1]
  by_cases hz : M 1 i = 0
  · rw [if_pos hz, if_pos hz]
  · rw [if_neg hz, if_neg hz]
theorem cu_all (M : xm) : kf_EM_coordinatorsUp_0 M = some (cu_1 M (cu_1 M (cu_1 M 0 0) 1) 2, M) := by
  show kf_EM_coordinatorsUp_4 (999 + 1) M 0 (nI 0) = _
  rw [cu_step (by decide)]
  show kf_EM_coordinatorsUp_4 (998 + 1) M _ (nI 1) = _
  rw [cu_step (by decide)]
  show kf_EM_coordinatorsUp_4 (997 + 1) M _ (nI 2) = _
  rw [cu_step (by decide)]
  show kb_EM_coordinatorsUp_4 (kf_EM_coordinatorsUp_4 996) M _ (nI 3) = _
  unfold kb_EM_coordinatorsUp_4
  have h33 : (3 : Int32) ≤ nI 3 := nI_le (a := 3) (b := 3) (Nat.le_refl _) (by decide)
  rw [if_pos h33]
theorem gr_step {M : xm} {n i : Nat} (hi : i < 3) (x : Int32) : kf_EM_greatest_4 (n + 1) M x (nI i) = kf_EM_greatest_4 n M (gr_1 M x i) (nI (i + 1)) := by
  show kb_EM_greatest_4 (kf_EM_greatest_4 n) M x (nI i) = _
  unfold kb_EM_greatest_4 gr_1
  have h3 : ¬ (3 : Int32) ≤ nI i := nI_ge (a := i) (b := 3) hi (by decide)
  have e0 : xMi M 0 (nI i) = some (M 0 i) := xMi_ok hi (by decide)
  have e1 : xMi M 1 (nI i) = some (M 1 i) := xMi_ok hi (by decide)
  simp only [if_neg h3, e0, e1, xb_some, nI_1]
  by_cases hz : M 1 i = 0
  · rw [if_pos hz, if_pos hz]
  · rw [if_neg hz, if_neg hz]
    by_cases hy : M 0 i ≤ x
    · rw [if_pos hy, if_pos hy]
    · rw [if_neg hy, if_neg hy]
theorem gr_all (M : xm) : kf_EM_greatest_0 M = some (gr_1 M (gr_1 M (gr_1 M 0 0) 1) 2, M) := by
  show kf_EM_greatest_4 (999 + 1) M 0 (nI 0) = _
  rw [gr_step (by decide)]
  show kf_EM_greatest_4 (998 + 1) M _ (nI 1) = _
  rw [gr_step (by decide)]
  show kf_EM_greatest_4 (997 + 1) M _ (nI 2) = _
  rw [gr_step (by decide)]
  show kb_EM_greatest_4 (kf_EM_greatest_4 996) M _ (nI 3) = _
  unfold kb_EM_greatest_4
  have h33 : (3 : Int32) ≤ nI 3 := nI_le (a := 3) (b := 3) (Nat.le_refl _) (by decide)
  rw [if_pos h33]
theorem mx_1 {a b : Int32} : (if a < b then b else a) = if b ≤ a then a else b := by
  by_cases h : a < b
  · have : ¬ b ≤ a := by rw [Int32.le_iff_toInt_le]; rw [Int32.lt_iff_toInt_lt] at h; omega
    rw [if_pos h, if_neg this]
  · have : b ≤ a := by rw [Int32.le_iff_toInt_le]; rw [Int32.lt_iff_toInt_lt] at h; omega
    rw [if_neg h, if_pos this]
/-- both sides find the same: where at least two are up -/
theorem gm_gr {M : xm} (hp : ∀ i, i < 3 → (0 : Int32) < M 0 i) : (gm_z M).1 = cu_1 M (cu_1 M (cu_1 M 0 0) 1) 2 ∧ (¬ (gm_z M).1 < 2 → (gm_z M).2 = gr_1 M (gr_1 M (gr_1 M 0 0) 1) 2 ∧ (gm_z M).2 ≠ -1) := by
  have t0 : (0 : Int32).toInt = 0 := by decide
  have tm : (-1 : Int32).toInt = -1 := by decide
  have a0 : ∀ i, i < 3 → ((-1 : Int32) < M 0 i) ∧ ¬ M 0 i ≤ 0 ∧ M 0 i ≠ -1 := fun i hi => by
    have := hp i hi
    rw [Int32.lt_iff_toInt_lt, t0] at this
    refine ⟨by rw [Int32.lt_iff_toInt_lt, tm]; omega, by rw [Int32.le_iff_toInt_le, t0]; omega, fun e => ?_⟩
    rw [e, tm] at this
    omega
  obtain ⟨p0, q0, r0⟩ := a0 0 (by decide)
  obtain ⟨p1, q1, r1⟩ := a0 1 (by decide)
  obtain ⟨p2, q2, r2⟩ := a0 2 (by decide)
  unfold gm_z gm_1 cu_1 gr_1
  by_cases z0 : M 1 0 = 0 <;> by_cases z1 : M 1 1 = 0 <;> by_cases z2 : M 1 2 = 0
  all_goals simp only [z0, z1, z2, if_true, if_false, p0, p1, p2, q0, q1, q2, mx_1, true_and]
  all_goals first
    | exact fun h => absurd (by decide) h
    | (intro _; split <;> (try split) <;> assumption)
    | (intro _; refine ⟨rfl, ?_⟩; split <;> (try split) <;> assumption)
theorem xMt_get {M : xm} {k i : Nat} {v : Int32} : xm_s M k i v k i = v := by simp [xm_s]
/-- find: the same answer; where there is one, the client's known epoch becomes it -/
theorem pu_find {K : xk} {M : xm} {B : Nat} (hO : iO K B) (hC : iC K M B) (hU : iU K M B) (hp : ∀ i, i < 3 → (0 : Int32) < M 0 i) (c : Int32) :
    ∃ (r : Int32) (K' : xk) (M' : xm), kf_ES_find_0 K B c = some (r, K') ∧ kf_EM_find_0 M c = some (r, M') ∧ ((K' = K ∧ M' = M) ∨ ∃ j, j < 3 ∧ r = (gm_z M).2 ∧ ¬ (gm_z M).1 < 2 ∧ K' = xk_sI K 11 1 (50 + 3 * j + B) r ∧ M' = xm_s M 38 j r) := by
  obtain ⟨g1, g2⟩ := gm_gr hp
  have t2 : (2 : Int32).toInt = 2 := by decide
  have h10 : ¬ (1 : Int32) = 0 := by decide
  unfold kf_ES_find_0 kf_EM_find_0 kf_ES_isClient_0 kf_EM_isClient_0
  rw [xO_ok hO.1, xb_some, em_all hO hC, xp_some]
  rcases pi_3 c with h | ⟨h1, h2, h3, h4⟩ | ⟨j, hj, rfl, h1, h2, h3, h4⟩
  · exact ⟨-1, K, M, by simp [h, xp_some], by simp [h, xp_some], Or.inl ⟨rfl, rfl⟩⟩
  · exact ⟨-1, K, M, by simp [h1, h2, xp_some], by simp [h1, h3, xp_some], Or.inl ⟨rfl, rfl⟩⟩
  · rw [if_neg h1, if_neg h2, if_neg h1, if_neg h3, xp_some, xp_some, if_neg h10, if_neg h10, cu_all, xp_some, ← g1]
    by_cases hm : (gm_z M).1 < 2
    · have hm2 : ¬ (2 : Int32) ≤ (gm_z M).1 := by rw [Int32.le_iff_toInt_le]; rw [Int32.lt_iff_toInt_lt] at hm; omega
      rw [if_pos hm, if_pos rfl, if_neg hm2]
      exact ⟨-1, K, M, rfl, rfl, Or.inl ⟨rfl, rfl⟩⟩
    · have hm2 : (2 : Int32) ≤ (gm_z M).1 := by rw [Int32.le_iff_toInt_le]; rw [Int32.lt_iff_toInt_lt] at hm; omega
      obtain ⟨g3, g4⟩ := g2 hm
      obtain ⟨c1, c2, c3⟩ := hU
      obtain ⟨e1, e2, -⟩ := c3 j hj
      rw [if_neg hm, if_neg g4, if_pos hm2, gr_all, xp_some, ← g3, xR_ok hO.1, hO.2.2.2.2.1, xb_some, xb_some, xRa_ok c1 c2 hj (by decide), e1, xb_some, xb_some, xIs_ok e2, xb_some, xMt_ok hj (by decide), xb_some, xMi_ok hj (by decide), xb_some, xMt_get]
      exact ⟨_, _, _, rfl, rfl, Or.inr ⟨j, hj, rfl, hm, rfl, rfl⟩⟩
theorem iU_1 {K : xk} {M : xm} {B j : Nat} {v : Int32} (hU : iU K M B) : iU (xk_sI K 11 1 (50 + 3 * j + B) v) (xm_s M 38 j v) B := by
  obtain ⟨c1, c2, c3⟩ := hU
  refine ⟨c1, c2, fun i hi => ?_⟩
  obtain ⟨e1, e2, e3, e4, e5, e6, e7, e8, e9, e10⟩ := c3 i hi
  refine ⟨e1, e2, e3, ?_, e5, e6, e7, e8, e9, e10⟩
  show (if 11 = 11 ∧ 1 = 1 ∧ 50 + 3 * i + B = 50 + 3 * j + B then v else xk_iv K 11 1 (50 + 3 * i + B)) = if 38 = 38 ∧ i = j then v else M 38 i
  by_cases h : i = j
  · subst h; simp
  · rw [if_neg (fun q => h (by omega)), if_neg (fun q => h q.2)]
    exact e4
theorem iC_f {K : xk} {M : xm} {B a j k f : Nat} {v w : Int32} (hC : iC K M B) : iC (xk_sI K 11 1 a v) (xm_s M 38 j w) B := hC
