-- the steps, where they go on
theorem xI_ok {K : xk} {ci k a : Nat} (h : xk_kd K a = ci + 1) : xI K ci k a = some (xk_iv K ci k a) := if_pos h
theorem xR_ok {K : xk} {ci k a : Nat} (h : xk_kd K a = ci + 1) : xR K ci k a = some (xk_rv K ci k a) := if_pos h
theorem xIs_ok {K : xk} {ci k a : Nat} {v : Int32} (h : xk_kd K a = ci + 1) : xIs K ci k a v = some (xk_sI K ci k a v) := if_pos h
theorem xZs_ok {K : xk} {ci k a : Nat} {v : Int32} (h : xk_kd K a = ci + 1) (hv : v = 0 ∨ v = 1) : xZs K ci k a v = some (xk_sI K ci k a v) := if_pos ⟨h, hv⟩
theorem xRs_ok {K : xk} {ci k a : Nat} {v : Option Nat} (h : xk_kd K a = ci + 1) : xRs K ci k a v = some (xk_sR K ci k a v) := if_pos h
theorem xO_ok {K : xk} {ci a : Nat} (h : xk_kd K a = ci + 1) : xO K ci a = some () := if_pos h
theorem xIa_ok {K : xk} {t a n i : Nat} (h : xk_kd K a = 100 + t) (hl : xk_ln K a = n) (hi : i < n) (hn : n < 2 ^ 31) : xIa K t a (nI i) = some (xk_ai K a i) := by
  subst hl
  have e := nI_clamp (n := i) (by omega)
  unfold xIa
  rw [if_pos ⟨h, nI_in hi hn⟩, e]
theorem xRa_ok {K : xk} {t a n i : Nat} (h : xk_kd K a = 100 + t) (hl : xk_ln K a = n) (hi : i < n) (hn : n < 2 ^ 31) : xRa K t a (nI i) = some (xk_ar K a i) := by
  subst hl
  have e := nI_clamp (n := i) (by omega)
  unfold xRa
  rw [if_pos ⟨h, nI_in hi hn⟩, e]
theorem xIt_ok {K : xk} {t a n i : Nat} {v : Int32} (h : xk_kd K a = 100 + t) (hl : xk_ln K a = n) (hi : i < n) (hn : n < 2 ^ 31) : xIt K t a (nI i) v = some (xk_tI K a i v) := by
  subst hl
  have e := nI_clamp (n := i) (by omega)
  unfold xIt
  rw [if_pos ⟨h, nI_in hi hn⟩, e]
theorem xRt_ok {K : xk} {t ci a n i : Nat} {v : Option Nat} (h : xk_kd K a = 100 + t) (hl : xk_ln K a = n) (hi : i < n) (hn : n < 2 ^ 31) (hv : v.elim (ci + 1) (xk_kd K) = ci + 1) : xRt K t ci a (nI i) v = some (xk_tR K a i v) := by
  subst hl
  have e := nI_clamp (n := i) (by omega)
  unfold xRt
  rw [if_pos ⟨h, nI_in hi hn, hv⟩, e]
theorem xMi_ok {M : xm} {k i : Nat} (hi : i < xm_n k) (hn : xm_n k < 2 ^ 31) : xMi M k (nI i) = some (M k i) := by
  have e := nI_clamp (n := i) (by omega)
  unfold xMi
  rw [if_neg (nI_in hi hn), e]
theorem xMt_ok {M : xm} {k i : Nat} {v : Int32} (hi : i < xm_n k) (hn : xm_n k < 2 ^ 31) : xMt M k (nI i) v = some (xm_s M k i v) := by
  have e := nI_clamp (n := i) (by omega)
  unfold xMt
  rw [if_neg (nI_in hi hn), e]
theorem xMz_ok {M : xm} {k i : Nat} {v : Int32} (hi : i < xm_n k) (hn : xm_n k < 2 ^ 31) (hv : v = 0 ∨ v = 1) : xMz M k (nI i) v = some (xm_s M k i v) := by
  have e := nI_clamp (n := i) (by omega)
  unfold xMz
  rw [if_neg (fun h => h.elim (nI_in hi hn) (fun q => q hv)), e]
theorem xb_some {α β : Type} (x : α) (f : α → Option β) : (some x).bind f = f x := rfl
theorem xp_some {α β γ : Type} (x : α) (y : β) (f : α → β → Option γ) : xp (some (x, y)) f = f x y := rfl
-- a number below 3, or not
theorem pi_3 (c : Int32) : (c < 0) ∨ (¬ c < 0 ∧ (3 : Int32) ≤ c ∧ (2 : Int32) < c ∧ ¬ c ≤ (2 : Int32)) ∨ ∃ j : Nat, j < 3 ∧ c = nI j ∧ ¬ c < 0 ∧ ¬ (3 : Int32) ≤ c ∧ ¬ (2 : Int32) < c ∧ c ≤ (2 : Int32) := by
  have t3 : (3 : Int32).toInt = 3 := by decide
  have t2 : (2 : Int32).toInt = 2 := by decide
  have t0 : (0 : Int32).toInt = 0 := by decide
  by_cases h : c < 0
  · exact Or.inl h
  · by_cases h3 : (3 : Int32) ≤ c
    · refine Or.inr (Or.inl ⟨h, h3, ?_, ?_⟩)
      · rw [Int32.le_iff_toInt_le] at h3; rw [Int32.lt_iff_toInt_lt]; omega
      · rw [Int32.le_iff_toInt_le] at h3 ⊢; omega
    · refine Or.inr (Or.inr ?_)
      obtain ⟨j, hj, rfl⟩ := nI_of h
      have e := nI_toInt hj
      rw [Int32.le_iff_toInt_le, e, t3] at h3
      refine ⟨j, by omega, rfl, h, ?_, ?_, ?_⟩
      · rw [Int32.le_iff_toInt_le, e, t3]; omega
      · rw [Int32.lt_iff_toInt_lt, e, t2]; omega
      · rw [Int32.le_iff_toInt_le, e, t2]; omega
theorem pi_2 (c : Int32) : (c < 0) ∨ (¬ c < 0 ∧ (2 : Int32) ≤ c ∧ (1 : Int32) < c ∧ ¬ c ≤ (1 : Int32)) ∨ ∃ j : Nat, j < 2 ∧ c = nI j ∧ ¬ c < 0 ∧ ¬ (2 : Int32) ≤ c ∧ ¬ (1 : Int32) < c ∧ c ≤ (1 : Int32) := by
  have t1 : (1 : Int32).toInt = 1 := by decide
  have t2 : (2 : Int32).toInt = 2 := by decide
  have t0 : (0 : Int32).toInt = 0 := by decide
  by_cases h : c < 0
  · exact Or.inl h
  · by_cases h3 : (2 : Int32) ≤ c
    · refine Or.inr (Or.inl ⟨h, h3, ?_, ?_⟩)
      · rw [Int32.le_iff_toInt_le] at h3; rw [Int32.lt_iff_toInt_lt]; omega
      · rw [Int32.le_iff_toInt_le] at h3 ⊢; omega
    · refine Or.inr (Or.inr ?_)
      obtain ⟨j, hj, rfl⟩ := nI_of h
      have e := nI_toInt hj
      rw [Int32.le_iff_toInt_le, e, t2] at h3
      refine ⟨j, by omega, rfl, h, ?_, ?_, ?_⟩
      · rw [Int32.le_iff_toInt_le, e, t2]; omega
      · rw [Int32.lt_iff_toInt_lt, e, t1]; omega
      · rw [Int32.le_iff_toInt_le, e, t1]; omega
-- what stays where it was made (offsets from the store's own address B)
def iO (K : xk) (B : Nat) : Prop := xk_kd K B = 0 + 1 ∧ xk_rv K 0 0 B = some (1 + B) ∧ xk_rv K 0 1 B = some (2 + B) ∧ xk_rv K 0 2 B = some (3 + B) ∧ xk_rv K 0 3 B = some (4 + B) ∧ xk_rv K 0 4 B = some (5 + B) ∧ xk_rv K 0 5 B = some (6 + B)
def iC (K : xk) (M : xm) (B : Nat) : Prop := xk_kd K (1 + B) = 100 + 2 ∧ xk_ln K (1 + B) = 3 ∧ ∀ i, i < 3 → xk_ar K (1 + B) i = some (34 + i + B) ∧ xk_kd K (34 + i + B) = 1 + 1 ∧ xk_iv K 1 0 (34 + i + B) = M 1 i ∧ xk_iv K 1 1 (34 + i + B) = M 0 i
def iL (K : xk) (M : xm) (B : Nat) : Prop := xk_kd K (2 + B) = 100 + 3 ∧ xk_ln K (2 + B) = 3 ∧ ∀ i, i < 3 → xk_ar K (2 + B) i = some (37 + 3 * i + B) ∧ xk_kd K (37 + 3 * i + B) = 9 + 1 ∧ xk_iv K 9 0 (37 + 3 * i + B) = nI i ∧ xk_iv K 9 1 (37 + 3 * i + B) = M 3 i ∧ xk_iv K 9 2 (37 + 3 * i + B) = M 2 i ∧ xk_iv K 9 3 (37 + 3 * i + B) = M 4 i ∧ xk_iv K 9 6 (37 + 3 * i + B) = M 5 i
def iT (K : xk) (M : xm) (B : Nat) : Prop := xk_kd K (3 + B) = 100 + 4 ∧ xk_ln K (3 + B) = 2 ∧ ∀ i, i < 2 → xk_ar K (3 + B) i = some (46 + 2 * i + B) ∧ xk_kd K (46 + 2 * i + B) = 10 + 1 ∧ xk_iv K 10 1 (46 + 2 * i + B) = M 11 i ∧ xk_iv K 10 2 (46 + 2 * i + B) = M 10 i ∧ xk_iv K 10 3 (46 + 2 * i + B) = M 12 i ∧ xk_iv K 10 5 (46 + 2 * i + B) = M 13 i
def iU (K : xk) (M : xm) (B : Nat) : Prop := xk_kd K (4 + B) = 100 + 5 ∧ xk_ln K (4 + B) = 3 ∧ ∀ i, i < 3 → xk_ar K (4 + B) i = some (50 + 3 * i + B) ∧ xk_kd K (50 + 3 * i + B) = 11 + 1 ∧ xk_iv K 11 0 (50 + 3 * i + B) = nI i ∧ xk_iv K 11 1 (50 + 3 * i + B) = M 38 i ∧ xk_iv K 11 2 (50 + 3 * i + B) = M 39 i ∧ xk_iv K 11 3 (50 + 3 * i + B) = M 40 i ∧ (M 40 i = 0 ∨ xk_iv K 11 4 (50 + 3 * i + B) = M 42 i) ∧ xk_iv K 11 5 (50 + 3 * i + B) = M 41 i ∧ xk_iv K 11 6 (50 + 3 * i + B) = M 46 i ∧ xk_iv K 11 7 (50 + 3 * i + B) = M 43 i
-- the calls that only look
theorem pu_coordinator {K : xk} {M : xm} {B : Nat} (hO : iO K B) (hC : iC K M B) (c : Int32) : ∃ r : Int32, kf_ES_coordinator_0 K B c = some (r, K) ∧ kf_EM_coordinator_0 M c = some (r, M) := by
  unfold kf_ES_coordinator_0 kf_EM_coordinator_0 kf_ES_isCoordinator_0
  rcases pi_3 c with h | ⟨h1, h2, h3, h4⟩ | ⟨j, hj, rfl, h1, h2, h3, h4⟩
  · exact ⟨-1, by simp [h, xp_some], by simp [h]⟩
  · exact ⟨-1, by simp [h1, h2, xp_some], by simp [h1, h4]⟩
  · obtain ⟨c1, c2, c3⟩ := hC
    obtain ⟨e1, e2, e3, e4⟩ := c3 j hj
    rw [if_neg h1, if_neg h2, if_neg h1, if_pos h4, xp_some, if_neg (by decide), xR_ok hO.1, hO.2.1, xb_some, xb_some, xRa_ok c1 c2 hj (by decide), e1, xb_some, xb_some, xO_ok e2, xb_some]
    unfold kf_Coordinator_code_0
    rw [xI_ok e2, xI_ok e2, xb_some, xb_some, e3, e4, xMi_ok hj (by decide), xb_some, xMi_ok hj (by decide), xb_some]
    by_cases hz : M 1 j = 0
    · exact ⟨_, by rw [if_pos hz, xp_some], by rw [if_pos hz]⟩
    · exact ⟨_, by rw [if_neg hz, xp_some], by rw [if_neg hz]⟩
theorem pu_log {K : xk} {M : xm} {B : Nat} (hO : iO K B) (hC : iL K M B) (c : Int32) : ∃ r : Int32, kf_ES_log_0 K B c = some (r, K) ∧ kf_EM_log_0 M c = some (r, M) := by
  unfold kf_ES_log_0 kf_EM_log_0 kf_ES_isLog_0
  rcases pi_3 c with h | ⟨h1, h2, h3, h4⟩ | ⟨j, hj, rfl, h1, h2, h3, h4⟩
  · exact ⟨-1, by simp [h, xp_some], by simp [h]⟩
  · exact ⟨-1, by simp [h1, h2, xp_some], by simp [h1, h4]⟩
  · obtain ⟨c1, c2, c3⟩ := hC
    obtain ⟨e1, e2, e3, e4, e5, e6, e7⟩ := c3 j hj
    rw [if_neg h1, if_neg h2, if_neg h1, if_pos h4, xp_some, if_neg (by decide), xR_ok hO.1, hO.2.2.1, xb_some, xb_some, xRa_ok c1 c2 hj (by decide), e1, xb_some, xb_some, xO_ok e2, xb_some]
    unfold kf_Log_code_0
    rw [xI_ok e2, xI_ok e2, xI_ok e2, xI_ok e2, xb_some, xb_some, xb_some, xb_some, e4, e5, e6, e7, xMi_ok hj (by decide), xb_some, xMi_ok hj (by decide), xb_some, xMi_ok hj (by decide), xb_some, xMi_ok hj (by decide), xb_some]
    by_cases hz : M 3 j = 0
    · exact ⟨_, by rw [if_pos hz, xp_some], by rw [if_pos hz]⟩
    · exact ⟨_, by rw [if_neg hz, xp_some], by rw [if_neg hz]⟩
theorem pu_storage {K : xk} {M : xm} {B : Nat} (hO : iO K B) (hC : iT K M B) (c : Int32) : ∃ r : Int32, kf_ES_storage_0 K B c = some (r, K) ∧ kf_EM_storage_0 M c = some (r, M) := by
  unfold kf_ES_storage_0 kf_EM_storage_0 kf_ES_isStorage_0
  rcases pi_2 c with h | ⟨h1, h2, h3, h4⟩ | ⟨j, hj, rfl, h1, h2, h3, h4⟩
  · exact ⟨-1, by simp [h, xp_some], by simp [h]⟩
  · exact ⟨-1, by simp [h1, h2, xp_some], by simp [h1, h4]⟩
  · obtain ⟨c1, c2, c3⟩ := hC
    obtain ⟨e1, e2, e4, e5, e6, e7⟩ := c3 j hj
    rw [if_neg h1, if_neg h2, if_neg h1, if_pos h4, xp_some, if_neg (by decide), xR_ok hO.1, hO.2.2.2.1, xb_some, xb_some, xRa_ok c1 c2 hj (by decide), e1, xb_some, xb_some, xO_ok e2, xb_some]
    unfold kf_Storage_code_0
    rw [xI_ok e2, xI_ok e2, xI_ok e2, xI_ok e2, xb_some, xb_some, xb_some, xb_some, e4, e5, e6, e7, xMi_ok hj (by decide), xb_some, xMi_ok hj (by decide), xb_some, xMi_ok hj (by decide), xb_some, xMi_ok hj (by decide), xb_some]
    by_cases hz : M 11 j = 0
    · exact ⟨_, by rw [if_pos hz, xp_some], by rw [if_pos hz]⟩
    · exact ⟨_, by rw [if_neg hz, xp_some], by rw [if_neg hz]⟩
theorem pu_status {K : xk} {M : xm} {B : Nat} (hO : iO K B) (hC : iU K M B) (c : Int32) : ∃ r : Int32, kf_ES_status_0 K B c = some (r, K) ∧ kf_EM_status_0 M c = some (r, M) := by
  unfold kf_ES_status_0 kf_EM_status_0 kf_ES_isClient_0 kf_EM_isClient_0
  rcases pi_3 c with h | ⟨h1, h2, h3, h4⟩ | ⟨j, hj, rfl, h1, h2, h3, h4⟩
  · exact ⟨-1, by simp [h, xp_some], by simp [h, xp_some]⟩
  · exact ⟨-1, by simp [h1, h2, xp_some], by simp [h1, h3, xp_some]⟩
  · obtain ⟨c1, c2, c3⟩ := hC
    obtain ⟨e1, e2, e3, e4, e5, e6, e7, e8, e9, e10⟩ := c3 j hj
    rw [if_neg h1, if_neg h2, if_neg h1, if_neg h3, xp_some, xp_some, if_neg (by decide), if_neg (by decide), xR_ok hO.1, hO.2.2.2.2.1, xb_some, xb_some, xRa_ok c1 c2 hj (by decide), e1, xb_some, xb_some, xO_ok e2, xb_some]
    unfold kf_Client_code_0
    rw [xI_ok e2, xI_ok e2, xI_ok e2, xb_some, xb_some, xb_some, e6, e8, e9, xMi_ok hj (by decide), xb_some, xMi_ok hj (by decide), xb_some, xMi_ok hj (by decide), xb_some]
    exact ⟨_, by rw [xp_some], rfl⟩
