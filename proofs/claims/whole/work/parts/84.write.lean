-- open transactions, keys, write
theorem pi_8 (c : Int32) : (c < 0) ∨ (¬ c < 0 ∧ (8 : Int32) ≤ c ∧ ¬ c ≤ (7 : Int32)) ∨ ∃ j : Nat, j < 8 ∧ c = nI j ∧ ¬ c < 0 ∧ ¬ (8 : Int32) ≤ c ∧ c ≤ (7 : Int32) := by
  have t8 : (8 : Int32).toInt = 8 := by decide
  have t7 : (7 : Int32).toInt = 7 := by decide
  by_cases h : c < 0
  · exact Or.inl h
  · by_cases h3 : (8 : Int32) ≤ c
    · refine Or.inr (Or.inl ⟨h, h3, ?_⟩)
      rw [Int32.le_iff_toInt_le] at h3 ⊢; omega
    · refine Or.inr (Or.inr ?_)
      obtain ⟨j, hj, rfl⟩ := nI_of h
      have e := nI_toInt hj
      rw [Int32.le_iff_toInt_le, e, t8] at h3
      refine ⟨j, by omega, rfl, h, ?_, ?_⟩
      · rw [Int32.le_iff_toInt_le, e, t8]; omega
      · rw [Int32.le_iff_toInt_le, e, t7]; omega
theorem is_open {K : xk} {M : xm} {B : Nat} (hO : iO K B) (hU : iU K M B) (c : Int32) : (kf_ES_isOpen_0 K B c = some (0, K) ∧ kf_EM_isOpen_0 M c = some (0, M)) ∨ ∃ j, j < 3 ∧ c = nI j ∧ M 40 j = 2 ∧ kf_ES_isOpen_0 K B c = some (1, K) ∧ kf_EM_isOpen_0 M c = some (1, M) := by
  unfold kf_ES_isOpen_0 kf_EM_isOpen_0 kf_ES_isClient_0 kf_EM_isClient_0
  rcases pi_3 c with h | ⟨h1, h2, h3, h4⟩ | ⟨j, hj, rfl, h1, h2, h3, h4⟩
  · exact Or.inl ⟨by simp [h, xp_some], by simp [h, xp_some]⟩
  · exact Or.inl ⟨by simp [h1, h2, xp_some], by simp [h1, h3, xp_some]⟩
  · obtain ⟨c1, c2, c3⟩ := hU
    obtain ⟨e1, e2, e3, e4, e5, e6, -⟩ := c3 j hj
    have h10 : ¬ (1 : Int32) = 0 := by decide
    rw [if_neg h1, if_neg h2, if_neg h1, if_neg h3, xp_some, xp_some, if_neg h10, if_neg h10, xR_ok hO.1, hO.2.2.2.2.1, xb_some, xb_some, xRa_ok c1 c2 hj (by decide), e1, xb_some, xb_some, xI_ok e2, xb_some, e6, xMi_ok hj (by decide), xb_some]
    by_cases hz : M 40 j = 2
    · exact Or.inr ⟨j, hj, rfl, hz, by rw [if_pos hz], by rw [if_pos hz]⟩
    · exact Or.inl ⟨by rw [if_neg hz], by rw [if_neg hz]⟩
/-- a client's own writes: which keys, and where their values lie -/
def iW (K : xk) (M : xm) (B : Nat) : Prop := ∀ i, i < 3 → ∃ w v, xk_rv K 11 8 (50 + 3 * i + B) = some w ∧ xk_kd K w = 2 + 1 ∧ xk_iv K 2 0 w = M 44 i ∧ xk_rv K 2 1 w = some v ∧ xk_kd K v = 100 + 0 ∧ xk_ln K v = 8
theorem pu_write {K : xk} {M : xm} {B : Nat} (hO : iO K B) (hU : iU K M B) (hW : iW K M B) (c k x : Int32) :
    ∃ (r : Int32) (K' : xk) (M' : xm), kf_ES_write_0 K B c k x = some (r, K') ∧ kf_EM_write_0 M c k x = some (r, M') ∧ ((K' = K ∧ M' = M) ∨ ∃ j q w v, j < 3 ∧ q < 8 ∧ M 40 j = 2 ∧ xk_rv K 11 8 (50 + 3 * j + B) = some w ∧ xk_rv K 2 1 w = some v ∧
      K' = xk_tI (xk_sI K 2 0 w (M 44 j ||| ((1 : Int32) <<< (nI q &&& 31)))) v q x ∧ M' = xm_s (xm_s M 44 j (M 44 j ||| ((1 : Int32) <<< (nI q &&& 31)))) 45 (8 * j + q) x) := by
  unfold kf_ES_write_0 kf_EM_write_0
  have h10 : ¬ (1 : Int32) = 0 := by decide
  rw [xO_ok hO.1, xb_some]
  rcases is_open hO hU c with ⟨h1, h2⟩ | ⟨j, hj, rfl, hz, h1, h2⟩
  · rw [h1, h2, xp_some, xp_some, if_pos rfl, if_pos rfl]
    exact ⟨0, K, M, rfl, rfl, Or.inl ⟨rfl, rfl⟩⟩
  · rw [h1, h2, xp_some, xp_some, if_neg h10, if_neg h10]
    unfold kf_ES_isKey_0
    rcases pi_8 k with h | ⟨k1, k2, k3⟩ | ⟨q, hq, rfl, k1, k2, k3⟩
    · rw [if_pos h, if_pos h, xp_some, if_pos rfl]
      exact ⟨0, K, M, rfl, rfl, Or.inl ⟨rfl, rfl⟩⟩
    · rw [if_neg k1, if_pos k2, if_neg k1, if_neg k3, xp_some, if_pos rfl]
      exact ⟨0, K, M, rfl, rfl, Or.inl ⟨rfl, rfl⟩⟩
    · obtain ⟨c1, c2, c3⟩ := hU
      obtain ⟨e1, e2, -⟩ := c3 j hj
      obtain ⟨w, v, w1, w2, w3, w4, w5, w6⟩ := hW j hj
      rw [if_neg k1, if_neg k2, if_neg k1, if_pos k3, xp_some, if_neg h10, xR_ok hO.1, hO.2.2.2.2.1, xb_some, xb_some, xRa_ok c1 c2 hj (by decide), e1, xb_some, xb_some, xR_ok e2, w1, xb_some, xb_some, xO_ok w2, xb_some]
      unfold kf_Writes_put_0 kf_EM_write_48
      have e4 : xR (xk_sI K 2 0 w (M 44 j ||| ((1 : Int32) <<< (nI q &&& 31)))) 2 1 w = some (some v) := by rw [xR_ok (by exact w2)]; exact congrArg some w4
      have e5 : xIt (xk_sI K 2 0 w (M 44 j ||| ((1 : Int32) <<< (nI q &&& 31)))) 0 v (nI q) x = some (xk_tI (xk_sI K 2 0 w (M 44 j ||| ((1 : Int32) <<< (nI q &&& 31)))) v q x) := xIt_ok (n := 8) (by exact w5) (by exact w6) hq (by decide)
      rw [xI_ok w2, xb_some, w3, xIs_ok w2, xb_some, e4, xb_some, xb_some, e5, xb_some, xb_some, xMi_ok hj (by decide), xb_some, xMt_ok hj (by decide), xb_some, ix_8, xMt_ok (by show 8 * j + q < 24; omega) (by decide), xb_some]
      exact ⟨1, _, _, rfl, rfl, Or.inr ⟨j, q, w, v, hj, hq, hz, w1, w4, rfl, rfl⟩⟩
