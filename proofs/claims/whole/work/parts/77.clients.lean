-- clients: busy, give up
theorem bz_1 (s : Int32) : (s = 1 ∨ s = 2 ∨ s = 3) ↔ (¬ s < 1 ∧ s ≤ 3) := by
  have t1 : (1 : Int32).toInt = 1 := by decide
  have t2 : (2 : Int32).toInt = 2 := by decide
  have t3 : (3 : Int32).toInt = 3 := by decide
  rw [Int32.lt_iff_toInt_lt, Int32.le_iff_toInt_le, ← Int32.toInt_inj, ← Int32.toInt_inj, ← Int32.toInt_inj, t1, t2, t3]
  omega
theorem bz_cl {K : xk} {a : Nat} (h : xk_kd K a = 11 + 1) : kf_Client_isBusy_0 K a = some (if xk_iv K 11 3 a = 1 ∨ xk_iv K 11 3 a = 2 ∨ xk_iv K 11 3 a = 3 then 1 else 0, K) := by
  unfold kf_Client_isBusy_0
  simp only [xI_ok h, xb_some]
  by_cases h1 : xk_iv K 11 3 a = 1
  · rw [if_pos h1, if_pos (Or.inl h1)]
  · rw [if_neg h1]
    by_cases h2 : xk_iv K 11 3 a = 2
    · rw [if_pos h2, if_pos (Or.inr (Or.inl h2))]
    · rw [if_neg h2]
      by_cases h3 : xk_iv K 11 3 a = 3
      · rw [if_pos h3, if_pos (Or.inr (Or.inr h3))]
      · rw [if_neg h3, if_neg (fun q => q.elim h1 (fun q => q.elim h2 h3))]
theorem pu_giveUp {K : xk} {M : xm} {B : Nat} (hO : iO K B) (hU : iU K M B) (c : Int32) :
    ∃ (r : Int32) (K' : xk) (M' : xm), kf_ES_giveUp_0 K B c = some (r, K') ∧ kf_EM_giveUp_0 M c = some (r, M') ∧ ((K' = K ∧ M' = M) ∨ ∃ (j : Nat) (v : Int32), j < 3 ∧ (M 40 j = 1 ∨ M 40 j = 2 ∨ M 40 j = 3) ∧ v = (if M 40 j = 3 then 7 else 8) ∧ K' = xk_sI K 11 3 (50 + 3 * j + B) v ∧ M' = xm_s M 40 j v) := by
  unfold kf_ES_giveUp_0 kf_EM_giveUp_0 kf_ES_isClient_0 kf_EM_isClient_0
  rcases pi_3 c with h | ⟨h1, h2, h3, h4⟩ | ⟨j, hj, rfl, h1, h2, h3, h4⟩
  · exact ⟨0, K, M, by simp [h, xp_some], by simp [h, xp_some], Or.inl ⟨rfl, rfl⟩⟩
  · exact ⟨0, K, M, by simp [h1, h2, xp_some], by simp [h1, h3, xp_some], Or.inl ⟨rfl, rfl⟩⟩
  · obtain ⟨c1, c2, c3⟩ := hU
    obtain ⟨e1, e2, e3, e4, e5, e6, -⟩ := c3 j hj
    have hm : xMi M 40 (nI j) = some (M 40 j) := xMi_ok hj (by decide)
    have hx : xRa K 5 (4 + B) (nI j) = some (some (50 + 3 * j + B)) := by rw [xRa_ok c1 c2 hj (by decide), e1]
    rw [if_neg h1, if_neg h2, if_neg h1, if_neg h3, xp_some, xp_some, if_neg (by decide), if_neg (by decide), xR_ok hO.1, hO.2.2.2.2.1, xb_some, xb_some, hx, xb_some, xb_some, xO_ok e2, xb_some, bz_cl e2, xp_some, e6, hm, xb_some]
    by_cases hb : M 40 j = 1 ∨ M 40 j = 2 ∨ M 40 j = 3
    · obtain ⟨b1, b2⟩ := (bz_1 _).mp hb
      rw [if_pos hb, if_neg (by decide), xR_ok hO.1, hO.2.2.2.2.1, xb_some, xb_some, hx, xb_some, xb_some, xO_ok e2, xb_some, if_neg b1, xb_some, if_pos b2, xb_some]
      unfold kf_Client_drop_0 kf_EM_giveUp_52
      rw [xI_ok e2, xb_some, e6]
      by_cases h7 : M 40 j = 3
      · rw [if_pos h7, if_pos h7, xIs_ok e2, xb_some, xb_some, xMt_ok hj (by decide), xb_some]
        exact ⟨1, _, _, rfl, rfl, Or.inr ⟨j, 7, hj, hb, by rw [if_pos h7], rfl, rfl⟩⟩
      · rw [if_neg h7, if_neg h7, xIs_ok e2, xb_some, xb_some, xMt_ok hj (by decide), xb_some]
        exact ⟨1, _, _, rfl, rfl, Or.inr ⟨j, 8, hj, hb, by rw [if_neg h7], rfl, rfl⟩⟩
    · rw [if_neg hb, if_pos rfl]
      have hb2 : ¬ (¬ M 40 j < 1 ∧ M 40 j ≤ 3) := fun q => hb ((bz_1 _).mpr q)
      by_cases b1 : M 40 j < 1
      · rw [if_pos b1]
        exact ⟨0, K, M, rfl, rfl, Or.inl ⟨rfl, rfl⟩⟩
      · rw [if_neg b1, xb_some, if_neg (fun q => hb2 ⟨b1, q⟩)]
        exact ⟨0, K, M, rfl, rfl, Or.inl ⟨rfl, rfl⟩⟩
