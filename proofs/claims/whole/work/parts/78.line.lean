-- the line, as it is shown
def iG (K : xk) (M : xm) (B : Nat) : Prop := xk_kd K (6 + B) = 5 + 1 ∧ xk_rv K 5 0 (6 + B) = some (7 + B) ∧ xk_kd K (7 + B) = 100 + 7 ∧ xk_ln K (7 + B) = 25 ∧ ∃ cnt : Nat, cnt ≤ 24 ∧ xk_iv K 5 2 (6 + B) = nI cnt ∧ M xm_l 0 = nI cnt ∧
  ∀ k, k < cnt → ∃ a, xk_ar K (7 + B) k = some a ∧ xk_kd K a = 4 + 1 ∧ xk_iv K 4 0 a = M 48 k ∧ xk_iv K 4 1 a = M 49 k ∧ xk_iv K 4 2 a = M 50 k ∧ xk_iv K 4 3 a = M 51 k ∧ (M 48 k = 1 ∨ M 48 k = 2 ∨ M 48 k = 3 → M 51 k = 0) ∧ ∃ t : Nat, 1 ≤ t ∧ t ≤ 8 ∧ M 48 k = nI t
theorem pu_messages {K : xk} {M : xm} {B : Nat} (hO : iO K B) (hG : iG K M B) : ∃ r : Int32, kf_ES_messages_0 K B = some (r, K) ∧ kf_EM_messages_0 M = some (r, M) := by
  obtain ⟨g1, g2, g3, g4, cnt, hc, e1, e2, -⟩ := hG
  unfold kf_ES_messages_0 kf_EM_messages_0
  rw [xR_ok hO.1, hO.2.2.2.2.2.2, xb_some, xb_some, xI_ok g1, xb_some, e1, e2]
  exact ⟨_, rfl, rfl⟩
theorem ix_ln {cnt : Nat} (h : cnt ≤ 24) (x : Int32) : x < 0 ∨ (¬ x < 0 ∧ nI cnt ≤ x ∧ ¬ x < nI cnt) ∨ ∃ k : Nat, k < cnt ∧ x = nI k ∧ ¬ x < 0 ∧ ¬ nI cnt ≤ x ∧ x < nI cnt := by
  have e := nI_toInt (n := cnt) (by omega)
  have t0 : (0 : Int32).toInt = 0 := by decide
  by_cases h0 : x < 0
  · exact Or.inl h0
  · by_cases h1 : nI cnt ≤ x
    · refine Or.inr (Or.inl ⟨h0, h1, ?_⟩)
      rw [Int32.le_iff_toInt_le] at h1; rw [Int32.lt_iff_toInt_lt]; omega
    · refine Or.inr (Or.inr ?_)
      obtain ⟨j, hj, rfl⟩ := nI_of h0
      have e2 := nI_toInt hj
      rw [Int32.le_iff_toInt_le, e, e2] at h1
      refine ⟨j, by omega, rfl, h0, ?_, ?_⟩
      · rw [Int32.le_iff_toInt_le, e, e2]; omega
      · rw [Int32.lt_iff_toInt_lt, e, e2]; omega
theorem pu_message {K : xk} {M : xm} {B : Nat} (hO : iO K B) (hG : iG K M B) (c : Int32) : ∃ r : Int32, kf_ES_message_0 K B c = some (r, K) ∧ kf_EM_message_0 M c = some (r, M) := by
  obtain ⟨g1, g2, g3, g4, cnt, hc, e1, e2, e3⟩ := hG
  unfold kf_ES_message_0 kf_EM_message_0 kf_Line_has_0
  rw [xR_ok hO.1, hO.2.2.2.2.2.2, xb_some, xb_some, xO_ok g1, xb_some, xI_ok g1, xb_some, e1, e2]
  rcases ix_ln hc c with h | ⟨h1, h2, h3⟩ | ⟨k, hk, rfl, h1, h2, h3⟩
  · rw [if_pos h, if_pos h, xp_some, if_pos rfl]
    exact ⟨-1, rfl, rfl⟩
  · rw [if_neg h1, if_pos h2, if_neg h1, if_neg h3, xp_some, if_pos rfl]
    exact ⟨-1, rfl, rfl⟩
  · obtain ⟨a, a1, a2, a3, a4, a5, a6, a7, t, t1, t8, ht⟩ := e3 k hk
    have k25 : k < 25 := by omega
    rw [if_neg h1, if_neg h2, if_neg h1, if_pos h3, xp_some, if_neg (by decide), xR_ok hO.1, hO.2.2.2.2.2.2, xb_some, xb_some, xR_ok g1, g2, xb_some, xb_some, xRa_ok g3 g4 k25 (by decide), a1, xb_some, xb_some, xO_ok a2, xb_some]
    unfold kf_Message_code_0 kf_EM_message_36
    have m48 : xMi M 48 (nI k) = some (M 48 k) := xMi_ok k25 (by decide)
    have m49 : xMi M 49 (nI k) = some (M 49 k) := xMi_ok k25 (by decide)
    have m50 : xMi M 50 (nI k) = some (M 50 k) := xMi_ok k25 (by decide)
    have m51 : xMi M 51 (nI k) = some (M 51 k) := xMi_ok k25 (by decide)
    simp only [xI_ok a2, xb_some, xp_some, a3, a4, a5, a6, m48, m49, m50, m51]
    rw [if_neg (show ¬ (1 : Int32) = 0 by decide)]
    by_cases s4 : M 48 k = 4
    · rw [if_pos s4]
      exact ⟨_, rfl, rfl⟩
    · rw [if_neg s4]
      by_cases s5 : M 48 k < 5
      · have hv : M 51 k = 0 := by
          refine a7 ?_
          rw [ht] at s4 s5 ⊢
          have l5 := (nI_ltI (a := t) (b := 5) (by omega) (by decide)).mp s5
          have n4 : t ≠ 4 := fun q => s4 (by rw [q]; rfl)
          rcases (show t = 1 ∨ t = 2 ∨ t = 3 by omega) with rfl | rfl | rfl
          · exact Or.inl rfl
          · exact Or.inr (Or.inl rfl)
          · exact Or.inr (Or.inr rfl)
        rw [if_pos s5, hv, show (65536 : Int32) * 0 = 0 by decide]
        exact ⟨_, rfl, rfl⟩
      · rw [if_neg s5]
        exact ⟨_, rfl, rfl⟩
