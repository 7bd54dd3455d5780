abbrev sv_of (B f j ci k a : Nat) : Prop := f = 1 ∧ j < 3 ∧ ci = 1 ∧ k = 0 ∧ a = 34 + j + B ∨ f = 3 ∧ j < 3 ∧ ci = 9 ∧ k = 1 ∧ a = 37 + 3 * j + B ∨ f = 11 ∧ j < 2 ∧ ci = 10 ∧ k = 1 ∧ a = 46 + 2 * j + B
theorem pu_start {K : xk} {M : xm} {B : Nat} (hO : iO K B) (hC : iC K M B) (hL : iL K M B) (hT : iT K M B) (hb : ∀ i, i < 3 → (M 1 i = 0 ∨ M 1 i = 1) ∧ (M 3 i = 0 ∨ M 3 i = 1) ∧ (M 11 i = 0 ∨ M 11 i = 1)) (x i : Int32) :
    ∃ (r : Int32) (K' : xk) (M' : xm), kf_ES_start_0 K B x i = some (r, K') ∧ kf_EM_start_0 M x i = some (r, M') ∧ ((K' = K ∧ M' = M) ∨ ∃ f j ci k a, sv_of B f j ci k a ∧ K' = xk_sI K ci k a 1 ∧ M' = xm_s M f j 1) := by
  unfold kf_ES_start_0 kf_EM_start_0
  rcases sv_up hO hC hL hT hb x i with ⟨h1, h2⟩ | ⟨f, j, ci, k, a, hd, h1, h2, hz, h3⟩
  · rw [h1, xp_some, if_pos rfl, h2, xp_some, xZ_ok (Or.inl rfl), xb_some]
    exact ⟨0, K, M, rfl, rfl, Or.inl ⟨rfl, rfl⟩⟩
  · obtain ⟨s1, s2⟩ := h3 1 (Or.inr rfl)
    rw [h1, xp_some, if_neg (by decide), xO_ok hO.1, xb_some, h2, xp_some, s2, xp_some]
    rcases hz with z | z
    · rw [z, if_pos rfl, xO_ok hO.1, xb_some, s1, xb_some, if_neg (by decide), xZ_ok (Or.inr rfl), xb_some]
      exact ⟨1, _, _, rfl, rfl, Or.inr ⟨f, j, ci, k, a, hd, rfl, rfl⟩⟩
    · rw [z, if_neg (by decide), if_pos rfl, xZ_ok (Or.inl rfl), xb_some, xm_same z]
      exact ⟨0, K, M, rfl, rfl, Or.inl ⟨rfl, rfl⟩⟩
-- masters
theorem pi_9 (c : Int32) : (c < 1) ∨ (¬ c < 1 ∧ (9 : Int32) < c) ∨ ∃ j : Nat, 1 ≤ j ∧ j ≤ 9 ∧ c = nI j ∧ ¬ c < 1 ∧ ¬ (9 : Int32) < c := by
  have t1 : (1 : Int32).toInt = 1 := by decide
  have t9 : (9 : Int32).toInt = 9 := by decide
  have t0 : (0 : Int32).toInt = 0 := by decide
  by_cases h : c < 1
  · exact Or.inl h
  · by_cases h9 : (9 : Int32) < c
    · exact Or.inr (Or.inl ⟨h, h9⟩)
    · refine Or.inr (Or.inr ?_)
      have h0 : ¬ c < 0 := by rw [Int32.lt_iff_toInt_lt, t0]; rw [Int32.lt_iff_toInt_lt, t1] at h; omega
      obtain ⟨j, hj, rfl⟩ := nI_of h0
      have e := nI_toInt hj
      refine ⟨j, ?_, ?_, rfl, h, h9⟩
      · rw [Int32.lt_iff_toInt_lt, e, t1] at h; omega
      · rw [Int32.lt_iff_toInt_lt, e, t9] at h9; omega
/-- the masters' places: there on both sides, or on neither; the numbers that are shown -/
def iN (K : xk) (M : xm) (B : Nat) : Prop := xk_kd K (5 + B) = 100 + 6 ∧ xk_ln K (5 + B) = 10 ∧ ∀ e, 1 ≤ e → e ≤ 9 → (M 17 e = 0 ∧ xk_ar K (5 + B) e = none) ∨ (M 17 e = 1 ∧ ∃ ma, xk_ar K (5 + B) e = some ma ∧ xk_kd K ma = 8 + 1 ∧ xk_iv K 8 8 ma = M 25 e ∧ xk_iv K 8 11 ma = M 30 e ∧ xk_iv K 8 3 ma = M 20 e ∧ xk_iv K 8 5 ma = M 22 e)
theorem is_master {K : xk} {M : xm} {B : Nat} (hO : iO K B) (hN : iN K M B) (c : Int32) : (kf_ES_isMaster_0 K B c = some (0, K) ∧ kf_EM_isMaster_0 M c = some (0, M)) ∨ ∃ (e ma : Nat), 1 ≤ e ∧ e ≤ 9 ∧ c = nI e ∧ kf_ES_isMaster_0 K B c = some (1, K) ∧ kf_EM_isMaster_0 M c = some (1, M) ∧ xRa K 6 (5 + B) c = some (some ma) ∧ xk_ar K (5 + B) e = some ma ∧ xk_kd K ma = 8 + 1 ∧ M 17 e = 1 := by
  unfold kf_ES_isMaster_0 kf_EM_isMaster_0
  rcases pi_9 c with h | ⟨h1, h2⟩ | ⟨e, he1, he9, rfl, h1, h2⟩
  · exact Or.inl ⟨by rw [if_pos h], by rw [if_pos h]⟩
  · exact Or.inl ⟨by rw [if_neg h1, if_pos h2], by rw [if_neg h1, if_pos h2]⟩
  · obtain ⟨c1, c2, c3⟩ := hN
    have hx : xRa K 6 (5 + B) (nI e) = some (xk_ar K (5 + B) e) := xRa_ok c1 c2 (by omega) (by decide)
    have hm : xMi M 17 (nI e) = some (M 17 e) := xMi_ok (by show e < 10; omega) (by decide)
    rw [if_neg h1, if_neg h2, if_neg h1, if_neg h2, xR_ok hO.1, hO.2.2.2.2.2.1, xb_some, xb_some, hx, xb_some, hm, xb_some]
    rcases c3 e he1 he9 with ⟨z, n⟩ | ⟨z, ma, n, k, -⟩
    · exact Or.inl ⟨by rw [n, if_pos rfl], by rw [if_pos z]⟩
    · refine Or.inr ⟨e, ma, he1, he9, rfl, by rw [n, if_neg (fun q => by cases q)], by rw [z, if_neg (by decide)], by rw [n], n, k, z⟩
theorem pu_master {K : xk} {M : xm} {B : Nat} (hO : iO K B) (hN : iN K M B) (c : Int32) : ∃ r : Int32, kf_ES_master_0 K B c = some (r, K) ∧ kf_EM_master_0 M c = some (r, M) := by
  unfold kf_ES_master_0 kf_EM_master_0
  rw [xO_ok hO.1, xb_some]
  rcases is_master hO hN c with ⟨h1, h2⟩ | ⟨e, ma, he1, he9, rfl, h1, h2, hx, hn, hk, hz⟩
  · rw [h1, h2, xp_some, xp_some, if_pos rfl, if_pos rfl]
    exact ⟨-1, rfl, rfl⟩
  · rcases hN.2.2 e he1 he9 with ⟨z, -⟩ | ⟨z, ma', n, k, e1, e2, e3, e4⟩
    · rw [hz] at z; exact absurd z (by decide)
    · cases hn.symm.trans n
      rw [h1, h2, xp_some, xp_some, if_neg (by decide), if_neg (by decide), xR_ok hO.1, hO.2.2.2.2.2.1, xb_some, xb_some, hx, xb_some, xb_some, xO_ok hk, xb_some]
      unfold kf_Master_code_0
      rw [xI_ok hk, xI_ok hk, xI_ok hk, xb_some, xb_some, xb_some, e1, e2, e3, xMi_ok (by show e < 10; omega) (by decide), xb_some, xMi_ok (by show e < 10; omega) (by decide), xb_some, xMi_ok (by show e < 10; omega) (by decide), xb_some, xp_some]
      exact ⟨_, rfl, rfl⟩
theorem pu_committed {K : xk} {M : xm} {B : Nat} (hO : iO K B) (hN : iN K M B) (c : Int32) : ∃ r : Int32, kf_ES_committed_0 K B c = some (r, K) ∧ kf_EM_committed_0 M c = some (r, M) := by
  unfold kf_ES_committed_0 kf_EM_committed_0
  rw [xO_ok hO.1, xb_some]
  rcases is_master hO hN c with ⟨h1, h2⟩ | ⟨e, ma, he1, he9, rfl, h1, h2, hx, hn, hk, hz⟩
  · rw [h1, h2, xp_some, xp_some, if_pos rfl, if_pos rfl]
    exact ⟨-1, rfl, rfl⟩
  · rcases hN.2.2 e he1 he9 with ⟨z, -⟩ | ⟨z, ma', n, k, e1, e2, e3, e4⟩
    · rw [hz] at z; exact absurd z (by decide)
    · cases hn.symm.trans n
      rw [h1, h2, xp_some, xp_some, if_neg (by decide), if_neg (by decide), xR_ok hO.1, hO.2.2.2.2.2.1, xb_some, xb_some, hx, xb_some, xb_some, xI_ok hk, xb_some, e4, xMi_ok (by show e < 10; omega) (by decide), xb_some]
      exact ⟨_, rfl, rfl⟩
theorem pu_stop {K : xk} {M : xm} {B : Nat} (hO : iO K B) (hC : iC K M B) (hL : iL K M B) (hT : iT K M B) (hN : iN K M B) (hb : ∀ i, i < 3 → (M 1 i = 0 ∨ M 1 i = 1) ∧ (M 3 i = 0 ∨ M 3 i = 1) ∧ (M 11 i = 0 ∨ M 11 i = 1)) (x i : Int32) :
    ∃ (r : Int32) (K' : xk) (M' : xm), kf_ES_stop_0 K B x i = some (r, K') ∧ kf_EM_stop_0 M x i = some (r, M') ∧ ((K' = K ∧ M' = M) ∨ (∃ f j ci k a, sv_of B f j ci k a ∧ K' = xk_sI K ci k a 0 ∧ M' = xm_s M f j 0) ∨ ∃ e, 1 ≤ e ∧ e ≤ 9 ∧ K' = xk_tR K (5 + B) e none ∧ M' = xm_s M 17 e 0) := by
  unfold kf_ES_stop_0 kf_EM_stop_0
  by_cases x3 : x = 3
  · rw [if_pos x3, if_pos x3, xO_ok hO.1, xb_some]
    unfold kf_ES_stopMaster_0
    rw [xO_ok hO.1, xb_some]
    rcases is_master hO hN i with ⟨h1, h2⟩ | ⟨e, ma, he1, he9, rfl, h1, h2, hx, hn, hk, hz⟩
    · rw [h1, h2, xp_some, xp_some, if_pos rfl, if_pos rfl, xp_some, xZ_ok (Or.inl rfl), xb_some, xb_some]
      exact ⟨0, K, M, rfl, rfl, Or.inl ⟨rfl, rfl⟩⟩
    · obtain ⟨c1, c2, -⟩ := hN
      rw [h1, h2, xp_some, xp_some, if_neg (by decide), if_neg (by decide), xR_ok hO.1, hO.2.2.2.2.2.1, xb_some, xb_some, xRt_ok c1 c2 (by omega) (by decide) rfl, xb_some, xp_some, xZ_ok (Or.inr rfl), xb_some, xMz_ok (by show e < 10; omega) (by decide) (Or.inl rfl), xb_some, xb_some]
      exact ⟨1, _, _, rfl, rfl, Or.inr (Or.inr ⟨e, he1, he9, rfl, rfl⟩)⟩
  · rw [if_neg x3, if_neg x3]
    rcases sv_up hO hC hL hT hb x i with ⟨h1, h2⟩ | ⟨f, j, ci, k, a, hd, h1, h2, hz, h3⟩
    · rw [h1, xp_some, if_pos rfl, h2, xp_some, xZ_ok (Or.inl rfl), xb_some]
      exact ⟨0, K, M, rfl, rfl, Or.inl ⟨rfl, rfl⟩⟩
    · obtain ⟨s1, s2⟩ := h3 0 (Or.inl rfl)
      rw [h1, xp_some, if_neg (by decide), xO_ok hO.1, xb_some, h2, xp_some, s2, xp_some]
      rcases hz with z | z
      · rw [z, if_pos rfl, if_pos rfl, xZ_ok (Or.inl rfl), xb_some, xm_same z]
        exact ⟨0, K, M, rfl, rfl, Or.inl ⟨rfl, rfl⟩⟩
      · rw [z, if_neg (show ¬ (1 : Int32) = 0 by decide), xO_ok hO.1, xb_some, s1, xb_some, if_neg (by decide), xZ_ok (Or.inr rfl), xb_some]
        exact ⟨1, _, _, rfl, rfl, Or.inr (Or.inl ⟨f, j, ci, k, a, hd, rfl, rfl⟩)⟩
