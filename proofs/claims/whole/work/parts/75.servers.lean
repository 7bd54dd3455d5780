-- stop and start of coordinators, logs, storages
theorem xm_same {M : xm} {k i : Nat} {v : Int32} (h : M k i = v) : xm_s M k i v = M := by
  funext c j
  unfold xm_s
  by_cases q : c = k ∧ j = i
  · rw [if_pos q, q.1, q.2, h]
  · rw [if_neg q]
theorem xZ_ok {v : Int32} (h : v = 0 ∨ v = 1) : xZ v = some v := if_pos h
theorem rl_out {x : Int32} (h0 : ¬ x = 0) (h1 : ¬ x = 1) (h2 : ¬ x = 2) : x < 0 ∨ (2 : Int32) < x := by
  have t0 : (0 : Int32).toInt = 0 := by decide
  have t2 : (2 : Int32).toInt = 2 := by decide
  have n0 := lv_neT h0 (a := 0) (by decide)
  have n1 := lv_neT h1 (a := 1) (by decide)
  have n2 := lv_neT h2 (a := 2) (by decide)
  rw [Int32.lt_iff_toInt_lt, Int32.lt_iff_toInt_lt, t0, t2]
  omega
theorem tu_out {M : xm} {x i u : Int32} (h : x < 0 ∨ (2 : Int32) < x) : kf_EM_turned_0 M x i u = some (0, M) := by
  unfold kf_EM_turned_0
  by_cases a : i < 0
  · rw [if_pos a]
  · rw [if_neg a]
    by_cases b : (2 : Int32) < i
    · rw [if_pos b]
    · rw [if_neg b]
      rcases h with h | h
      · rw [if_pos h]
      · by_cases c : x < 0
        · rw [if_pos c]
        · rw [if_neg c, if_pos h]
theorem tu_far {M : xm} {x i u : Int32} (h : i < 0 ∨ (2 : Int32) < i) : kf_EM_turned_0 M x i u = some (0, M) := by
  unfold kf_EM_turned_0
  by_cases a : i < 0
  · rw [if_pos a]
  · rw [if_neg a, if_pos (h.resolve_left a)]
theorem tu_101 {M : xm} {u s : Int32} : kf_EM_turned_101 M u s = some (if s = u then 0 else 1, M) := by
  unfold kf_EM_turned_101
  by_cases h : s = u
  · rw [if_pos h, if_pos h]
  · rw [if_neg h, if_neg h]
theorem tu_0 {M : xm} {j : Nat} {u : Int32} (hj : j < 3) (hu : u = 0 ∨ u = 1) (h1 : ¬ nI j < 0) (h2 : ¬ (2 : Int32) < nI j) : kf_EM_turned_0 M 0 (nI j) u = some (if M 1 j = u then 0 else 1, xm_s M 1 j u) := by
  unfold kf_EM_turned_0 kf_EM_turned_30 kf_EM_turned_63
  rw [if_neg h1, if_neg h2, if_neg (by decide), if_neg (by decide), if_neg (by decide), if_pos rfl, xMi_ok hj (by decide), xb_some, if_pos rfl, xMz_ok hj (by decide) hu, xb_some, tu_101]
theorem tu_1 {M : xm} {j : Nat} {u : Int32} (hj : j < 3) (hu : u = 0 ∨ u = 1) (h1 : ¬ nI j < 0) (h2 : ¬ (2 : Int32) < nI j) : kf_EM_turned_0 M 1 (nI j) u = some (if M 3 j = u then 0 else 1, xm_s M 3 j u) := by
  unfold kf_EM_turned_0 kf_EM_turned_30 kf_EM_turned_63
  rw [if_neg h1, if_neg h2, if_neg (by decide), if_neg (by decide), if_neg (by decide), if_neg (by decide), if_pos rfl, xMi_ok hj (by decide), xb_some, if_neg (by decide), if_pos rfl, xMz_ok hj (by decide) hu, xb_some, tu_101]
theorem tu_2 {M : xm} {j : Nat} {u : Int32} (hj : j < 2) (hu : u = 0 ∨ u = 1) (h1 : ¬ nI j < 0) (h2 : ¬ (2 : Int32) < nI j) : kf_EM_turned_0 M 2 (nI j) u = some (if M 11 j = u then 0 else 1, xm_s M 11 j u) := by
  have hne : ¬ nI j = (2 : Int32) := fun e => by
    have := (nI_eq (a := j) (b := 2) (by omega) (by decide)).mp e
    omega
  unfold kf_EM_turned_0 kf_EM_turned_30 kf_EM_turned_63
  rw [if_neg h1, if_neg h2, if_neg (by decide), if_neg (by decide), if_pos rfl, if_neg hne, if_neg (by decide), if_neg (by decide), xMi_ok hj (by decide), xb_some, if_neg (by decide), if_neg (by decide), xMz_ok hj (by decide) hu, xb_some, tu_101]
theorem tu_22 {M : xm} {u : Int32} : kf_EM_turned_0 M 2 2 u = some (0, M) := by
  unfold kf_EM_turned_0
  rw [if_neg (by decide), if_neg (by decide), if_neg (by decide), if_neg (by decide), if_pos rfl, if_pos rfl]
/-- a server of the three kinds that come up again: class and reference see the same number, and set it alike -/
theorem sv_up {K : xk} {M : xm} {B : Nat} (hO : iO K B) (hC : iC K M B) (hL : iL K M B) (hT : iT K M B) (hb : ∀ i, i < 3 → (M 1 i = 0 ∨ M 1 i = 1) ∧ (M 3 i = 0 ∨ M 3 i = 1) ∧ (M 11 i = 0 ∨ M 11 i = 1)) (x i : Int32) :
    (kf_ES_isServer_0 K x i = some (0, K) ∧ ∀ u, kf_EM_turned_0 M x i u = some (0, M)) ∨
    ∃ (f j ci k a : Nat), (f = 1 ∧ j < 3 ∧ ci = 1 ∧ k = 0 ∧ a = 34 + j + B ∨ f = 3 ∧ j < 3 ∧ ci = 9 ∧ k = 1 ∧ a = 37 + 3 * j + B ∨ f = 11 ∧ j < 2 ∧ ci = 10 ∧ k = 1 ∧ a = 46 + 2 * j + B) ∧ kf_ES_isServer_0 K x i = some (1, K) ∧ kf_ES_isUp_0 K B x i = some (M f j, K) ∧ (M f j = 0 ∨ M f j = 1) ∧
      ∀ u, (u = 0 ∨ u = 1) → kf_ES_setUp_0 K B x i u = some (xk_sI K ci k a u) ∧ kf_EM_turned_0 M x i u = some (if M f j = u then 0 else 1, xm_s M f j u) := by
  by_cases x0 : x = 0
  · subst x0
    unfold kf_ES_isServer_0 kf_ES_isCoordinator_0
    rcases pi_3 i with h | ⟨h1, h2, h3, h4⟩ | ⟨j, hj, rfl, h1, h2, h3, h4⟩
    · exact Or.inl ⟨by rw [if_pos rfl, if_pos h]; rfl, fun u => tu_far (Or.inl h)⟩
    · exact Or.inl ⟨by rw [if_pos rfl, if_neg h1, if_pos h2]; rfl, fun u => tu_far (Or.inr h3)⟩
    · obtain ⟨c1, c2, c3⟩ := hC
      obtain ⟨e1, e2, e3, e4⟩ := c3 j hj
      refine Or.inr ⟨1, j, 1, 0, 34 + j + B, Or.inl ⟨rfl, hj, rfl, rfl, rfl⟩, by rw [if_pos rfl, if_neg h1, if_neg h2]; rfl, ?_, (hb j hj).1, fun u hu => ⟨?_, tu_0 hj hu h1 h3⟩⟩
      · unfold kf_ES_isUp_0
        rw [if_pos rfl, xR_ok hO.1, hO.2.1, xb_some, xb_some, xRa_ok c1 c2 hj (by decide), e1, xb_some, xb_some, xI_ok e2, xb_some, e3, xZ_ok (hb j hj).1, xb_some]
      · unfold kf_ES_setUp_0
        rw [if_pos rfl, xR_ok hO.1, hO.2.1, xb_some, xb_some, xRa_ok c1 c2 hj (by decide), e1, xb_some, xb_some, xZs_ok e2 hu, xb_some]
  · by_cases x1 : x = 1
    · subst x1
      unfold kf_ES_isServer_0 kf_ES_isLog_0
      rcases pi_3 i with h | ⟨h1, h2, h3, h4⟩ | ⟨j, hj, rfl, h1, h2, h3, h4⟩
      · exact Or.inl ⟨by rw [if_neg x0, if_pos rfl, if_pos h]; rfl, fun u => tu_far (Or.inl h)⟩
      · exact Or.inl ⟨by rw [if_neg x0, if_pos rfl, if_neg h1, if_pos h2]; rfl, fun u => tu_far (Or.inr h3)⟩
      · obtain ⟨c1, c2, c3⟩ := hL
        obtain ⟨e1, e2, e3, e4, -⟩ := c3 j hj
        refine Or.inr ⟨3, j, 9, 1, 37 + 3 * j + B, Or.inr (Or.inl ⟨rfl, hj, rfl, rfl, rfl⟩), by rw [if_neg x0, if_pos rfl, if_neg h1, if_neg h2]; rfl, ?_, (hb j hj).2.1, fun u hu => ⟨?_, tu_1 hj hu h1 h3⟩⟩
        · unfold kf_ES_isUp_0
          rw [if_neg x0, if_pos rfl, xR_ok hO.1, hO.2.2.1, xb_some, xb_some, xRa_ok c1 c2 hj (by decide), e1, xb_some, xb_some, xI_ok e2, xb_some, e4, xZ_ok (hb j hj).2.1, xb_some]
        · unfold kf_ES_setUp_0
          rw [if_neg x0, if_pos rfl, xR_ok hO.1, hO.2.2.1, xb_some, xb_some, xRa_ok c1 c2 hj (by decide), e1, xb_some, xb_some, xZs_ok e2 hu, xb_some]
    · by_cases x2 : x = 2
      · subst x2
        unfold kf_ES_isServer_0 kf_ES_isStorage_0
        rcases pi_2 i with h | ⟨h1, h2, h3, h4⟩ | ⟨j, hj, rfl, h1, h2, h3, h4⟩
        · exact Or.inl ⟨by rw [if_neg x0, if_neg x1, if_pos rfl, if_pos h]; rfl, fun u => tu_far (Or.inl h)⟩
        · refine Or.inl ⟨by rw [if_neg x0, if_neg x1, if_pos rfl, if_neg h1, if_pos h2]; rfl, fun u => ?_⟩
          by_cases e : i = 2
          · subst e; exact tu_22
          · refine tu_far (Or.inr ?_)
            have t2 : (2 : Int32).toInt = 2 := by decide
            have := lv_neT e (a := 2) (by decide)
            rw [Int32.le_iff_toInt_le, t2] at h2
            rw [Int32.lt_iff_toInt_lt, t2]
            omega
        · obtain ⟨c1, c2, c3⟩ := hT
          obtain ⟨e1, e2, e3, -⟩ := c3 j hj
          have h5 : ¬ (2 : Int32) < nI j := nI_nlt (a := 2) (b := j) (by omega) (by decide)
          refine Or.inr ⟨11, j, 10, 1, 46 + 2 * j + B, Or.inr (Or.inr ⟨rfl, hj, rfl, rfl, rfl⟩), by rw [if_neg x0, if_neg x1, if_pos rfl, if_neg h1, if_neg h2]; rfl, ?_, (hb j (by omega)).2.2, fun u hu => ⟨?_, tu_2 hj hu h1 h5⟩⟩
          · unfold kf_ES_isUp_0
            rw [if_neg x0, if_neg x1, xR_ok hO.1, hO.2.2.2.1, xb_some, xb_some, xRa_ok c1 c2 hj (by decide), e1, xb_some, xb_some, xI_ok e2, xb_some, e3, xZ_ok (hb j (by omega)).2.2, xb_some]
          · unfold kf_ES_setUp_0
            rw [if_neg x0, if_neg x1, xR_ok hO.1, hO.2.2.2.1, xb_some, xb_some, xRa_ok c1 c2 hj (by decide), e1, xb_some, xb_some, xZs_ok e2 hu, xb_some]
      · refine Or.inl ⟨?_, fun u => tu_out (rl_out x0 x1 x2)⟩
        unfold kf_ES_isServer_0
        rw [if_neg x0, if_neg x1, if_neg x2]
