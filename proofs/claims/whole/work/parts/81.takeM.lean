-- the reference takes a message out of its line
theorem cp_get (M : xm) (p q c j : Nat) : cp_M M p q c j = if (48 ≤ c ∧ c ≤ 54) ∧ j = q then M c p else if c = 55 ∧ 8 * q ≤ j ∧ j < 8 * q + 8 then M 55 (8 * p + (j - 8 * q)) else M c j := by
  unfold cp_M cp_L
  by_cases h55 : c = 55
  · subst h55
    rw [if_neg (show ¬ ((48 ≤ 55 ∧ 55 ≤ 54) ∧ j = q) by omega)]
    rfl
  · rw [if_neg (fun h => h55 h.1)]
    by_cases hr : 48 ≤ c ∧ c ≤ 54
    · by_cases hj : j = q
      · rw [if_pos ⟨hr, hj⟩]
        rcases (show c = 48 ∨ c = 49 ∨ c = 50 ∨ c = 51 ∨ c = 52 ∨ c = 53 ∨ c = 54 by omega) with rfl | rfl | rfl | rfl | rfl | rfl | rfl <;> simp [cp_H, xm_s, hj]
      · rw [if_neg (fun h => hj h.2), if_neg (fun h => h55 h.1)]
        simp [cp_H, xm_s, hj]
    · rw [if_neg (fun h => hr h.1), if_neg (fun h => h55 h.1)]
      have n1 : c ≠ 48 ∧ c ≠ 49 ∧ c ≠ 50 ∧ c ≠ 51 ∧ c ≠ 52 ∧ c ≠ 53 ∧ c ≠ 54 := by omega
      simp [cp_H, xm_s, n1]
def sh_M (S : xm) (k i : Nat) : xm := fun c j => if (48 ≤ c ∧ c ≤ 54) ∧ k ≤ j ∧ j < i then S c (j + 1) else if c = 55 ∧ 8 * k ≤ j ∧ j < 8 * i then S 55 (j + 8) else S c j
theorem shm_0 (S : xm) (k : Nat) : sh_M S k k = S := by
  funext c j
  unfold sh_M
  rw [if_neg (fun h => by omega), if_neg (fun h => by omega)]
theorem shm_step (S : xm) {k i : Nat} (h : k ≤ i) : cp_M (sh_M S k i) (i + 1) i = sh_M S k (i + 1) := by
  funext c j
  rw [cp_get]
  unfold sh_M
  by_cases hr : 48 ≤ c ∧ c ≤ 54
  · by_cases hj : j = i
    · rw [if_pos ⟨hr, hj⟩, if_neg (fun q => by omega), if_neg (fun q => by omega), if_pos ⟨hr, by omega, by omega⟩, hj]
    · rw [if_neg (fun q => hj q.2), if_neg (fun q => by omega)]
      by_cases h2 : k ≤ j ∧ j < i
      · rw [if_pos ⟨hr, h2⟩, if_pos ⟨hr, h2.1, by omega⟩]
      · rw [if_neg (fun q => h2 q.2), if_neg (fun q => by omega), if_neg (fun q => h2 ⟨q.2.1, by omega⟩), if_neg (fun q => by omega)]
  · rw [if_neg (fun q => hr q.1)]
    by_cases h5 : c = 55
    · subst h5
      by_cases h6 : 8 * i ≤ j ∧ j < 8 * i + 8
      · rw [if_pos ⟨rfl, h6⟩, if_neg (fun q => by omega), if_neg (fun q => by omega), if_neg (fun q => by omega), if_pos ⟨rfl, by omega, by omega⟩]
        congr 1
        omega
      · rw [if_neg (fun q => h6 q.2), if_neg (fun q => hr q.1)]
        by_cases h7 : 8 * k ≤ j ∧ j < 8 * i
        · rw [if_pos ⟨rfl, h7⟩, if_neg (fun q => hr q.1), if_pos ⟨rfl, h7.1, by omega⟩]
        · rw [if_neg (fun q => h7 q.2), if_neg (fun q => hr q.1), if_neg (fun q => by omega)]
    · rw [if_neg (fun q => h5 q.1), if_neg (fun q => hr q.1), if_neg (fun q => h5 q.1), if_neg (fun q => hr q.1), if_neg (fun q => h5 q.1)]
theorem shm_l (S : xm) (k i : Nat) : sh_M S k i xm_l 0 = S xm_l 0 := rfl
theorem tm_loop {S : xm} {k c : Nat} (hS : S xm_l 0 = nI c) (hc : c ≤ 23) : ∀ (d i n : Nat), i + d = c → d < n → k ≤ i → kf_EM_take_19 n (sh_M S k i) (nI i) = some (sh_M S k c) := by
  intro d
  induction d with
  | zero =>
    intro i n hi hn hk
    obtain ⟨n, rfl⟩ : ∃ m, n = m + 1 := ⟨n - 1, by omega⟩
    have e : i = c := by omega
    subst e
    show kb_EM_take_19 (kf_EM_take_19 n) _ (nI i) = _
    unfold kb_EM_take_19
    rw [shm_l, hS, if_pos (nI_le (Nat.le_refl _) (by omega))]
  | succ d ih =>
    intro i n hi hn hk
    obtain ⟨n, rfl⟩ : ∃ m, n = m + 1 := ⟨n - 1, by omega⟩
    show kb_EM_take_19 (kf_EM_take_19 n) _ (nI i) = _
    unfold kb_EM_take_19
    rw [shm_l, hS, if_neg (nI_ge (by omega) (by omega)), nI_1, cp_all (by omega) (by omega) (by omega), xb_some, shm_step S hk]
    exact ih (i + 1) n (by omega) (by omega) (by omega)
/-- take: the message k lies in row 24, those behind it one row lower, the line is shorter by one -/
theorem tm_all {M : xm} {k c : Nat} (hM : M xm_l 0 = nI (c + 1)) (hc : c ≤ 23) (hk : k ≤ c) : kf_EM_take_0 M (nI k) = some (sh_M (xm_s (cp_M M k 24) xm_l 0 (nI c)) k c) := by
  unfold kf_EM_take_0
  have e24 : kf_EM_copyMessage_0 M (nI k) (24 : Int32) = some (cp_M M k 24) := cp_all (q := 24) (by omega) (by omega) (by decide)
  have el : cp_M M k 24 xm_l 0 = nI (c + 1) := hM
  rw [e24, xb_some, el, nI_pred]
  show (kf_EM_take_19 1000 (xm_s (cp_M M k 24) xm_l 0 (nI c)) (nI k)) = _
  have h := tm_loop (S := xm_s (cp_M M k 24) xm_l 0 (nI c)) (k := k) (c := c) (by exact xMt_get) hc (c - k) k 1000 (by omega) (by omega) (Nat.le_refl _)
  rw [shm_0] at h
  exact h
