-- the reference copies a message
def cp_L (N : xm) (p q i : Nat) : xm := fun c j => if c = 55 ∧ 8 * q ≤ j ∧ j < 8 * q + i then N 55 (8 * p + (j - 8 * q)) else N c j
def cp_H (M : xm) (p q : Nat) : xm := xm_s (xm_s (xm_s (xm_s (xm_s (xm_s (xm_s M 48 q (M 48 p)) 49 q (M 49 p)) 50 q (M 50 p)) 51 q (M 51 p)) 52 q (M 52 p)) 53 q (M 53 p)) 54 q (M 54 p)
def cp_M (M : xm) (p q : Nat) : xm := cp_L (cp_H M p q) p q 8
theorem cp_0 (N : xm) (p q : Nat) : cp_L N p q 0 = N := by
  funext c j
  unfold cp_L
  rw [if_neg (fun h => by omega)]
theorem ix_8 (p i : Nat) : ((8 : Int32) * nI p) + nI i = nI (8 * p + i) := by
  show nI 8 * nI p + nI i = _
  rw [pk_mul, nI_add]
theorem cp_step {N : xm} {p q i : Nat} (hpq : p ≠ q) (hi : i < 8) : xm_s (cp_L N p q i) 55 (8 * q + i) (cp_L N p q i 55 (8 * p + i)) = cp_L N p q (i + 1) := by
  have e : cp_L N p q i 55 (8 * p + i) = N 55 (8 * p + i) := by
    unfold cp_L
    rw [if_neg (fun h => by omega)]
  rw [e]
  funext c j
  unfold xm_s cp_L
  by_cases h1 : c = 55
  · subst h1
    by_cases h2 : j = 8 * q + i
    · subst h2
      rw [if_pos ⟨rfl, rfl⟩, if_pos ⟨rfl, by omega, by omega⟩]
      congr 1
      omega
    · rw [if_neg (fun h => h2 h.2)]
      by_cases h3 : 8 * q ≤ j ∧ j < 8 * q + i
      · rw [if_pos ⟨rfl, h3⟩, if_pos ⟨rfl, h3.1, by omega⟩]
      · rw [if_neg (fun h => h3 h.2), if_neg (fun h => h3 ⟨h.2.1, by omega⟩)]
  · rw [if_neg (fun h => h1 h.1), if_neg (fun h => h1 h.1), if_neg (fun h => h1 h.1)]
theorem cp_loop {N : xm} {p q : Nat} (hpq : p ≠ q) (hp : p < 25) (hq : q < 25) : ∀ (d i n : Nat), i + d = 8 → d < n → kf_EM_copyMessage_86 n (cp_L N p q i) (nI p) (nI q) (nI i) = some (cp_L N p q 8) := by
  intro d
  induction d with
  | zero =>
    intro i n hi hn
    obtain ⟨n, rfl⟩ : ∃ m, n = m + 1 := ⟨n - 1, by omega⟩
    have i8 : i = 8 := by omega
    subst i8
    show kb_EM_copyMessage_86 (kf_EM_copyMessage_86 n) _ _ _ (nI 8) = _
    unfold kb_EM_copyMessage_86
    have h8 : (8 : Int32) ≤ nI 8 := nI_le (a := 8) (b := 8) (Nat.le_refl _) (by decide)
    rw [if_pos h8]
  | succ d ih =>
    intro i n hi hn
    obtain ⟨n, rfl⟩ : ∃ m, n = m + 1 := ⟨n - 1, by omega⟩
    show kb_EM_copyMessage_86 (kf_EM_copyMessage_86 n) _ _ _ (nI i) = _
    unfold kb_EM_copyMessage_86
    have h8 : ¬ (8 : Int32) ≤ nI i := nI_ge (a := i) (b := 8) (by omega) (by decide)
    rw [if_neg h8, ix_8, ix_8, xMi_ok (by show 8 * p + i < 200; omega) (by decide), xb_some, xMt_ok (by show 8 * q + i < 200; omega) (by decide), xb_some, nI_1, cp_step hpq (by omega)]
    exact ih (i + 1) n (by omega) (by omega)
theorem cp_all {M : xm} {p q : Nat} (hpq : p ≠ q) (hp : p < 25) (hq : q < 25) : kf_EM_copyMessage_0 M (nI p) (nI q) = some (cp_M M p q) := by
  unfold kf_EM_copyMessage_0 kf_EM_copyMessage_36 kf_EM_copyMessage_72
  rw [xMi_ok hp (by decide), xb_some, xMt_ok hq (by decide), xb_some, xMi_ok hp (by decide), xb_some, xMt_ok hq (by decide), xb_some, xMi_ok hp (by decide), xb_some, xMt_ok hq (by decide), xb_some, xMi_ok hp (by decide), xb_some, xMt_ok hq (by decide), xb_some, xMi_ok hp (by decide), xb_some, xMt_ok hq (by decide), xb_some, xMi_ok hp (by decide), xb_some, xMt_ok hq (by decide), xb_some, xMi_ok hp (by decide), xb_some, xMt_ok hq (by decide), xb_some]
  show kf_EM_copyMessage_86 1000 (cp_H M p q) (nI p) (nI q) (nI 0) = _
  have h := cp_loop (N := cp_H M p q) hpq hp hq 8 0 1000 (by omega) (by omega)
  rw [cp_0] at h
  exact h
