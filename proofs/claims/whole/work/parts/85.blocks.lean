-- a block of eight is copied from one field of the reference to another
def cb_L (N : xm) (f p g q i : Nat) : xm := fun c j => if c = g ∧ 8 * q ≤ j ∧ j < 8 * q + i then N f (8 * p + (j - 8 * q)) else N c j
theorem cb_0 (N : xm) (f p g q : Nat) : cb_L N f p g q 0 = N := by
  funext c j
  unfold cb_L
  rw [if_neg (fun h => by omega)]
theorem cb_src {N : xm} {f p g q i x : Nat} (hfg : f ≠ g) : cb_L N f p g q i f x = N f x := by
  unfold cb_L
  rw [if_neg (fun h => hfg h.1)]
theorem cb_step {N : xm} {f p g q i : Nat} : xm_s (cb_L N f p g q i) g (8 * q + i) (N f (8 * p + i)) = cb_L N f p g q (i + 1) := by
  funext c j
  unfold xm_s cb_L
  by_cases h1 : c = g
  · subst h1
    by_cases h2 : j = 8 * q + i
    · subst h2
      rw [if_pos ⟨rfl, rfl⟩, if_pos ⟨rfl, by omega, by omega⟩]
      congr 1
      omega
    · rw [if_neg (fun h => h2 h.2)]
      by_cases h3 : 8 * q ≤ j ∧ j < 8 * q + i
      · rw [if_pos ⟨rfl, h3⟩, if_pos ⟨rfl, h3.1, by omega⟩]
      · rw [if_neg (fun h => h3 h.2), if_neg (fun h => h3 ⟨h.2.1, by omega⟩)]
  · rw [if_neg (fun h => h1 h.1), if_neg (fun h => h1 h.1), if_neg (fun h => h1 h.1)]
/-- commit's own loop: the client's values into the message's content -/
theorem cm_loop {N : xm} {p q : Nat} (hp : p < 3) (hq : q < 25) : ∀ (d i n : Nat), i + d = 8 → d < n → kf_EM_commit_86 n (cb_L N 45 p 55 q i) (nI p) (nI q) (nI i) = some (1, cb_L N 45 p 55 q 8) := by
  intro d
  induction d with
  | zero =>
    intro i n hi hn
    obtain ⟨n, rfl⟩ : ∃ m, n = m + 1 := ⟨n - 1, by omega⟩
    have i8 : i = 8 := by omega
    subst i8
    show kb_EM_commit_86 (kf_EM_commit_86 n) _ _ _ (nI 8) = _
    unfold kb_EM_commit_86
    have h8 : (8 : Int32) ≤ nI 8 := nI_le (a := 8) (b := 8) (Nat.le_refl _) (by decide)
    rw [if_pos h8]
  | succ d ih =>
    intro i n hi hn
    obtain ⟨n, rfl⟩ : ∃ m, n = m + 1 := ⟨n - 1, by omega⟩
    show kb_EM_commit_86 (kf_EM_commit_86 n) _ _ _ (nI i) = _
    unfold kb_EM_commit_86
    have h8 : ¬ (8 : Int32) ≤ nI i := nI_ge (a := i) (b := 8) (by omega) (by decide)
    rw [if_neg h8, ix_8, ix_8, xMi_ok (by show 8 * p + i < 24; omega) (by decide), xb_some, xMt_ok (by show 8 * q + i < 200; omega) (by decide), xb_some, nI_1, cb_src (by decide), cb_step]
    exact ih (i + 1) n (by omega) (by omega)
theorem cm_60 {M : xm} {p q : Nat} (hp : p < 3) (hq : q < 25) : kf_EM_commit_60 M (nI p) (nI q) = some (1, cb_L (xm_s (xm_s M 53 q (M 43 p)) 54 q (M 44 p)) 45 p 55 q 8) := by
  unfold kf_EM_commit_60
  rw [xMi_ok hp (by decide), xb_some, xMt_ok hq (by decide), xb_some, xMi_ok hp (by decide), xb_some, xMt_ok hq (by decide), xb_some]
  show kf_EM_commit_86 1000 (xm_s (xm_s M 53 q (M 43 p)) 54 q (M 44 p)) (nI p) (nI q) (nI 0) = _
  have h := cm_loop (N := xm_s (xm_s M 53 q (M 43 p)) 54 q (M 44 p)) hp hq 8 0 1000 (by omega) (by omega)
  rw [cb_0] at h
  exact h
