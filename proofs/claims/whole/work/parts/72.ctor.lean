-- the constructors, run at address 0
theorem xg {α : Type} {x : Option α} {d : α} (h : x.isSome = true) : x = some (x.getD d) := by
  cases x with
  | none => cases h
  | some y => rfl
theorem sh_0 (B : Nat) : xk_0 B = xk_sh (xk_0 0) B := by
  have h1 : (fun _ => 0 : Nat → Nat) = fun a => if a < B then 0 else xk_kd (xk_0 0) (a - B) := by funext a; split <;> rfl
  have h3 : (fun _ _ _ => 0 : Nat → Nat → Nat → Int32) = fun c j a => if a < B then 0 else xk_iv (xk_0 0) c j (a - B) := by funext c j a; split <;> rfl
  have h4 : (fun _ _ _ => none : Nat → Nat → Nat → Option Nat) = fun c j a => if a < B then none else (xk_rv (xk_0 0) c j (a - B)).map (· + B) := by funext c j a; split <;> rfl
  have h5 : (fun _ _ => 0 : Nat → Nat → Int32) = fun a j => if a < B then 0 else xk_ai (xk_0 0) (a - B) j := by funext a j; split <;> rfl
  have h6 : (fun _ _ => none : Nat → Nat → Option Nat) = fun a j => if a < B then none else (xk_ar (xk_0 0) (a - B) j).map (· + B) := by funext a j; split <;> rfl
  exact Prod.ext h1 (Prod.ext h1 (Prod.ext h3 (Prod.ext h4 (Prod.ext h5 (Prod.ext h6 (Nat.zero_add B).symm)))))
def ct_2 : xk := (kf_ES_init_0 (xk_new (xk_0 0) 1 0) 0).getD (xk_0 0)
theorem ct_2s : (kf_ES_init_0 (xk_new (xk_0 0) 1 0) 0).isSome = true := by decide +kernel
theorem ct_2e : kf_ES_init_0 (xk_new (xk_0 0) 1 0) 0 = some ct_2 := xg ct_2s
theorem ct_2n : xk_nx ct_2 = 63 := by decide +kernel
def ct_4 : xk := (kf_EM_init_0 (xk_new ct_2 13 0) 63).getD (xk_0 0)
theorem ct_4s : (kf_EM_init_0 (xk_new ct_2 13 0) 63).isSome = true := by decide +kernel
theorem ct_4e : kf_EM_init_0 (xk_new ct_2 13 0) 63 = some ct_4 := xg ct_4s
theorem ct_4n : xk_nx ct_4 = 119 := by decide +kernel
def ct_ad (k : Nat) : Nat := if k < 47 then 64 + k else 63 + k
theorem ct_v1 : xk_kd ct_4 63 = xm_c + 1 := by decide +kernel
theorem ct_v3 : ∀ k, k < xm_N → k ≠ xm_l → xk_rv ct_4 xm_c k 63 = some (ct_ad k) := by decide +kernel
theorem ct_v4 : ∀ k, k < xm_N → k ≠ xm_l → xk_kd ct_4 (ct_ad k) = 100 + xm_t k ∧ xk_ln ct_4 (ct_ad k) = xm_n k := by decide +kernel
theorem ct_v5 (k k' : Nat) (_ : k < xm_N) (h : k ≠ xm_l) (_ : k' < xm_N) (h' : k' ≠ xm_l) (e : ct_ad k = ct_ad k') : k = k' := by
  unfold ct_ad at e
  have h1 : xm_l = 47 := rfl
  rw [h1] at h h'
  split at e <;> split at e <;> omega
theorem ct_init (B : Nat) : kf_ES_init_0 (xk_new (xk_0 B) 1 0) B = some (xk_sh ct_2 B) := by
  have h := sh_ES_init_0 B (xk_new (xk_0 0) 1 0) 0
  rw [Nat.zero_add, ct_2e] at h
  rw [sh_0, new_sh]
  exact h
theorem ct_nx (B : Nat) : xk_nx (xk_sh ct_2 B) = 63 + B := by rw [nx_sh, ct_2n]
theorem ct_initM (B : Nat) : kf_EM_init_0 (xk_new (xk_sh ct_2 B) 13 0) (xk_nx (xk_sh ct_2 B)) = some (xk_sh ct_4 B) := by
  have h := sh_EM_init_0 B (xk_new ct_2 13 0) 63
  rw [ct_4e] at h
  rw [new_sh, ct_nx]
  exact h
