section XR
variable {p : Program} {l : Launch} {e : Env} {R : Room} {s : State} {m : MethodId} {args : Array Value} {below : List Frame} {meth : Method} {c : Code} {H : Heap} {locs : List Loc} {cells slots : Nat} {Q : State → Prop}
variable {cc : ByteArray} {pc nL : Nat} {ls : Array Slot} {rest : List Value} {own : String} {E : xe} {K : xk} {M : xm} {a : Nat}
theorem xr_gi (C : xx_C p m c cc nL s args own E) (X : xx_S E K M s H locs) {ci N : Nat} {Cn : String} {T : u_T} {ty : Nat → FieldType} (hc : xc_ok ci Cn T N ty) (h99 : ci < 99) (k : Nat) (hk : k < N) (hn : k < xx_n ci) (hr : xx_r ci k = false) {index : Nat} (hl : Cond.fieldLink own index Cn (T k).2.1 (T k).2.2.1 ∈ w_all) (hdg : decode cc pc = .ok (.getfield index, 3))
    {v : Int32} (hv : xI K ci k a = some v) (kk : W p l e R s m args below meth c H locs cells slots Q (F0 m (pc + 3) ls (.int v :: rest))) : W p l e R s m args below meth c H locs cells slots Q (F0 m pc ls (.ref a :: rest)) := by
  unfold xI at hv
  split at hv
  · rename_i hkd
    cases hv
    obtain ⟨h1, h2⟩ := X.1.2.2.1 a _ (xk_Xo hkd h99)
    exact va_get C.1.1 C.1.2.1 C.1.2.2.2.2 hc.2.1 C.1.2.2.2.1 C.2.1 (xk_one h2) 0 rfl hc.1 k hk (C.1.2.2.2.2 _ hl) (fun x h => by rw [hc.2.2.2.2 k hk] at h; exact h) (v := .int (xk_iv K ci k a)) (by simp [xk_fs, hn, hr]) hdg kk
  · cases hv
theorem xr_gr (C : xx_C p m c cc nL s args own E) (X : xx_S E K M s H locs) {ci N : Nat} {Cn : String} {T : u_T} {ty : Nat → FieldType} (hc : xc_ok ci Cn T N ty) (h99 : ci < 99) (k : Nat) (hk : k < N) (hn : k < xx_n ci) (hr : xx_r ci k = true) {index : Nat} (hl : Cond.fieldLink own index Cn (T k).2.1 (T k).2.2.1 ∈ w_all) (hdg : decode cc pc = .ok (.getfield index, 3))
    {v : Option Nat} (hv : xR K ci k a = some v) (kk : W p l e R s m args below meth c H locs cells slots Q (F0 m (pc + 3) ls (va_rf v :: rest))) : W p l e R s m args below meth c H locs cells slots Q (F0 m pc ls (.ref a :: rest)) := by
  unfold xR at hv
  split at hv
  · rename_i hkd
    cases hv
    obtain ⟨h1, h2⟩ := X.1.2.2.1 a _ (xk_Xo hkd h99)
    exact va_get C.1.1 C.1.2.1 C.1.2.2.2.2 hc.2.1 C.1.2.2.2.1 C.2.1 (xk_one h2) 0 rfl hc.1 k hk (C.1.2.2.2.2 _ hl) (fun x h => by rw [hc.2.2.2.2 k hk] at h; exact h) (v := va_rf (xk_rv K ci k a)) (by simp [xk_fs, hn, hr]) hdg kk
  · cases hv
/-- a field is written that isn't final -/
theorem xr_put0 (C : xx_C p m c cc nL s args own E) (X : xx_S E K M s H locs) {K' : xk} {M' : xm} {ci N : Nat} {Cn : String} {T : u_T} {ty : Nat → FieldType} (hc : xc_ok ci Cn T N ty) {fs : List Value} (hX0 : xk_X E K M a = some (.inr (ci, fs))) (k : Nat) (hk : k < N) (hlen : k < fs.length) (hfin : (T k).2.2.2 = false) {index : Nat} (hl : Cond.fieldLink own index Cn (T k).2.1 (T k).2.2.1 ∈ w_all) (hdg : decode cc pc = .ok (.putfield index, 3))
    {v : Value} (hn : narrow (ty k) v = v) (hfit : fits (ty k) v = true) (hX : ∀ b, b ≠ a → xk_X E K' M' b = xk_X E K M b) (hXa : xk_X E K' M' a = some (.inr (ci, fs.set k v))) (hkd : xk_kd K' = xk_kd K) (hnx : xk_nx K' = xk_nx K)
    (kk : ∀ (H1 : Heap) (locs1 : List Loc), xx_S E K' M' s H1 locs1 → W p l e R s m args below meth c H1 locs1 cells slots Q (F0 m (pc + 3) ls rest)) : W p l e R s m args below meth c H locs cells slots Q (F0 m pc ls (v :: .ref a :: rest)) := by
  obtain ⟨hbs, r, h1, cell, q1, q2, q3, q4⟩ := X.1.2.2.1 a _ hX0
  have hap := va_apart (own := own) C.1.2.2.2.2 hc.2.1 ty hc.2.2.1 hc.2.2.2.1 C.2.1 hc.1
  have hr : r = (Cn, T, N) := Option.some.inj (h1.symm.trans hc.1)
  subst hr
  obtain ⟨hS, hfc, kC, hkC, hkind⟩ := C.2.1.1 ci _ hc.1
  obtain ⟨cf, kf, fi, f, hi, hsl⟩ := hS k hk
  have hlay := C.1.2.2.2.2 _ (hc.2.1 _ (u_in_lay hk))
  unfold u_lay at hlay
  rw [if_neg (by rw [hfin]; decide)] at hlay
  have hst := (u_facts hfc hkC (u_lays C.1.2.2.2.2 hc.2.1 hk) hi).1
  have h6 := u_store hfc hkC hkind hlay hi (hc.2.2.1 k hk) hn hfit
  refine W.putK C.1.1 C.1.2.1 (f := f) ⟨C.1.2.2.2.1, C.1.2.2.2.2 _ hl, ⟨_, _, _, by have h9 := hi; rw [hc.2.2.2.2 k hk] at h9; exact h9⟩, hst⟩ (by rw [q2]; exact h6) q1 q3 (by rw [hsl]; exact k2_hasslot (q4 k hk)) rfl rfl hdg fun H' e1 e2 e3 => ?_
  rw [hsl] at e1 ⊢
  exact kk H' _ ⟨X.1.st hX hXa hkd hnx hbs e2 e3 ⟨_, hc.1, t_OB.to (V := updV (vp_V fs) k v) ⟨_, e1, q2, q3, t_set q4 hap hk v⟩ (fun j _ => vp_updV_set hlen v j)⟩, X.2.put e2 e3 hbs⟩
/-- a final field is written by its constructor -/
theorem xr_put1 (C : xx_C p m c cc nL s args own E) (X : xx_S E K M s H locs) {K' : xk} {M' : xm} {ci N : Nat} {Cn : String} {T : u_T} {ty : Nat → FieldType} (hc : xc_ok ci Cn T N ty) {fs : List Value} (hX0 : xk_X E K M a = some (.inr (ci, fs))) (k : Nat) (hk : k < N) (hlen : k < fs.length) (hfin : (T k).2.2.2 = true) (hin2 : meth.name = "<init>") (hcn : Cn = own) {index : Nat} (hl : Cond.fieldLink own index Cn (T k).2.1 (T k).2.2.1 ∈ w_all) (hdg : decode cc pc = .ok (.putfield index, 3))
    {v : Value} (hn : narrow (ty k) v = v) (hfit : fits (ty k) v = true) (hX : ∀ b, b ≠ a → xk_X E K' M' b = xk_X E K M b) (hXa : xk_X E K' M' a = some (.inr (ci, fs.set k v))) (hkd : xk_kd K' = xk_kd K) (hnx : xk_nx K' = xk_nx K)
    (kk : ∀ (H1 : Heap) (locs1 : List Loc), xx_S E K' M' s H1 locs1 → W p l e R s m args below meth c H1 locs1 cells slots Q (F0 m (pc + 3) ls rest)) : W p l e R s m args below meth c H locs cells slots Q (F0 m pc ls (v :: .ref a :: rest)) := by
  obtain ⟨hbs, r, h1, cell, q1, q2, q3, q4⟩ := X.1.2.2.1 a _ hX0
  have hap := va_apart (own := own) C.1.2.2.2.2 hc.2.1 ty hc.2.2.1 hc.2.2.2.1 C.2.1 hc.1
  have hr : r = (Cn, T, N) := Option.some.inj (h1.symm.trans hc.1)
  subst hr
  obtain ⟨hS, hfc, kC, hkC, hkind⟩ := C.2.1.1 ci _ hc.1
  obtain ⟨cf, kf, fi, f, hi, hsl⟩ := hS k hk
  have hlay := C.1.2.2.2.2 _ (hc.2.1 _ (u_in_lay hk))
  unfold u_lay at hlay
  rw [if_pos hfin] at hlay
  have hst := (u_facts hfc hkC (u_lays C.1.2.2.2.2 hc.2.1 hk) hi).1
  have hcf : m.cls = cf := by
    obtain ⟨_, _, c', _, _, _, -, -, hf', -, -, -, hown2, -⟩ := Cond.laysFinal_spec hlay
    have e1 : c' = cf := by have := hi.symm.trans hf'; simp at this; exact this.1.symm
    rw [hc.2.2.2.2 k hk, hcn] at hown2
    rw [← e1]; exact Option.some.inj (C.1.2.2.2.1.symm.trans hown2)
  have h6 := u_fits hfc hkC hkind (Or.inr hlay) hi (hc.2.2.1 k hk) hn hfit
  refine W.putFinK C.1.1 C.1.2.1 C.1.2.2.2.1 (C.1.2.2.2.2 _ hl) (by have h9 := hi; rw [hc.2.2.2.2 k hk] at h9; exact h9) hst hcf hin2 (by rw [q2]; exact h6) q1 q3 (by rw [hsl]; exact k2_hasslot (q4 k hk)) rfl rfl hdg fun H' e1 e2 e3 => ?_
  rw [hsl] at e1 ⊢
  exact kk H' _ ⟨X.1.st hX hXa hkd hnx hbs e2 e3 ⟨_, hc.1, t_OB.to (V := updV (vp_V fs) k v) ⟨_, e1, q2, q3, t_set q4 hap hk v⟩ (fun j _ => vp_updV_set hlen v j)⟩, X.2.put e2 e3 hbs⟩
theorem xk_fslen {K : xk} {ci a : Nat} : (xk_fs K ci a).length = xx_n ci := by simp [xk_fs]
theorem xr_pi (C : xx_C p m c cc nL s args own E) (X : xx_S E K M s H locs) {ci N : Nat} {Cn : String} {T : u_T} {ty : Nat → FieldType} (hc : xc_ok ci Cn T N ty) (h99 : ci < 99) (k : Nat) (hk : k < N) (hn : k < xx_n ci) (hr : xx_r ci k = false) (hty : ty k = .int) (hfin : (T k).2.2.2 = false) {index : Nat} (hl : Cond.fieldLink own index Cn (T k).2.1 (T k).2.2.1 ∈ w_all) (hdg : decode cc pc = .ok (.putfield index, 3))
    {v : Int32} {K' : xk} (hv : xIs K ci k a v = some K') (kk : ∀ (H1 : Heap) (locs1 : List Loc), xx_S E K' M s H1 locs1 → W p l e R s m args below meth c H1 locs1 cells slots Q (F0 m (pc + 3) ls rest)) : W p l e R s m args below meth c H locs cells slots Q (F0 m pc ls (.int v :: .ref a :: rest)) := by
  unfold xIs at hv
  split at hv
  · rename_i hkd
    cases hv
    exact xr_put0 C X hc (xk_Xo hkd h99) k hk (by rw [xk_fslen]; exact hn) hfin hl hdg (by rw [hty]; rfl) (by rw [hty]; rfl) xk_XneI (by rw [← xk_fsI hr]; exact xk_Xo (by exact hkd) h99) rfl rfl kk
  · cases hv
theorem xr_pz (C : xx_C p m c cc nL s args own E) (X : xx_S E K M s H locs) {ci N : Nat} {Cn : String} {T : u_T} {ty : Nat → FieldType} (hc : xc_ok ci Cn T N ty) (h99 : ci < 99) (k : Nat) (hk : k < N) (hn : k < xx_n ci) (hr : xx_r ci k = false) (hty : ty k = .boolean) (hfin : (T k).2.2.2 = false) {index : Nat} (hl : Cond.fieldLink own index Cn (T k).2.1 (T k).2.2.1 ∈ w_all) (hdg : decode cc pc = .ok (.putfield index, 3))
    {v : Int32} {K' : xk} (hv : xZs K ci k a v = some K') (kk : ∀ (H1 : Heap) (locs1 : List Loc), xx_S E K' M s H1 locs1 → W p l e R s m args below meth c H1 locs1 cells slots Q (F0 m (pc + 3) ls rest)) : W p l e R s m args below meth c H locs cells slots Q (F0 m pc ls (.int v :: .ref a :: rest)) := by
  unfold xZs at hv
  split at hv
  · rename_i hkd
    cases hv
    have hz : narrow .boolean (.int v) = .int v ∧ fits .boolean (.int v) = true := by rcases hkd.2 with rfl | rfl <;> decide
    exact xr_put0 C X hc (xk_Xo hkd.1 h99) k hk (by rw [xk_fslen]; exact hn) hfin hl hdg (by rw [hty]; exact hz.1) (by rw [hty]; exact hz.2) xk_XneI (by rw [← xk_fsI hr]; exact xk_Xo (by exact hkd.1) h99) rfl rfl kk
  · cases hv
theorem xr_nref {v : Option Nat} {t : FieldType} (ht : (∃ n, t = .object n) ∨ ∃ u, t = .array u) : narrow t (va_rf v) = va_rf v ∧ fits t (va_rf v) = true := by
  rcases ht with ⟨n, rfl⟩ | ⟨u, rfl⟩ <;> cases v <;> exact ⟨rfl, rfl⟩
theorem xr_pr (C : xx_C p m c cc nL s args own E) (X : xx_S E K M s H locs) {ci N : Nat} {Cn : String} {T : u_T} {ty : Nat → FieldType} (hc : xc_ok ci Cn T N ty) (h99 : ci < 99) (k : Nat) (hk : k < N) (hn : k < xx_n ci) (hr : xx_r ci k = true) (hty : (∃ n, ty k = .object n) ∨ ∃ u, ty k = .array u) (hfin : (T k).2.2.2 = false) {index : Nat} (hl : Cond.fieldLink own index Cn (T k).2.1 (T k).2.2.1 ∈ w_all) (hdg : decode cc pc = .ok (.putfield index, 3))
    {v : Option Nat} {K' : xk} (hv : xRs K ci k a v = some K') (kk : ∀ (H1 : Heap) (locs1 : List Loc), xx_S E K' M s H1 locs1 → W p l e R s m args below meth c H1 locs1 cells slots Q (F0 m (pc + 3) ls rest)) : W p l e R s m args below meth c H locs cells slots Q (F0 m pc ls (va_rf v :: .ref a :: rest)) := by
  unfold xRs at hv
  split at hv
  · rename_i hkd
    cases hv
    exact xr_put0 C X hc (xk_Xo hkd h99) k hk (by rw [xk_fslen]; exact hn) hfin hl hdg (xr_nref hty).1 (xr_nref hty).2 xk_XneR (by rw [← xk_fsR hr]; exact xk_Xo (by exact hkd) h99) rfl rfl kk
  · cases hv
theorem xr_piF (C : xx_C p m c cc nL s args own E) (X : xx_S E K M s H locs) {ci N : Nat} {Cn : String} {T : u_T} {ty : Nat → FieldType} (hc : xc_ok ci Cn T N ty) (h99 : ci < 99) (k : Nat) (hk : k < N) (hn : k < xx_n ci) (hr : xx_r ci k = false) (hty : ty k = .int) (hfin : (T k).2.2.2 = true) (hin2 : meth.name = "<init>") (hcn : Cn = own) {index : Nat} (hl : Cond.fieldLink own index Cn (T k).2.1 (T k).2.2.1 ∈ w_all) (hdg : decode cc pc = .ok (.putfield index, 3))
    {v : Int32} {K' : xk} (hv : xIs K ci k a v = some K') (kk : ∀ (H1 : Heap) (locs1 : List Loc), xx_S E K' M s H1 locs1 → W p l e R s m args below meth c H1 locs1 cells slots Q (F0 m (pc + 3) ls rest)) : W p l e R s m args below meth c H locs cells slots Q (F0 m pc ls (.int v :: .ref a :: rest)) := by
  unfold xIs at hv
  split at hv
  · rename_i hkd
    cases hv
    exact xr_put1 C X hc (xk_Xo hkd h99) k hk (by rw [xk_fslen]; exact hn) hfin hin2 hcn hl hdg (by rw [hty]; rfl) (by rw [hty]; rfl) xk_XneI (by rw [← xk_fsI hr]; exact xk_Xo (by exact hkd) h99) rfl rfl kk
  · cases hv
theorem xr_prF (C : xx_C p m c cc nL s args own E) (X : xx_S E K M s H locs) {ci N : Nat} {Cn : String} {T : u_T} {ty : Nat → FieldType} (hc : xc_ok ci Cn T N ty) (h99 : ci < 99) (k : Nat) (hk : k < N) (hn : k < xx_n ci) (hr : xx_r ci k = true) (hty : (∃ n, ty k = .object n) ∨ ∃ u, ty k = .array u) (hfin : (T k).2.2.2 = true) (hin2 : meth.name = "<init>") (hcn : Cn = own) {index : Nat} (hl : Cond.fieldLink own index Cn (T k).2.1 (T k).2.2.1 ∈ w_all) (hdg : decode cc pc = .ok (.putfield index, 3))
    {v : Option Nat} {K' : xk} (hv : xRs K ci k a v = some K') (kk : ∀ (H1 : Heap) (locs1 : List Loc), xx_S E K' M s H1 locs1 → W p l e R s m args below meth c H1 locs1 cells slots Q (F0 m (pc + 3) ls rest)) : W p l e R s m args below meth c H locs cells slots Q (F0 m pc ls (va_rf v :: .ref a :: rest)) := by
  unfold xRs at hv
  split at hv
  · rename_i hkd
    cases hv
    exact xr_put1 C X hc (xk_Xo hkd h99) k hk (by rw [xk_fslen]; exact hn) hfin hin2 hcn hl hdg (xr_nref hty).1 (xr_nref hty).2 xk_XneR (by rw [← xk_fsR hr]; exact xk_Xo (by exact hkd) h99) rfl rfl kk
  · cases hv
-- arrays
theorem xr_iald (C : xx_C p m c cc nL s args own E) (X : xx_S E K M s H locs) (t : Nat) (ht5 : t < 50) (hta : xx_a t = false) (htt : (xx_tys E)[t]? = some (xe_tc E t, .int)) (hdg : decode cc pc = .ok (.iaload, 1)) {i v : Int32} (hv : xIa K t a i = some v)
    (kk : W p l e R s m args below meth c H locs cells slots Q (F0 m (pc + 1) ls (.int v :: rest))) : W p l e R s m args below meth c H locs cells slots Q (F0 m pc ls (.int i :: .ref a :: rest)) := by
  unfold xIa at hv
  split at hv
  · rename_i hkd
    cases hv
    have hX := xk_Xa (E := E) (M := M) hkd.1 ht5
    rw [hta, if_neg (by decide)] at hX
    exact va_iald C.1.1 C.1.2.1 C.2.1 (xk_one (X.1.2.2.1 a _ hX).2) 0 t rfl htt hkd.2 hdg kk
  · cases hv
theorem xr_aald (C : xx_C p m c cc nL s args own E) (X : xx_S E K M s H locs) (t : Nat) {Cn : String} (ht5 : t < 50) (hta : xx_a t = true) (htt : (xx_tys E)[t]? = some (xe_tc E t, .object Cn)) (hdg : decode cc pc = .ok (.aaload, 1)) {i : Int32} {v : Option Nat} (hv : xRa K t a i = some v)
    (kk : W p l e R s m args below meth c H locs cells slots Q (F0 m (pc + 1) ls (va_rf v :: rest))) : W p l e R s m args below meth c H locs cells slots Q (F0 m pc ls (.int i :: .ref a :: rest)) := by
  unfold xRa at hv
  split at hv
  · rename_i hkd
    cases hv
    have hX := xk_Xa (E := E) (M := M) hkd.1 ht5
    rw [hta, if_pos rfl] at hX
    exact va_aldq C.1.1 C.1.2.1 C.2.1 (xk_one (X.1.2.2.1 a _ hX).2) 0 t rfl htt hkd.2 hdg kk
  · cases hv
theorem xr_iast (C : xx_C p m c cc nL s args own E) (X : xx_S E K M s H locs) (t : Nat) (ht5 : t < 50) (hta : xx_a t = false) (htt : (xx_tys E)[t]? = some (xe_tc E t, .int)) (hdg : decode cc pc = .ok (.iastore, 1)) {i v : Int32} {K' : xk} (hv : xIt K t a i v = some K')
    (kk : ∀ (H1 : Heap) (locs1 : List Loc), xx_S E K' M s H1 locs1 → W p l e R s m args below meth c H1 locs1 cells slots Q (F0 m (pc + 1) ls rest)) : W p l e R s m args below meth c H locs cells slots Q (F0 m pc ls (.int v :: .int i :: .ref a :: rest)) := by
  unfold xIt at hv
  split at hv
  · rename_i hkd
    cases hv
    have hX := xk_Xa (E := E) (M := M) hkd.1 ht5
    rw [hta, if_neg (by decide)] at hX
    have hX' : xk_X E (xk_tI K a i.toNatClampNeg v) M a = _ := xk_Xa (by exact hkd.1) ht5
    rw [hta, if_neg (by decide)] at hX'
    obtain ⟨hbs, hat⟩ := X.1.2.2.1 a _ hX
    refine W.iast C.1.1 C.1.2.1 hat ((C.2.1.2 t _ htt).1 _ (fun j => .int (xk_ai K a j))) (fun q => by cases q) (by show ¬ (i < 0 ∨ (arrV _ _ _).slots.size ≤ _); rw [arrV_size]; exact hkd.2) rfl rfl hdg fun H1 e1 z oq => ?_
    refine kk H1 _ ⟨X.1.st xk_XneTI hX' rfl rfl hbs z oq ?_, X.2.put z oq hbs⟩
    show H1[a]? = some (vp_cell _ _)
    rw [e1, vp_cell_i, vp_cell_i, arrV_store]
    congr 2
    funext q
    by_cases hq : q = i.toNatClampNeg
    · subst hq
      simp [updV, xk_tI, xk_ai]
    · simp [updV, xk_tI, xk_ai, hq]
  · cases hv
theorem xr_bast (C : xx_C p m c cc nL s args own E) (X : xx_S E K M s H locs) (t : Nat) (ht5 : t < 50) (hta : xx_a t = false) (htt : (xx_tys E)[t]? = some (xe_tc E t, .boolean)) (hdg : decode cc pc = .ok (.bastore, 1)) {i v : Int32} {K' : xk} (hv : xZt K t a i v = some K')
    (kk : ∀ (H1 : Heap) (locs1 : List Loc), xx_S E K' M s H1 locs1 → W p l e R s m args below meth c H1 locs1 cells slots Q (F0 m (pc + 1) ls rest)) : W p l e R s m args below meth c H locs cells slots Q (F0 m pc ls (.int v :: .int i :: .ref a :: rest)) := by
  unfold xZt at hv
  split at hv
  · rename_i hkd
    cases hv
    have hX := xk_Xa (E := E) (M := M) hkd.1.1 ht5
    rw [hta, if_neg (by decide)] at hX
    have hX' : xk_X E (xk_tI K a i.toNatClampNeg v) M a = _ := xk_Xa (by exact hkd.1.1) ht5
    rw [hta, if_neg (by decide)] at hX'
    have hz : narrow .boolean (.int v) = .int v := by rcases hkd.2 with rfl | rfl <;> decide
    obtain ⟨hbs, hat⟩ := X.1.2.2.1 a _ hX
    refine W.zast C.1.1 C.1.2.1 hat ((C.2.1.2 t _ htt).1 _ (fun j => .int (xk_ai K a j))) (fun q => by cases q) (by show ¬ (i < 0 ∨ (arrV _ _ _).slots.size ≤ _); rw [arrV_size]; exact hkd.1.2) rfl rfl hdg fun H1 e1 z oq => ?_
    refine kk H1 _ ⟨X.1.st xk_XneTI hX' rfl rfl hbs z oq ?_, X.2.put z oq hbs⟩
    show H1[a]? = some (vp_cell _ _)
    rw [e1, hz, vp_cell_i, vp_cell_i, arrV_store]
    congr 2
    funext q
    by_cases hq : q = i.toNatClampNeg
    · subst hq
      simp [updV, xk_tI, xk_ai]
    · simp [updV, xk_tI, xk_ai, hq]
  · cases hv
theorem xr_aast (C : xx_C p m c cc nL s args own E) (X : xx_S E K M s H locs) (t ci : Nat) {r : vw_C} (ht5 : t < 50) (h99 : ci < 99) (hta : xx_a t = true) (hcl : classes[ci]? = some r) (htt : (xx_tys E)[t]? = some (xe_tc E t, .object r.1)) (hdg : decode cc pc = .ok (.aastore, 1)) {i : Int32} {v : Option Nat} {K' : xk} (hv : xRt K t ci a i v = some K')
    (kk : ∀ (H1 : Heap) (locs1 : List Loc), xx_S E K' M s H1 locs1 → W p l e R s m args below meth c H1 locs1 cells slots Q (F0 m (pc + 1) ls rest)) : W p l e R s m args below meth c H locs cells slots Q (F0 m pc ls (va_rf v :: .int i :: .ref a :: rest)) := by
  unfold xRt at hv
  split at hv
  · rename_i hkd
    cases hv
    have hlt : i.toNatClampNeg < xk_ln K a := Nat.not_le.mp fun q => hkd.2.1 (Or.inr q)
    have h0 : ¬ i < 0 := fun q => hkd.2.1 (Or.inl q)
    have hX := xk_Xa (E := E) (M := M) hkd.1 ht5
    rw [hta, if_pos rfl] at hX
    have hX' : xk_X E (xk_tR K a i.toNatClampNeg v) M a = _ := xk_Xa (by exact hkd.1) ht5
    rw [hta, if_pos rfl] at hX'
    obtain ⟨hbs, hat⟩ := X.1.2.2.1 a _ hX
    have hA := C.2.1.2 t _ htt
    cases v with
    | none =>
      refine va_WaastN (C := r.1) C.1.1 C.1.2.1 hat (hA.1 _ (fun j => va_rf (xk_ar K a j))) (fun h => by cases h) (by show ¬ (i < 0 ∨ (arrV _ _ _).slots.size ≤ _); rw [arrV_size]; exact hkd.2.1) rfl rfl hdg fun H1 e1 z oq => ?_
      refine kk H1 _ ⟨X.1.st xk_XneTR hX' rfl rfl hbs z oq ?_, X.2.put z oq hbs⟩
      show H1[a]? = some (vp_cell _ _)
      rw [e1, vp_cell_q, vp_cell_q, arrV_store]
      congr 2
      funext q
      by_cases hq : q = i.toNatClampNeg
      · subst hq
        simp [updV, xk_tR, xk_ar, va_rf]
      · simp [updV, xk_tR, xk_ar, hq]
    | some y =>
      obtain ⟨hby, r', hr', cellV, g1, g2, g3, -⟩ := X.1.2.2.1 y _ (xk_Xo (show xk_kd K y = ci + 1 from hkd.2.2) h99)
      have hcls := (C.2.1.1 ci r hcl).2
      obtain ⟨kA, comp, k1, k2, k3, -⟩ := hA.2
      have hcomp : comp = (xe_D E).1 ci := Option.some.inj (k3.symm.trans hcls.1)
      subst hcomp
      obtain ⟨kC, hkC, -⟩ := hcls.2
      refine W.aast C.1.1 C.1.2.1 hat (fun q h => by cases h) (fun h => by cases h) k1 k2 rfl hkC ⟨h0, by show _ < (arrV _ _ _).slots.size; rw [arrV_size]; exact hlt⟩ g1 (fun q h => by rw [g3] at h; cases h) (by rw [g2]; exact hkC) (by rw [g2]; exact va_assign hcls) rfl rfl hdg fun H1 e1 z oq => ?_
      refine kk H1 _ ⟨X.1.st xk_XneTR hX' rfl rfl hbs z oq ?_, X.2.put z oq hbs⟩
      show H1[a]? = some (vp_cell _ _)
      rw [e1, vp_cell_q, vp_cell_q, arrV_store]
      congr 2
      funext q
      by_cases hq : q = i.toNatClampNeg
      · subst hq
        simp [updV, xk_tR, xk_ar, va_rf]
      · simp [updV, xk_tR, xk_ar, hq]
  · cases hv
end XR
