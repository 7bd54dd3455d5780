/-! the world of this claim: objects by class and field, arrays by address, the reference's arrays by their fields -/
abbrev xk : Type := (Nat → Nat) × (Nat → Nat) × (Nat → Nat → Nat → Int32) × (Nat → Nat → Nat → Option Nat) × (Nat → Nat → Int32) × (Nat → Nat → Option Nat) × Nat
abbrev xm : Type := Nat → Nat → Int32
abbrev xe : Type := va_G × (Nat → ClassId) × Nat × (Nat → Nat) × Nat × Bool
def xk_kd (K : xk) : Nat → Nat := K.1
def xk_ln (K : xk) : Nat → Nat := K.2.1
def xk_iv (K : xk) : Nat → Nat → Nat → Int32 := K.2.2.1
def xk_rv (K : xk) : Nat → Nat → Nat → Option Nat := K.2.2.2.1
def xk_ai (K : xk) : Nat → Nat → Int32 := K.2.2.2.2.1
def xk_ar (K : xk) : Nat → Nat → Option Nat := K.2.2.2.2.2.1
def xk_nx (K : xk) : Nat := K.2.2.2.2.2.2
def xe_D (E : xe) : va_G := E.1
def xe_tc (E : xe) : Nat → ClassId := E.2.1
def xe_om (E : xe) : Nat := E.2.2.1
def xe_ad (E : xe) : Nat → Nat := E.2.2.2.1
def xe_bs (E : xe) : Nat := E.2.2.2.2.1
def xe_g (E : xe) : Bool := E.2.2.2.2.2
abbrev xe_A (E : xe) : Nat → Prop := fun q => xe_bs E ≤ q
-- what a store, a new object, a new array makes of it
def xk_sI (K : xk) (ci k a : Nat) (v : Int32) : xk := (K.1, K.2.1, fun c j b => if c = ci ∧ j = k ∧ b = a then v else K.2.2.1 c j b, K.2.2.2)
def xk_sR (K : xk) (ci k a : Nat) (v : Option Nat) : xk := (K.1, K.2.1, K.2.2.1, fun c j b => if c = ci ∧ j = k ∧ b = a then v else K.2.2.2.1 c j b, K.2.2.2.2)
def xk_tI (K : xk) (a i : Nat) (v : Int32) : xk := (K.1, K.2.1, K.2.2.1, K.2.2.2.1, fun b j => if b = a ∧ j = i then v else K.2.2.2.2.1 b j, K.2.2.2.2.2)
def xk_tR (K : xk) (a i : Nat) (v : Option Nat) : xk := (K.1, K.2.1, K.2.2.1, K.2.2.2.1, K.2.2.2.2.1, fun b j => if b = a ∧ j = i then v else K.2.2.2.2.2.1 b j, K.2.2.2.2.2.2)
def xk_new (K : xk) (n len : Nat) : xk :=
  (fun b => if b = xk_nx K then n else K.1 b, fun b => if b = xk_nx K then len else K.2.1 b, fun c j b => if b = xk_nx K then 0 else K.2.2.1 c j b, fun c j b => if b = xk_nx K then none else K.2.2.2.1 c j b,
    fun b j => if b = xk_nx K then 0 else K.2.2.2.2.1 b j, fun b j => if b = xk_nx K then none else K.2.2.2.2.2.1 b j, xk_nx K + 1)
def xm_s (M : xm) (k i : Nat) (v : Int32) : xm := fun c j => if c = k ∧ j = i then v else M c j
-- the steps: none where the machine would not go on
def xI (K : xk) (ci k a : Nat) : Option Int32 := if xk_kd K a = ci + 1 then some (xk_iv K ci k a) else none
def xR (K : xk) (ci k a : Nat) : Option (Option Nat) := if xk_kd K a = ci + 1 then some (xk_rv K ci k a) else none
def xIs (K : xk) (ci k a : Nat) (v : Int32) : Option xk := if xk_kd K a = ci + 1 then some (xk_sI K ci k a v) else none
def xZs (K : xk) (ci k a : Nat) (v : Int32) : Option xk := if xk_kd K a = ci + 1 ∧ (v = 0 ∨ v = 1) then some (xk_sI K ci k a v) else none
def xRs (K : xk) (ci k a : Nat) (v : Option Nat) : Option xk := if xk_kd K a = ci + 1 then some (xk_sR K ci k a v) else none
def xIa (K : xk) (t a : Nat) (i : Int32) : Option Int32 := if xk_kd K a = 100 + t ∧ ¬ (i < 0 ∨ xk_ln K a ≤ i.toNatClampNeg) then some (xk_ai K a i.toNatClampNeg) else none
def xRa (K : xk) (t a : Nat) (i : Int32) : Option (Option Nat) := if xk_kd K a = 100 + t ∧ ¬ (i < 0 ∨ xk_ln K a ≤ i.toNatClampNeg) then some (xk_ar K a i.toNatClampNeg) else none
def xIt (K : xk) (t a : Nat) (i v : Int32) : Option xk := if xk_kd K a = 100 + t ∧ ¬ (i < 0 ∨ xk_ln K a ≤ i.toNatClampNeg) then some (xk_tI K a i.toNatClampNeg v) else none
def xZt (K : xk) (t a : Nat) (i v : Int32) : Option xk := if (xk_kd K a = 100 + t ∧ ¬ (i < 0 ∨ xk_ln K a ≤ i.toNatClampNeg)) ∧ (v = 0 ∨ v = 1) then some (xk_tI K a i.toNatClampNeg v) else none
def xRt (K : xk) (t ci a : Nat) (i : Int32) (v : Option Nat) : Option xk := if xk_kd K a = 100 + t ∧ ¬ (i < 0 ∨ xk_ln K a ≤ i.toNatClampNeg) ∧ v.elim (ci + 1) (xk_kd K) = ci + 1 then some (xk_tR K a i.toNatClampNeg v) else none
def xZ (v : Int32) : Option Int32 := if v = 0 ∨ v = 1 then some v else none
def xMi (M : xm) (k : Nat) (i : Int32) : Option Int32 := if i < 0 ∨ xm_n k ≤ i.toNatClampNeg then none else some (M k i.toNatClampNeg)
def xMt (M : xm) (k : Nat) (i v : Int32) : Option xm := if i < 0 ∨ xm_n k ≤ i.toNatClampNeg then none else some (xm_s M k i.toNatClampNeg v)
def xMz (M : xm) (k : Nat) (i v : Int32) : Option xm := if (i < 0 ∨ xm_n k ≤ i.toNatClampNeg) ∨ ¬ (v = 0 ∨ v = 1) then none else some (xm_s M k i.toNatClampNeg v)
def xMl (M : xm) (v : Int32) : Option xm := some (xm_s M xm_l 0 v)
def xNw (K : xk) (n len : Nat) : Option (Nat × xk) := some (xk_nx K, xk_new K n len)
def xO (K : xk) (ci a : Nat) : Option Unit := if xk_kd K a = ci + 1 then some () else none
def xp {α β γ : Type} (x : Option (α × β)) (f : α → β → Option γ) : Option γ := x.bind (fun z => f z.1 z.2)
theorem xb {α β : Type} {x : Option α} {f : α → Option β} {b : β} (h : x.bind f = some b) : ∃ a, x = some a ∧ f a = some b := by
  cases x with
  | none => cases h
  | some a => exact ⟨a, rfl, h⟩
theorem xpb {α β γ : Type} {x : Option (α × β)} {f : α → β → Option γ} {b : γ} (h : xp x f = some b) : ∃ a c, x = some (a, c) ∧ f a c = some b := by
  cases x with
  | none => cases h
  | some a => exact ⟨a.1, a.2, rfl, h⟩
theorem xOk {K : xk} {ci a : Nat} {u : Unit} (h : xO K ci a = some u) : xk_kd K a = ci + 1 := by
  unfold xO at h
  split at h
  · assumption
  · cases h
def xx_tys (E : xe) : List (ClassId × FieldType) := [(xe_tc E 0, .int), (xe_tc E 1, .boolean), (xe_tc E 2, .object Rn_Coordinator), (xe_tc E 3, .object Rn_Log), (xe_tc E 4, .object Rn_Storage), (xe_tc E 5, .object Rn_Client), (xe_tc E 6, .object Rn_Master), (xe_tc E 7, .object Rn_Message), (xe_tc E 8, .object Rn_Entry), (xe_tc E 9, .object Rn_Question), (xe_tc E 10, .object Rn_OnWay)]
-- the cells of the world
def xk_fs (K : xk) (ci a : Nat) : List Value := (List.range (xx_n ci)).map (fun k => if xx_r ci k = true then va_rf (xk_rv K ci k a) else .int (xk_iv K ci k a))
def xm_fs (E : xe) (M : xm) : List Value := (List.range xm_N).map (fun k => if k = xm_l then .int (M xm_l 0) else va_rf (some (xe_ad E k)))
def xk_X (E : xe) (K : xk) (M : xm) (a : Nat) : Option va_E :=
  if xk_kd K a = 0 then none else if xk_kd K a < 100 then some (.inr (xk_kd K a - 1, xk_fs K (xk_kd K a - 1) a))
  else if xk_kd K a < 150 then some (.inl (xe_tc E (xk_kd K a - 100), xk_ln K a, if xx_a (xk_kd K a - 100) = true then .inr (.inr (.inr (.inr (xk_ar K a)))) else .inl (xk_ai K a)))
  else if xk_kd K a = 150 then some (.inr (xm_c, xm_fs E M))
  else if xk_kd K a < 200 then none
  else some (.inl (xe_tc E (xm_t (xk_kd K a - 200)), xm_n (xk_kd K a - 200), .inl (M (xk_kd K a - 200))))
/-- the heap is as the world says; the reference's cells are where the world has them -/
def xk_W (E : xe) (K : xk) (M : xm) (H : Heap) : Prop :=
  H.size = xk_nx K ∧ xe_bs E ≤ xk_nx K ∧ (∀ (a : Nat) (e : va_E), xk_X E K M a = some e → xe_bs E ≤ a ∧ va_at (xe_D E) classes (a, e) H) ∧
  (∀ a k : Nat, xk_kd K a = 200 + k → a = xe_ad E k ∧ k ≠ xm_l) ∧ (∀ a : Nat, xk_kd K a = 150 → a = xe_om E) ∧ (xe_g E = true → xk_kd K (xe_om E) = 150 ∧ ∀ k, k < xm_N → k ≠ xm_l → xk_kd K (xe_ad E k) = 200 + k)
/-- the links to private constructors of nest mates -/
def xx_N (U : State) : Prop := (∀ q ∈ xw_q, va_Nw (.methodLinkNest q.1 q.2.1 q.2.2.1 q.2.2.2) U) ∧ ∀ Cn ∈ xw_o, va_AO Cn U
theorem xx_N.warm {s U : State} (h : xx_N s) (hW : s.WarmedH U.vm) : xx_N U := ⟨fun q hq => va_Nw.warmM hW (h.1 q hq), fun Cn hC => va_AO.moved hW.alike (h.2 Cn hC)⟩
theorem xx_N.same {s U : State} (h : xx_N s) (hv : s.vm = U.vm) : xx_N U := ⟨fun q hq => va_Nw.same rfl hv (h.1 q hq), fun Cn hC => va_AO.moved (by rw [hv]; exact Vm.Alike.refl _) (h.2 Cn hC)⟩
abbrev xx_B (E : xe) (K : xk) (M : xm) (U : State) : Prop := xk_W E K M U.heap ∧ va_K (xe_D E) classes (xx_tys E) U ∧ xx_N U
abbrev xx_C (p : Program) (m : MethodId) (c : Code) (cc : ByteArray) (nL : Nat) (s : State) (args : Array Value) (own : String) (E : xe) : Prop := CallFix p m c cc nL s args w_all own ∧ va_K (xe_D E) classes (xx_tys E) s ∧ xx_N s
abbrev xx_S (E : xe) (K : xk) (M : xm) (s : State) (H : Heap) (locs : List Loc) : Prop := xk_W E K M H ∧ va_S (xe_A E) s.heap H locs
/-- what is known of the class number ci: its name, fields, number of fields, types -/
abbrev xc_ok (ci : Nat) (Cn : String) (T : u_T) (N : Nat) (ty : Nat → FieldType) : Prop :=
  classes[ci]? = some (Cn, T, N) ∧ (∀ w ∈ u_ws Cn T N, w ∈ w_all) ∧ (∀ k, k < N → parseFieldDescriptor (T k).2.2.1 = some (ty k)) ∧ (∀ a, a < N → ∀ b, b < N → a ≠ b → (T a).2.1 ≠ (T b).2.1) ∧ (∀ k, k < N → (T k).1 = Cn)
theorem xk_Xo {E : xe} {K : xk} {M : xm} {a ci : Nat} (h : xk_kd K a = ci + 1) (hc : ci < 99) : xk_X E K M a = some (.inr (ci, xk_fs K ci a)) := by
  unfold xk_X
  rw [h, if_neg (by omega), if_pos (by omega)]
  rfl
theorem xk_Xa {E : xe} {K : xk} {M : xm} {a t : Nat} (h : xk_kd K a = 100 + t) (hc : t < 50) : xk_X E K M a = some (.inl (xe_tc E t, xk_ln K a, if xx_a t = true then .inr (.inr (.inr (.inr (xk_ar K a)))) else .inl (xk_ai K a))) := by
  unfold xk_X
  rw [h, if_neg (by omega), if_neg (by omega), if_pos (by omega), Nat.add_sub_cancel_left]
theorem xk_Xm {E : xe} {K : xk} {M : xm} {a k : Nat} (h : xk_kd K a = 200 + k) : xk_X E K M a = some (.inl (xe_tc E (xm_t k), xm_n k, .inl (M k))) := by
  unfold xk_X
  rw [h, if_neg (by omega), if_neg (by omega), if_neg (by omega), if_neg (by omega), if_neg (by omega), Nat.add_sub_cancel_left]
theorem xk_Xw {E : xe} {K : xk} {M : xm} {a : Nat} (h : xk_kd K a = 150) : xk_X E K M a = some (.inr (xm_c, xm_fs E M)) := by
  unfold xk_X
  rw [h, if_neg (by omega), if_neg (by omega), if_neg (by omega), if_pos rfl]
theorem xk_one {D : va_G} {a : Nat} {e : va_E} {H : Heap} (h : va_at D classes (a, e) H) : va_P D classes [(a, e)] H := by
  intro k q hk
  have hz : k < 1 := (List.getElem?_eq_some_iff.mp hk).1
  rw [show k = 0 by omega] at hk
  cases hk
  exact h
/-- one cell is written -/
theorem xk_W.st {E : xe} {K K' : xk} {M M' : xm} {H H1 : Heap} {a : Nat} {e' : va_E} (h : xk_W E K M H) (hX : ∀ b, b ≠ a → xk_X E K' M' b = xk_X E K M b) (hXa : xk_X E K' M' a = some e') (hk : xk_kd K' = xk_kd K) (hn : xk_nx K' = xk_nx K) (hb : xe_bs E ≤ a)
    (z : H1.size = H.size) (oq : ∀ q : Nat, q ≠ a → H1[q]? = H[q]?) (hat : va_at (xe_D E) classes (a, e') H1) : xk_W E K' M' H1 := by
  obtain ⟨h1, h2, h3, h4, h5, h6⟩ := h
  refine ⟨by rw [z, h1, hn], by rw [hn]; exact h2, fun b e he => ?_, by rw [hk]; exact h4, by rw [hk]; exact h5, by rw [hk]; exact h6⟩
  by_cases hba : b = a
  · subst hba
    rw [hXa] at he
    cases he
    exact ⟨hb, hat⟩
  · rw [hX b hba] at he
    obtain ⟨g1, g2⟩ := h3 b e he
    exact ⟨g1, g2.kept (oq b hba)⟩
theorem xk_W.lt {E : xe} {K : xk} {M : xm} {H : Heap} (h : xk_W E K M H) {a : Nat} {e : va_E} (he : xk_X E K M a = some e) : a < xk_nx K := by
  have := (h.2.2.1 a e he).2.lt
  rw [h.1] at this
  exact this
/-- one cell is new -/
theorem xk_W.nw {E : xe} {K : xk} {M : xm} {H H1 : Heap} {n len : Nat} {e' : va_E} (h : xk_W E K M H) (hn : n < 150) (hXa : xk_X E (xk_new K n len) M (xk_nx K) = some e') (z : H1.size = H.size + 1) (oq : ∀ q : Nat, q < H.size → H1[q]? = H[q]?) (hat : va_at (xe_D E) classes (xk_nx K, e') H1) : xk_W E (xk_new K n len) M H1 := by
  have hl := fun {a : Nat} {e : va_E} (he : xk_X E K M a = some e) => h.lt he
  obtain ⟨h1, h2, h3, h4, h5, h6⟩ := h
  have hk : ∀ b, b ≠ xk_nx K → xk_kd (xk_new K n len) b = xk_kd K b := fun b hb => by show (if b = xk_nx K then n else K.1 b) = _; rw [if_neg hb]; rfl
  have hs : xk_kd (xk_new K n len) (xk_nx K) = n := by show (if _ then n else _) = _; rw [if_pos rfl]
  have hX : ∀ b, b ≠ xk_nx K → xk_X E (xk_new K n len) M b = xk_X E K M b := fun b hb => by
    unfold xk_X
    rw [hk b hb]
    have e1 : ∀ ci, xk_fs (xk_new K n len) ci b = xk_fs K ci b := fun ci => by simp [xk_fs, xk_new, xk_rv, xk_iv, hb]
    have e2 : xk_ln (xk_new K n len) b = xk_ln K b := by simp [xk_new, xk_ln, hb]
    have e3 : xk_ai (xk_new K n len) b = xk_ai K b := by funext j; simp [xk_new, xk_ai, hb]
    have e4 : xk_ar (xk_new K n len) b = xk_ar K b := by funext j; simp [xk_new, xk_ar, hb]
    rw [e1, e2, e3, e4]
  refine ⟨by rw [z, h1]; rfl, Nat.le_trans h2 (Nat.le_succ _), fun b e he => ?_, fun a k ha => ?_, fun a ha => ?_, fun hg => ⟨?_, fun k hk1 hk2 => ?_⟩⟩
  · by_cases hb : b = xk_nx K
    · subst hb
      rw [hXa] at he
      cases he
      exact ⟨h2, hat⟩
    · rw [hX b hb] at he
      obtain ⟨g1, g2⟩ := h3 b e he
      exact ⟨g1, g2.kept (oq b g2.lt)⟩
  · by_cases hb : a = xk_nx K
    · subst hb; rw [hs] at ha; omega
    · rw [hk a hb] at ha; exact h4 a k ha
  · by_cases hb : a = xk_nx K
    · subst hb; rw [hs] at ha; omega
    · rw [hk a hb] at ha; exact h5 a ha
  · have := (h6 hg).1
    rw [hk _ (fun z => Nat.lt_irrefl _ (z ▸ hl (xk_Xw this)))]
    exact this
  · have := (h6 hg).2 k hk1 hk2
    rw [hk _ (fun z => Nat.lt_irrefl _ (z ▸ hl (xk_Xm this)))]
    exact this
-- a store's cells
theorem xk_fsI {K : xk} {ci k a : Nat} {v : Int32} (hr : xx_r ci k = false) : xk_fs (xk_sI K ci k a v) ci a = (xk_fs K ci a).set k (.int v) := by
  apply List.ext_getElem?
  intro j
  unfold xk_fs
  rw [List.getElem?_set, List.getElem?_map, List.getElem?_map]
  by_cases hj : k = j
  · subst hj
    by_cases hl : k < xx_n ci
    · simp [hl, hr, xk_sI, xk_iv]
    · simp [hl]
  · rw [if_neg hj]
    by_cases hl : j < xx_n ci
    · simp [hl, xk_sI, xk_iv, xk_rv, Ne.symm hj]
    · simp [hl]
theorem xk_fsR {K : xk} {ci k a : Nat} {v : Option Nat} (hr : xx_r ci k = true) : xk_fs (xk_sR K ci k a v) ci a = (xk_fs K ci a).set k (va_rf v) := by
  apply List.ext_getElem?
  intro j
  unfold xk_fs
  rw [List.getElem?_set, List.getElem?_map, List.getElem?_map]
  by_cases hj : k = j
  · subst hj
    by_cases hl : k < xx_n ci
    · simp [hl, hr, xk_sR, xk_rv]
    · simp [hl]
  · rw [if_neg hj]
    by_cases hl : j < xx_n ci
    · simp [hl, xk_sR, xk_iv, xk_rv, Ne.symm hj]
    · simp [hl]
theorem xk_XneI {E : xe} {K : xk} {M : xm} {ci k a : Nat} {v : Int32} : ∀ b, b ≠ a → xk_X E (xk_sI K ci k a v) M b = xk_X E K M b := fun b hb => by
  have e1 : ∀ ci', xk_fs (xk_sI K ci k a v) ci' b = xk_fs K ci' b := fun ci' => by simp [xk_fs, xk_sI, xk_rv, xk_iv, hb]
  unfold xk_X
  simp only [e1]
  rfl
theorem xk_XneR {E : xe} {K : xk} {M : xm} {ci k a : Nat} {v : Option Nat} : ∀ b, b ≠ a → xk_X E (xk_sR K ci k a v) M b = xk_X E K M b := fun b hb => by
  have e1 : ∀ ci', xk_fs (xk_sR K ci k a v) ci' b = xk_fs K ci' b := fun ci' => by simp [xk_fs, xk_sR, xk_rv, xk_iv, hb]
  unfold xk_X
  simp only [e1]
  rfl
theorem xk_XneTI {E : xe} {K : xk} {M : xm} {i a : Nat} {v : Int32} : ∀ b, b ≠ a → xk_X E (xk_tI K a i v) M b = xk_X E K M b := fun b hb => by
  have e1 : xk_ai (xk_tI K a i v) b = xk_ai K b := by funext j; simp [xk_tI, xk_ai, hb]
  unfold xk_X
  simp only [e1]
  rfl
theorem xk_XneTR {E : xe} {K : xk} {M : xm} {i a : Nat} {v : Option Nat} : ∀ b, b ≠ a → xk_X E (xk_tR K a i v) M b = xk_X E K M b := fun b hb => by
  have e1 : xk_ar (xk_tR K a i v) b = xk_ar K b := by funext j; simp [xk_tR, xk_ar, hb]
  unfold xk_X
  simp only [e1]
  rfl
theorem xc_ES : xc_ok 0 Rn_ES Tn_ES 6 tn_ES := ⟨rfl, xl_ES, xt_ES, xn_ES, xd_ES⟩
theorem xc_Coordinator : xc_ok 1 Rn_Coordinator Tn_Coordinator 2 tn_Coordinator := ⟨rfl, xl_Coordinator, xt_Coordinator, xn_Coordinator, xd_Coordinator⟩
theorem xc_Writes : xc_ok 2 Rn_Writes Tn_Writes 2 tn_Writes := ⟨rfl, xl_Writes, xt_Writes, xn_Writes, xd_Writes⟩
theorem xc_Entry : xc_ok 3 Rn_Entry Tn_Entry 3 tn_Entry := ⟨rfl, xl_Entry, xt_Entry, xn_Entry, xd_Entry⟩
theorem xc_Message : xc_ok 4 Rn_Message Tn_Message 10 tn_Message := ⟨rfl, xl_Message, xt_Message, xn_Message, xd_Message⟩
theorem xc_Line : xc_ok 5 Rn_Line Tn_Line 3 tn_Line := ⟨rfl, xl_Line, xt_Line, xn_Line, xd_Line⟩
theorem xc_Question : xc_ok 6 Rn_Question Tn_Question 4 tn_Question := ⟨rfl, xl_Question, xt_Question, xn_Question, xd_Question⟩
theorem xc_OnWay : xc_ok 7 Rn_OnWay Tn_OnWay 4 tn_OnWay := ⟨rfl, xl_OnWay, xt_OnWay, xn_OnWay, xd_OnWay⟩
theorem xc_Master : xc_ok 8 Rn_Master Tn_Master 12 tn_Master := ⟨rfl, xl_Master, xt_Master, xn_Master, xd_Master⟩
theorem xc_Log : xc_ok 9 Rn_Log Tn_Log 7 tn_Log := ⟨rfl, xl_Log, xt_Log, xn_Log, xd_Log⟩
theorem xc_Storage : xc_ok 10 Rn_Storage Tn_Storage 6 tn_Storage := ⟨rfl, xl_Storage, xt_Storage, xn_Storage, xd_Storage⟩
theorem xc_Client : xc_ok 11 Rn_Client Tn_Client 9 tn_Client := ⟨rfl, xl_Client, xt_Client, xn_Client, xd_Client⟩
theorem xc_EM : xc_ok 12 Rn_EM Tn_EM 56 tn_EM := ⟨rfl, xl_EM, xt_EM, xn_EM, xd_EM⟩
