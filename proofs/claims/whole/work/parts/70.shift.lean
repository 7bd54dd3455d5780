-- a world moved up by B addresses: the constructors are run once, at 0, and moved
def xk_sh (K : xk) (B : Nat) : xk := (fun a => if a < B then 0 else xk_kd K (a - B), fun a => if a < B then 0 else xk_ln K (a - B), fun c j a => if a < B then 0 else xk_iv K c j (a - B), fun c j a => if a < B then none else (xk_rv K c j (a - B)).map (· + B), fun a j => if a < B then 0 else xk_ai K (a - B) j, fun a j => if a < B then none else (xk_ar K (a - B) j).map (· + B), xk_nx K + B)
theorem kd_sh (K : xk) (B q : Nat) : xk_kd (xk_sh K B) (q + B) = xk_kd K q := by show (if q + B < B then _ else _) = _; rw [if_neg (by omega), Nat.add_sub_cancel]
theorem ln_sh (K : xk) (B q : Nat) : xk_ln (xk_sh K B) (q + B) = xk_ln K q := by show (if q + B < B then _ else _) = _; rw [if_neg (by omega), Nat.add_sub_cancel]
theorem iv_sh (K : xk) (B q c j : Nat) : xk_iv (xk_sh K B) c j (q + B) = xk_iv K c j q := by show (if q + B < B then _ else _) = _; rw [if_neg (by omega), Nat.add_sub_cancel]
theorem rv_sh (K : xk) (B q c j : Nat) : xk_rv (xk_sh K B) c j (q + B) = (xk_rv K c j q).map (· + B) := by show (if q + B < B then _ else _) = _; rw [if_neg (by omega), Nat.add_sub_cancel]
theorem ai_sh (K : xk) (B q j : Nat) : xk_ai (xk_sh K B) (q + B) j = xk_ai K q j := by show (if q + B < B then _ else _) = _; rw [if_neg (by omega), Nat.add_sub_cancel]
theorem ar_sh (K : xk) (B q j : Nat) : xk_ar (xk_sh K B) (q + B) j = (xk_ar K q j).map (· + B) := by show (if q + B < B then _ else _) = _; rw [if_neg (by omega), Nat.add_sub_cancel]
theorem nx_sh (K : xk) (B : Nat) : xk_nx (xk_sh K B) = xk_nx K + B := rfl
theorem sh_if {α : Type} {b B q : Nat} {P : Prop} [Decidable P] (v d f : α) : (if b = q + B ∧ P then v else if b < B then d else f) = if b < B then d else if b - B = q ∧ P then v else f := by
  by_cases hb : b < B
  · rw [if_pos hb, if_pos hb, if_neg (fun h => by omega)]
  · rw [if_neg hb, if_neg hb]
    by_cases hq : b = q + B
    · have : b - B = q := by omega
      simp [hq]
    · have : ¬ b - B = q := by omega
      simp [hq, this]
theorem sh_ifc {α : Type} {b B q c ci j k : Nat} (v d f : α) : (if c = ci ∧ j = k ∧ b = q + B then v else if b < B then d else f) = if b < B then d else if c = ci ∧ j = k ∧ b - B = q then v else f := by
  by_cases hb : b < B
  · rw [if_pos hb, if_pos hb, if_neg (fun h => by omega)]
  · rw [if_neg hb, if_neg hb]
    by_cases hq : b = q + B
    · have : b - B = q := by omega
      simp [hq]
    · have : ¬ b - B = q := by omega
      simp [hq, this]
theorem sI_sh (K : xk) (B ci k q : Nat) (v : Int32) : xk_sI (xk_sh K B) ci k (q + B) v = xk_sh (xk_sI K ci k q v) B := by
  have h : (fun c j b => if c = ci ∧ j = k ∧ b = q + B then v else (xk_sh K B).2.2.1 c j b) = (xk_sh (xk_sI K ci k q v) B).2.2.1 := by
    funext c j b
    exact sh_ifc v 0 (xk_iv K c j (b - B))
  show ((xk_sh K B).1, (xk_sh K B).2.1, _, (xk_sh K B).2.2.2) = _
  rw [h]
  rfl
theorem sR_sh (K : xk) (B ci k q : Nat) (v : Option Nat) : xk_sR (xk_sh K B) ci k (q + B) (v.map (· + B)) = xk_sh (xk_sR K ci k q v) B := by
  have h : (fun c j b => if c = ci ∧ j = k ∧ b = q + B then v.map (· + B) else (xk_sh K B).2.2.2.1 c j b) = (xk_sh (xk_sR K ci k q v) B).2.2.2.1 := by
    funext c j b
    refine (sh_ifc (v.map (· + B)) none ((xk_rv K c j (b - B)).map (· + B))).trans ?_
    show _ = if b < B then none else (if c = ci ∧ j = k ∧ b - B = q then v else xk_rv K c j (b - B)).map (· + B)
    split
    · rfl
    · split <;> rfl
  show ((xk_sh K B).1, (xk_sh K B).2.1, (xk_sh K B).2.2.1, _, (xk_sh K B).2.2.2.2) = _
  rw [h]
  rfl
theorem tI_sh (K : xk) (B q i : Nat) (v : Int32) : xk_tI (xk_sh K B) (q + B) i v = xk_sh (xk_tI K q i v) B := by
  have h : (fun b j => if b = q + B ∧ j = i then v else (xk_sh K B).2.2.2.2.1 b j) = (xk_sh (xk_tI K q i v) B).2.2.2.2.1 := by
    funext b j
    exact sh_if v 0 (xk_ai K (b - B) j)
  show ((xk_sh K B).1, (xk_sh K B).2.1, (xk_sh K B).2.2.1, (xk_sh K B).2.2.2.1, _, (xk_sh K B).2.2.2.2.2) = _
  rw [h]
  rfl
theorem tR_sh (K : xk) (B q i : Nat) (v : Option Nat) : xk_tR (xk_sh K B) (q + B) i (v.map (· + B)) = xk_sh (xk_tR K q i v) B := by
  have h : (fun b j => if b = q + B ∧ j = i then v.map (· + B) else (xk_sh K B).2.2.2.2.2.1 b j) = (xk_sh (xk_tR K q i v) B).2.2.2.2.2.1 := by
    funext b j
    refine (sh_if (v.map (· + B)) none ((xk_ar K (b - B) j).map (· + B))).trans ?_
    show _ = if b < B then none else (if b - B = q ∧ j = i then v else xk_ar K (b - B) j).map (· + B)
    split
    · rfl
    · split <;> rfl
  show ((xk_sh K B).1, (xk_sh K B).2.1, (xk_sh K B).2.2.1, (xk_sh K B).2.2.2.1, (xk_sh K B).2.2.2.2.1, _, (xk_sh K B).2.2.2.2.2.2) = _
  rw [h]
  rfl
theorem sh_ifn {α : Type} {b B q : Nat} (v d f : α) : (if b = q + B then v else if b < B then d else f) = if b < B then d else if b - B = q then v else f := by
  have := sh_if (P := True) (b := b) (B := B) (q := q) v d f
  simpa using this
theorem new_sh (K : xk) (B n len : Nat) : xk_new (xk_sh K B) n len = xk_sh (xk_new K n len) B := by
  have h1 : (fun b => if b = xk_nx K + B then n else (xk_sh K B).1 b) = (xk_sh (xk_new K n len) B).1 := by funext b; exact sh_ifn n 0 _
  have h2 : (fun b => if b = xk_nx K + B then len else (xk_sh K B).2.1 b) = (xk_sh (xk_new K n len) B).2.1 := by funext b; exact sh_ifn len 0 _
  have h3 : (fun c j b => if b = xk_nx K + B then (0 : Int32) else (xk_sh K B).2.2.1 c j b) = (xk_sh (xk_new K n len) B).2.2.1 := by funext c j b; exact sh_ifn 0 0 _
  have h4 : (fun c j b => if b = xk_nx K + B then (none : Option Nat) else (xk_sh K B).2.2.2.1 c j b) = (xk_sh (xk_new K n len) B).2.2.2.1 := by
    funext c j b
    refine (sh_ifn none none ((xk_rv K c j (b - B)).map (· + B))).trans ?_
    show _ = if b < B then none else (if b - B = xk_nx K then none else xk_rv K c j (b - B)).map (· + B)
    split
    · rfl
    · split <;> rfl
  have h5 : (fun b j => if b = xk_nx K + B then (0 : Int32) else (xk_sh K B).2.2.2.2.1 b j) = (xk_sh (xk_new K n len) B).2.2.2.2.1 := by funext b j; exact sh_ifn 0 0 _
  have h6 : (fun b j => if b = xk_nx K + B then (none : Option Nat) else (xk_sh K B).2.2.2.2.2.1 b j) = (xk_sh (xk_new K n len) B).2.2.2.2.2.1 := by
    funext b j
    refine (sh_ifn none none ((xk_ar K (b - B) j).map (· + B))).trans ?_
    show _ = if b < B then none else (if b - B = xk_nx K then none else xk_ar K (b - B) j).map (· + B)
    split
    · rfl
    · split <;> rfl
  show (_, _, _, _, _, _, xk_nx K + B + 1) = _
  have h7 : xk_nx K + B + 1 = xk_nx (xk_new K n len) + B := by show _ = xk_nx K + 1 + B; omega
  rw [h7]
  exact Prod.ext h1 (Prod.ext h2 (Prod.ext h3 (Prod.ext h4 (Prod.ext h5 (Prod.ext h6 rfl)))))
theorem xI_sh (K : xk) (B ci k q : Nat) : xI (xk_sh K B) ci k (q + B) = xI K ci k q := by unfold xI; rw [kd_sh, iv_sh]
theorem xR_sh (K : xk) (B ci k q : Nat) : xR (xk_sh K B) ci k (q + B) = (xR K ci k q).map (Option.map (· + B)) := by
  unfold xR; rw [kd_sh, rv_sh]; split <;> rfl
theorem xIs_sh (K : xk) (B ci k q : Nat) (v : Int32) : xIs (xk_sh K B) ci k (q + B) v = (xIs K ci k q v).map (fun z => xk_sh z B) := by
  unfold xIs; rw [kd_sh, sI_sh]; split <;> rfl
theorem xZs_sh (K : xk) (B ci k q : Nat) (v : Int32) : xZs (xk_sh K B) ci k (q + B) v = (xZs K ci k q v).map (fun z => xk_sh z B) := by
  unfold xZs; rw [kd_sh, sI_sh]; split <;> rfl
theorem xRs_sh (K : xk) (B ci k q : Nat) (v : Option Nat) : xRs (xk_sh K B) ci k (q + B) (v.map (· + B)) = (xRs K ci k q v).map (fun z => xk_sh z B) := by
  unfold xRs; rw [kd_sh, sR_sh]; split <;> rfl
theorem xRs_shs (K : xk) (B ci k q v : Nat) : xRs (xk_sh K B) ci k (q + B) (some (v + B)) = (xRs K ci k q (some v)).map (fun z => xk_sh z B) := xRs_sh K B ci k q (some v)
theorem xRs_shn (K : xk) (B ci k q : Nat) : xRs (xk_sh K B) ci k (q + B) none = (xRs K ci k q none).map (fun z => xk_sh z B) := xRs_sh K B ci k q none
theorem xIa_sh (K : xk) (B t q : Nat) (i : Int32) : xIa (xk_sh K B) t (q + B) i = xIa K t q i := by unfold xIa; rw [kd_sh, ln_sh, ai_sh]
theorem xRa_sh (K : xk) (B t q : Nat) (i : Int32) : xRa (xk_sh K B) t (q + B) i = (xRa K t q i).map (Option.map (· + B)) := by
  unfold xRa; rw [kd_sh, ln_sh, ar_sh]; split <;> rfl
theorem xIt_sh (K : xk) (B t q : Nat) (i v : Int32) : xIt (xk_sh K B) t (q + B) i v = (xIt K t q i v).map (fun z => xk_sh z B) := by
  unfold xIt; rw [kd_sh, ln_sh, tI_sh]; split <;> rfl
theorem xZt_sh (K : xk) (B t q : Nat) (i v : Int32) : xZt (xk_sh K B) t (q + B) i v = (xZt K t q i v).map (fun z => xk_sh z B) := by
  unfold xZt; rw [kd_sh, ln_sh, tI_sh]; split <;> rfl
theorem xRt_sh (K : xk) (B t ci q : Nat) (i : Int32) (v : Option Nat) : xRt (xk_sh K B) t ci (q + B) i (v.map (· + B)) = (xRt K t ci q i v).map (fun z => xk_sh z B) := by
  have e : (v.map (· + B)).elim (ci + 1) (xk_kd (xk_sh K B)) = v.elim (ci + 1) (xk_kd K) := by
    cases v with
    | none => rfl
    | some y => exact kd_sh K B y
  unfold xRt; rw [kd_sh, ln_sh, tR_sh, e]; split <;> rfl
theorem xRt_shs (K : xk) (B t ci q v : Nat) (i : Int32) : xRt (xk_sh K B) t ci (q + B) i (some (v + B)) = (xRt K t ci q i (some v)).map (fun z => xk_sh z B) := xRt_sh K B t ci q i (some v)
theorem xNw_sh (K : xk) (B n len : Nat) : xNw (xk_sh K B) n len = (xNw K n len).map (fun z => (z.1 + B, xk_sh z.2 B)) := by
  unfold xNw; rw [new_sh]; rfl
theorem xp_sh {γ : Type} (x : Option (Nat × xk)) (B : Nat) (f : Nat → xk → Option γ) : xp (x.map (fun z => (z.1 + B, xk_sh z.2 B))) f = xp x (fun a b => f (a + B) (xk_sh b B)) := by
  cases x <;> rfl
theorem xb_map {α β γ : Type} (x : Option α) (g : α → β) (f : β → Option γ) : (x.map g).bind f = x.bind (fun a => f (g a)) := by cases x <;> rfl
theorem xm_bind {α β γ : Type} (x : Option α) (f : α → Option β) (g : β → γ) : (x.bind f).map g = x.bind (fun a => (f a).map g) := by cases x <;> rfl
theorem xm_xp {β γ : Type} (x : Option (Nat × xk)) (f : Nat → xk → Option β) (g : β → γ) : (xp x f).map g = xp x (fun a b => (f a b).map g) := by cases x <;> rfl
theorem xm_some {α β : Type} (x : α) (g : α → β) : (some x).map g = some (g x) := rfl
theorem xm_ite {α β : Type} {P : Prop} [Decidable P] (x y : Option α) (g : α → β) : (if P then x else y).map g = if P then x.map g else y.map g := by split <;> rfl
