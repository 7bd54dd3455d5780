section
-- a message object's fields, and a row of the reference's line, as a whole
def mg (K : xk) (a : Nat) (f : Nat → Int32) (g : Nat → Option Nat) : xk := (K.1, K.2.1, fun c j b => if c = 4 ∧ b = a then f j else K.2.2.1 c j b, fun c j b => if c = 4 ∧ b = a then g j else K.2.2.2.1 c j b, K.2.2.2.2)
def mm (M : xm) (m : Nat) (h ct : Nat → Int32) : xm := fun c j => if (48 ≤ c ∧ c ≤ 54) ∧ j = m then h c else if c = 55 ∧ 8 * m ≤ j ∧ j < 8 * m + 8 then ct (j - 8 * m) else M c j
theorem mg_iv (K : xk) (a : Nat) (f : Nat → Int32) (g : Nat → Option Nat) (c j b : Nat) : xk_iv (mg K a f g) c j b = if c = 4 ∧ b = a then f j else xk_iv K c j b := rfl
theorem mg_rv (K : xk) (a : Nat) (f : Nat → Int32) (g : Nat → Option Nat) (c j b : Nat) : xk_rv (mg K a f g) c j b = if c = 4 ∧ b = a then g j else xk_rv K c j b := rfl
theorem mm_get (M : xm) (m : Nat) (h ct : Nat → Int32) (c j : Nat) : mm M m h ct c j = if (48 ≤ c ∧ c ≤ 54) ∧ j = m then h c else if c = 55 ∧ 8 * m ≤ j ∧ j < 8 * m + 8 then ct (j - 8 * m) else M c j := rfl
theorem xk_ext {K K' : xk} (h1 : ∀ a, xk_kd K a = xk_kd K' a) (h2 : ∀ a, xk_ln K a = xk_ln K' a) (h3 : ∀ c j a, xk_iv K c j a = xk_iv K' c j a) (h4 : ∀ c j a, xk_rv K c j a = xk_rv K' c j a) (h5 : ∀ a j, xk_ai K a j = xk_ai K' a j) (h6 : ∀ a j, xk_ar K a j = xk_ar K' a j) (h7 : xk_nx K = xk_nx K') : K = K' :=
  Prod.ext (funext h1) (Prod.ext (funext h2) (Prod.ext (funext fun c => funext fun j => funext fun a => h3 c j a) (Prod.ext (funext fun c => funext fun j => funext fun a => h4 c j a) (Prod.ext (funext fun a => funext fun j => h5 a j) (Prod.ext (funext fun a => funext fun j => h6 a j) h7)))))
theorem mg_self (K : xk) (a : Nat) : mg K a (fun j => xk_iv K 4 j a) (fun j => xk_rv K 4 j a) = K := by
  refine xk_ext (fun _ => rfl) (fun _ => rfl) (fun c j b => ?_) (fun c j b => ?_) (fun _ _ => rfl) (fun _ _ => rfl) rfl
  · rw [mg_iv]
    by_cases h : c = 4 ∧ b = a
    · rw [if_pos h, h.1, h.2]
    · rw [if_neg h]
  · rw [mg_rv]
    by_cases h : c = 4 ∧ b = a
    · rw [if_pos h, h.1, h.2]
    · rw [if_neg h]
theorem mg_sI (K : xk) (a : Nat) (f : Nat → Int32) (g : Nat → Option Nat) (k : Nat) (v : Int32) : xk_sI (mg K a f g) 4 k a v = mg K a (fun i => if i = k then v else f i) g := by
  refine xk_ext (fun _ => rfl) (fun _ => rfl) (fun c j b => ?_) (fun c j b => rfl) (fun _ _ => rfl) (fun _ _ => rfl) rfl
  rw [sI_get, mg_iv, mg_iv]
  by_cases h : c = 4 ∧ b = a
  · rw [if_pos h, if_pos h]
    by_cases hj : j = k
    · rw [if_pos ⟨h.1, hj, h.2⟩, if_pos hj]
    · rw [if_neg (fun z => hj z.2.1), if_neg hj]
  · rw [if_neg h, if_neg h, if_neg (fun z => h ⟨z.1, z.2.2⟩)]
theorem mg_sR (K : xk) (a : Nat) (f : Nat → Int32) (g : Nat → Option Nat) (k : Nat) (v : Option Nat) : xk_sR (mg K a f g) 4 k a v = mg K a f (fun i => if i = k then v else g i) := by
  refine xk_ext (fun _ => rfl) (fun _ => rfl) (fun c j b => rfl) (fun c j b => ?_) (fun _ _ => rfl) (fun _ _ => rfl) rfl
  rw [sR_get, mg_rv, mg_rv]
  by_cases h : c = 4 ∧ b = a
  · rw [if_pos h, if_pos h]
    by_cases hj : j = k
    · rw [if_pos ⟨h.1, hj, h.2⟩, if_pos hj]
    · rw [if_neg (fun z => hj z.2.1), if_neg hj]
  · rw [if_neg h, if_neg h, if_neg (fun z => h ⟨z.1, z.2.2⟩)]
theorem mm_self (M : xm) (m : Nat) : mm M m (fun c => M c m) (fun x => M 55 (8 * m + x)) = M := by
  funext c j
  rw [mm_get]
  by_cases h : (48 ≤ c ∧ c ≤ 54) ∧ j = m
  · rw [if_pos h, h.2]
  · rw [if_neg h]
    by_cases h2 : c = 55 ∧ 8 * m ≤ j ∧ j < 8 * m + 8
    · rw [if_pos h2, h2.1]
      congr 1
      omega
    · rw [if_neg h2]
theorem mm_s (M : xm) (m : Nat) (h ct : Nat → Int32) {k : Nat} (hk : 48 ≤ k ∧ k ≤ 54) (v : Int32) : xm_s (mm M m h ct) k m v = mm M m (fun i => if i = k then v else h i) ct := by
  funext c j
  rw [ms_get, mm_get, mm_get]
  by_cases h1 : (48 ≤ c ∧ c ≤ 54) ∧ j = m
  · rw [if_pos h1, if_pos h1]
    by_cases hc : c = k
    · rw [if_pos ⟨hc, h1.2⟩, if_pos hc]
    · rw [if_neg (fun z => hc z.1), if_neg hc]
  · rw [if_neg h1, if_neg h1, if_neg (fun z => h1 ⟨by rw [z.1]; exact hk, z.2⟩)]
theorem mm_cb (M : xm) (m : Nat) (h ct : Nat → Int32) {s p : Nat} (hs : s < 48) : cb_L (mm M m h ct) s p 55 m 8 = mm M m h (fun x => M s (8 * p + x)) := by
  funext c j
  unfold cb_L
  rw [mm_get, mm_get, mm_get]
  by_cases h1 : (48 ≤ c ∧ c ≤ 54) ∧ j = m
  · rw [if_neg (fun z => by omega), if_pos h1, if_pos h1]
  · rw [if_neg h1, if_neg h1]
    by_cases h2 : c = 55 ∧ 8 * m ≤ j ∧ j < 8 * m + 8
    · rw [if_pos h2, if_pos h2, if_neg (fun z => by omega), if_neg (fun z => by omega)]
    · rw [if_neg h2, if_neg h2, if_neg h2]
def rs_f (t n e : Int32) (f : Nat → Int32) : Nat → Int32 := fun i => if i = 7 then 0 else if i = 6 then 0 else if i = 5 then 0 else if i = 4 then 0 else if i = 3 then 0 else if i = 2 then e else if i = 1 then n else if i = 0 then t else f i
def rs_g (g : Nat → Option Nat) : Nat → Option Nat := fun i => if i = 9 then none else if i = 8 then none else g i
theorem rs_mg (K : xk) (a : Nat) (t n e : Int32) : rs_K K a t n e = mg K a (rs_f t n e (fun j => xk_iv K 4 j a)) (rs_g (fun j => xk_rv K 4 j a)) := by
  unfold rs_K
  conv => lhs; rw [← mg_self K a]
  rw [mg_sI, mg_sI, mg_sI, mg_sI, mg_sI, mg_sI, mg_sI, mg_sI, mg_sR, mg_sR]
  rfl
def sd_h (t w e v n : Int32) (h : Nat → Int32) : Nat → Int32 := fun i => if i = 54 then 0 else if i = 53 then 0 else if i = 52 then n else if i = 51 then v else if i = 50 then e else if i = 49 then w else if i = 48 then t else h i
theorem sd_mm (M : xm) (m : Nat) (t w e v n : Int32) : sd_M M m t w e v n = mm M m (sd_h t w e v n (fun c => M c m)) (fun x => M 55 (8 * m + x)) := by
  unfold sd_M
  conv => lhs; rw [← mm_self M m]
  rw [mm_s _ _ _ _ (by omega), mm_s _ _ _ _ (by omega), mm_s _ _ _ _ (by omega), mm_s _ _ _ _ (by omega), mm_s _ _ _ _ (by omega), mm_s _ _ _ _ (by omega), mm_s _ _ _ _ (by omega)]
  rfl
theorem cN_ext {t s : Nat → Int32} : ∀ {c : Nat}, (∀ k, k < c → t k = s k) → cN t c = cN s c := by
  intro c
  induction c with
  | zero => intro _; rfl
  | succ c ih =>
    intro h
    show cN t c + _ = cN s c + _
    rw [ih (fun k hk => h k (by omega)), h c (by omega)]
theorem wr_cg {K : xk} {w : Nat} {m : Int32} {f g : Nat → Int32} (h : wr K w m f) (hx : ∀ x, x < 8 → f x = g x) : wr K w m g := by
  obtain ⟨r1, r2, r3, r4, r5, r6⟩ := h
  exact ⟨r1, r2, r3, r4, r5, fun x hx' hb => (r6 x hx' hb).trans (hx x hx')⟩
theorem en_cg {K : xk} {fz : Nat → Prop} {V : List Int32} {a : Nat} {v b m : Int32} {f g : Nat → Int32} (h : en K fz V a v b m f) (hx : ∀ x, x < 8 → f x = g x) : en K fz V a v b m g := by
  obtain ⟨e1, e2, e3, e4, w, e5, e6, e7⟩ := h
  exact ⟨e1, e2, e3, e4, w, e5, e6, wr_cg e7 hx⟩
theorem mv_cg {K : xk} {M : xm} {fz : Nat → Prop} {V : List Int32} {E : Nat} {f f' : Nat → Int32} {g g' : Nat → Option Nat} {h h' ct ct' : Nat → Int32} (H : mv K M fz V E f g h ct) (hf : ∀ j, f j = f' j) (hg : ∀ j, g j = g' j) (hh : ∀ j, 48 ≤ j → j ≤ 54 → h j = h' j) (hx : ∀ x, x < 8 → ct x = ct' x) : mv K M fz V E f' g' h' ct' := by
  cases funext hf
  cases funext hg
  unfold mv mb at H ⊢
  rw [← hh 48 (by omega) (by omega), ← hh 49 (by omega) (by omega), ← hh 50 (by omega) (by omega), ← hh 51 (by omega) (by omega), ← hh 52 (by omega) (by omega), ← hh 53 (by omega) (by omega), ← hh 54 (by omega) (by omega)]
  obtain ⟨a1, a2, a3, a4, a5, a6, a7⟩ := H
  refine ⟨a1, a2, a3, a4, a5, a6, ?_⟩
  rcases a7 with t | t | t | t | ⟨t1, t2, t3, w, t4, t5, t6⟩ | ⟨t1, a, t2, t3⟩ | t | t
  · exact Or.inl t
  · exact Or.inr (Or.inl t)
  · exact Or.inr (Or.inr (Or.inl t))
  · exact Or.inr (Or.inr (Or.inr (Or.inl t)))
  · exact Or.inr (Or.inr (Or.inr (Or.inr (Or.inl ⟨t1, t2, t3, w, t4, t5, wr_cg t6 hx⟩))))
  · exact Or.inr (Or.inr (Or.inr (Or.inr (Or.inr (Or.inl ⟨t1, a, t2, en_cg t3 hx⟩)))))
  · exact Or.inr (Or.inr (Or.inr (Or.inr (Or.inr (Or.inr (Or.inl t))))))
  · exact Or.inr (Or.inr (Or.inr (Or.inr (Or.inr (Or.inr (Or.inr t))))))
variable {B : Nat} {fz : Nat → Prop} {V : List Int32} {E P : Nat} {D : Nat → Nat} {c : Nat} {R : Nat → Nat} {n : Nat} {K : xk} {M : xm}
theorem ap_room {m : Nat} {f : Nat → Int32} {g : Nat → Option Nat} {h' ct : Nat → Int32} (h : iA B fz V E P D c R n K M) (hc : c < 24) (hv : mv K M fz V E f g h' ct) (hm : n + (if h' 48 = 5 then 4 else 0) ≤ m) :
    iA B fz V E P D (c + 1) R m (mg (xk_sI K 5 2 (6 + B) (nI (c + 1))) (R c) f g) (mm (xm_s M xm_l 0 (nI (c + 1))) c h' ct) := by
  obtain ⟨x0, o0, c0, l0, t0, u0, b0, L0, T0, U0, m0, q0, y0, dq, dy, ⟨s1, s2, s3, s4, s5, s6, s7, s8, s9, s10⟩, ⟨g1, g2⟩, e0, n0⟩ := h
  refine ⟨x0, o0, c0, l0, t0, u0, b0, L0, T0, U0, m0, q0, y0, dq, dy, ⟨s1, s2, s3, s4, s5, s6, hc, ?_, s9, s10⟩, ⟨?_, fun k hk => ?_⟩, e0, ?_⟩
  · exact sI_at K 5 2 (6 + B) (nI (c + 1))
  · exact ms_at M xm_l 0 (nI (c + 1))
  · by_cases q : k = c
    · subst q
      refine mv_cg (f := f) (g := g) (h := h') (ct := ct) (by exact hv) (fun j => ?_) (fun j => ?_) (fun j j1 j2 => ?_) (fun x hx => ?_)
      · rw [mg_iv, if_pos ⟨rfl, rfl⟩]
      · rw [mg_rv, if_pos ⟨rfl, rfl⟩]
      · rw [mm_get, if_pos ⟨⟨j1, j2⟩, rfl⟩]
      · rw [mm_get, if_neg (fun z => by omega), if_pos ⟨rfl, by omega, by omega⟩, Nat.add_sub_cancel_left]
    · have hne : R k ≠ R c := fun z => q (s10 k c (by omega) (by omega) z)
      refine mv_cg (f := fun j => xk_iv K 4 j (R k)) (g := fun j => xk_rv K 4 j (R k)) (h := fun j => M j k) (ct := fun x => M 55 (8 * k + x)) (by exact g2 k (by omega)) (fun j => ?_) (fun j => ?_) (fun j j1 j2 => ?_) (fun x hx => ?_)
      · rw [mg_iv, if_neg (fun z => hne z.2)]; rfl
      · rw [mg_rv, if_neg (fun z => hne z.2)]; rfl
      · rw [mm_get, if_neg (fun z => q z.2), if_neg (fun z => by omega), ms_get, if_neg (fun z => by rw [show xm_l = 47 from rfl] at z; omega)]
      · rw [mm_get, if_neg (fun z => by omega), if_neg (fun z => by omega)]; rfl
  · unfold jN at n0 ⊢
    have e1 : cN ((mm (xm_s M xm_l 0 (nI (c + 1))) c h' ct) 48) (c + 1) = cN (M 48) c + (if h' 48 = 5 then 1 else 0) := by
      have e2 : mm (xm_s M xm_l 0 (nI (c + 1))) c h' ct 48 c = h' 48 := by rw [mm_get, if_pos ⟨⟨by decide, by decide⟩, rfl⟩]
      have e3 : cN ((mm (xm_s M xm_l 0 (nI (c + 1))) c h' ct) 48) c = cN (M 48) c := cN_ext (fun k hk => by rw [mm_get, if_neg (fun z => by omega), if_neg (fun z => by omega)]; rfl)
      show cN _ c + _ = _
      rw [e2, e3]
    rw [e1]
    show 5 * V.length + P + (ph (M 40 0) (M 44 0) + ph (M 40 1) (M 44 1) + ph (M 40 2) (M 44 2)) + 4 * (cN (M 48) c + (if h' 48 = 5 then 1 else 0)) ≤ m
    split at hm
    · rename_i q; rw [if_pos q]; omega
    · rename_i q; rw [if_neg q]; omega
theorem ap_full {f : Nat → Int32} {g : Nat → Option Nat} {h' ct : Nat → Int32} (h : iA B fz V E P D c R n K M) (hc : c = 24) : iA B fz V E P D c R n (mg K (8 + B) f g) (mm M 24 h' ct) := by
  obtain ⟨x0, o0, c0, l0, t0, u0, b0, L0, T0, U0, m0, q0, y0, dq, dy, ⟨s1, s2, s3, s4, s5, s6, s7, s8, s9, s10⟩, ⟨g1, g2⟩, e0, n0⟩ := h
  subst hc
  refine ⟨x0, o0, c0, l0, t0, u0, b0, L0, T0, U0, m0, q0, y0, dq, dy, ⟨s1, s2, s3, s4, s5, s6, s7, s8, s9, s10⟩, ⟨g1, fun k hk => ?_⟩, e0, ?_⟩
  · have hne : R k ≠ 8 + B := (s9 k (by omega)).2.2
    refine mv_cg (f := fun j => xk_iv K 4 j (R k)) (g := fun j => xk_rv K 4 j (R k)) (h := fun j => M j k) (ct := fun x => M 55 (8 * k + x)) (by exact g2 k hk) (fun j => ?_) (fun j => ?_) (fun j j1 j2 => ?_) (fun x hx => ?_)
    · rw [mg_iv, if_neg (fun z => hne z.2)]
    · rw [mg_rv, if_neg (fun z => hne z.2)]
    · rw [mm_get, if_neg (fun z => by omega), if_neg (fun z => by omega)]
    · rw [mm_get, if_neg (fun z => by omega), if_neg (fun z => by omega)]
  · unfold jN at n0 ⊢
    have e1 : cN ((mm M 24 h' ct) 48) 24 = cN (M 48) 24 := cN_ext (fun k hk => by rw [mm_get, if_neg (fun z => by omega), if_neg (fun z => by omega)])
    rw [e1]
    exact n0
end
section
/-- only the line and its messages have changed, and not the message that was taken -/
def sf (r : Nat) (K K' : xk) (M M' : xm) : Prop := xk_kd K' = xk_kd K ∧ xk_ln K' = xk_ln K ∧ (∀ c j b, c ≠ 4 → c ≠ 5 → xk_iv K' c j b = xk_iv K c j b) ∧ (∀ c j b, c ≠ 4 → xk_rv K' c j b = xk_rv K c j b) ∧ xk_ai K' = xk_ai K ∧ xk_ar K' = xk_ar K ∧ xk_nx K' = xk_nx K ∧ (∀ f, f < 47 → M' f = M f) ∧ (∀ j, xk_iv K' 4 j r = xk_iv K 4 j r) ∧ ∀ j, xk_rv K' 4 j r = xk_rv K 4 j r
theorem sf_rf {r : Nat} {K : xk} {M : xm} : sf r K K M M := ⟨rfl, rfl, fun _ _ _ _ _ => rfl, fun _ _ _ _ => rfl, rfl, rfl, rfl, fun _ _ => rfl, fun _ => rfl, fun _ => rfl⟩
theorem sf_tr {r : Nat} {K K' K2 : xk} {M M' M2 : xm} (h : sf r K K' M M') (g : sf r K' K2 M' M2) : sf r K K2 M M2 := by
  obtain ⟨h1, h2, h3, h4, h5, h6, h7, h8, h9, h10⟩ := h
  obtain ⟨g1, g2, g3, g4, g5, g6, g7, g8, g9, g10⟩ := g
  exact ⟨g1.trans h1, g2.trans h2, fun c j b a1 a2 => (g3 c j b a1 a2).trans (h3 c j b a1 a2), fun c j b a1 => (g4 c j b a1).trans (h4 c j b a1), g5.trans h5, g6.trans h6, g7.trans h7, fun f a1 => (g8 f a1).trans (h8 f a1), fun j => (g9 j).trans (h9 j), fun j => (g10 j).trans (h10 j)⟩
variable {B : Nat} {fz : Nat → Prop} {V : List Int32} {E P : Nat} {D : Nat → Nat} {c : Nat} {R : Nat → Nat} {n : Nat} {K : xk} {M : xm}
theorem sd_both (h : iA B fz V E P D c R n K M) (t w e v x : Int32) : ∃ (a m : Nat) (K1 : xk) (M1 : xm) (c' : Nat),
    kf_Line_send_0 K (6 + B) t w e = some (some a, mg K1 a (rs_f t w e (fun j => xk_iv K1 4 j a)) (rs_g (fun j => xk_rv K1 4 j a))) ∧
    kf_EM_send_0 M t w e v x = some (nI m, mm M1 m (sd_h t w e v x (fun c => M1 c m)) (fun x => M1 55 (8 * m + x))) ∧ m < 25 ∧ xk_kd K1 a = 4 + 1 ∧
    (∀ f g h' ct, sf (R 24) K (mg K1 a f g) M (mm M1 m h' ct)) ∧ (∀ f, f < 47 → M1 f = M f) ∧
    ∀ f g h' ct k, mv K M fz V E f g h' ct → n + (if h' 48 = 5 then 4 else 0) ≤ k → iA B fz V E P D c' R k (mg K1 a f g) (mm M1 m h' ct) := by
  obtain ⟨x0, o0, c0, l0, t0, u0, b0, L0, T0, U0, m0, q0, y0, dq, dy, ⟨s1, s2, s3, s4, s5, s6, s7, s8, s9, s10⟩, ⟨g1, g2⟩, e0, n0⟩ := id h
  have M47 : ∀ (N : xm) (m : Nat) (h' ct : Nat → Int32) (f : Nat), f < 47 → mm N m h' ct f = N f := fun N m h' ct f hf => funext fun j => by rw [mm_get, if_neg (fun z => by omega), if_neg (fun z => by omega)]
  rcases Nat.lt_or_ge c 24 with hc | hc
  · obtain ⟨r1, r2, r3⟩ := s9 c (by omega)
    have hne : R 24 ≠ R c := fun z => by have := s10 24 c (by omega) (by omega) z; omega
    refine ⟨R c, c, xk_sI K 5 2 (6 + B) (nI (c + 1)), xm_s M xm_l 0 (nI (c + 1)), c + 1, ?_, ?_, by omega, r2, fun f g h' ct => ?_, fun f hf => ?_, fun f g h' ct k hv hk => ap_room h hc hv hk⟩
    · rw [sd_room s1 s2 s3 s4 s8 hc r1 r2, rs_mg]
    · rw [sm_room g1 hc, sd_mm]
    · refine ⟨rfl, rfl, fun c' j b h4 h5 => ?_, fun c' j b h4 => ?_, rfl, rfl, rfl, fun f' hf => ?_, fun j => ?_, fun j => ?_⟩
      · rw [mg_iv, if_neg (fun z => h4 z.1), sI_get, if_neg (fun z => h5 z.1)]
      · rw [mg_rv, if_neg (fun z => h4 z.1)]; rfl
      · rw [M47 _ _ _ _ _ hf]
        funext j
        rw [ms_get, if_neg (fun z => by rw [show xm_l = 47 from rfl] at z; omega)]
      · rw [mg_iv, if_neg (fun z => hne z.2)]; rfl
      · rw [mg_rv, if_neg (fun z => hne z.2)]; rfl
    · funext j
      rw [ms_get, if_neg (fun z => by rw [show xm_l = 47 from rfl] at z; omega)]
  · have hc : c = 24 := by omega
    have hne : R 24 ≠ 8 + B := (s9 24 (by omega)).2.2
    refine ⟨8 + B, 24, K, M, c, ?_, ?_, by omega, s6, fun f g h' ct => ?_, fun f hf => rfl, fun f g h' ct k hv hk => iA_mono (ap_full h hc) (Nat.le_trans (Nat.le_add_right _ _) hk)⟩
    · rw [sd_full s1 s5 s6 (by rw [s8, hc]), rs_mg]
    · rw [sm_full (by rw [g1, hc]), sd_mm]
    · refine ⟨rfl, rfl, fun c' j b h4 h5 => ?_, fun c' j b h4 => ?_, rfl, rfl, rfl, fun f' hf => M47 _ _ _ _ _ hf, fun j => ?_, fun j => ?_⟩
      · rw [mg_iv, if_neg (fun z => h4 z.1)]
      · rw [mg_rv, if_neg (fun z => h4 z.1)]
      · rw [mg_iv, if_neg (fun z => hne z.2)]
      · rw [mg_rv, if_neg (fun z => hne z.2)]
end
section
theorem xI_at {K : xk} {ci k a : Nat} {v : Int32} (h : xk_kd K a = ci + 1) (hv : xk_iv K ci k a = v) : xI K ci k a = some v := by rw [xI_ok h, hv]
theorem xR_at {K : xk} {ci k a : Nat} {v : Option Nat} (h : xk_kd K a = ci + 1) (hv : xk_rv K ci k a = v) : xR K ci k a = some v := by rw [xR_ok h, hv]
theorem xMi_at {M : xm} {k i : Nat} {v : Int32} (hi : i < xm_n k) (hn : xm_n k < 2 ^ 31) (hv : M k i = v) : xMi M k (nI i) = some v := by rw [xMi_ok hi hn, hv]
theorem jN_st2 {M : xm} {V : List Int32} {P n m c j d d' : Nat} {v : Int32} (h : jN M V P n c) (hj : j < 3) (hp : ph v (M 44 j) + d ≤ ph (M 40 j) (M 44 j) + d') (hm : n + d' ≤ m + d) : jN (xm_s M 40 j v) V P m c := by
  unfold jN at h
  rcases (show j = 0 ∨ j = 1 ∨ j = 2 by omega) with rfl | rfl | rfl
  · show 5 * V.length + P + (ph v (M 44 0) + ph (M 40 1) (M 44 1) + ph (M 40 2) (M 44 2)) + 4 * cN (M 48) c ≤ m
    omega
  · show 5 * V.length + P + (ph (M 40 0) (M 44 0) + ph v (M 44 1) + ph (M 40 2) (M 44 2)) + 4 * cN (M 48) c ≤ m
    omega
  · show 5 * V.length + P + (ph (M 40 0) (M 44 0) + ph (M 40 1) (M 44 1) + ph v (M 44 2)) + 4 * cN (M 48) c ≤ m
    omega
theorem jN_le {M : xm} {V : List Int32} {P n c j : Nat} (h : jN M V P n c) (hj : j < 3) : ph (M 40 j) (M 44 j) ≤ n := by
  unfold jN at h
  rcases (show j = 0 ∨ j = 1 ∨ j = 2 by omega) with rfl | rfl | rfl <;> omega
variable {B : Nat} {fz : Nat → Prop} {V : List Int32} {E P : Nat} {D : Nat → Nat} {c : Nat} {R : Nat → Nat} {n : Nat} {K : xk} {M : xm}
theorem fr_rf : fr K K := fun _ _ => ⟨rfl, rfl, fun _ _ _ => rfl, fun _ _ _ => rfl, fun _ => rfl⟩
/-- more that nobody changes, more versions given -/
theorem iA_gz {gz : Nat → Prop} {U : List Int32} {m : Nat} (h : iA B fz V E P D c R n K M) (hz : ∀ w, fz w → xk_kd K w ≠ 0 → gz w) (hV : ∀ v, v ∈ V → v ∈ U) (hl : V.length ≤ U.length) (hU : jU K M B gz) (hN : jN M U P m c) : iA B gz U E P D c R m K M := by
  obtain ⟨r1, r2, r3, r4, r5, r6, r7, r8, r9, r10, r11, r12, r13, r14⟩ := iA_fr h fr_rf (fun _ _ _ _ => rfl) (fun _ _ _ _ z => z) hz hV hl
  obtain ⟨x0, o0, c0, l0, t0, u0, b0, L0, T0, U0, m0, q0, y0, dq, dy, s0, g0, e0, n0⟩ := h
  exact ⟨x0, o0, c0, l0, t0, u0, b0, r6, r7, hU, m0, q0, r10, dq, dy, s0, r14, e0, hN⟩
theorem kp_commit (B : Nat) : lo_s5 (iV B) B := fun n K M a _ h => by
  obtain ⟨fz, V, E, P, c, R, hA⟩ := id h
  obtain ⟨x0, o0, c0, l0, t0, ⟨u1, u2, u3⟩, b0, L0, T0, ⟨U1, U2⟩, m0, q0, y0, dq, dy, s0, g0, e0, n0⟩ := id hA
  unfold kf_ES_commit_0 kf_EM_commit_0
  have h10 : ¬ (1 : Int32) = 0 := by decide
  rw [xO_ok o0.1, xb_some]
  rcases is_open o0 hA.2.2.2.2.2.1 a with ⟨h1, h2⟩ | ⟨j, hj, rfl, hs, h1, h2⟩
  · rw [h1, h2, xp_some, xp_some, if_pos rfl, if_pos rfl]
    exact ⟨0, K, M, rfl, rfl, iV_next h⟩
  · obtain ⟨e1, e2, e3, e4, e5, e6, e7, e8, e9, e10⟩ := u3 j hj
    obtain ⟨w, w1, w2, w3⟩ := U1 j hj
    have hm44 : xMi M 44 (nI j) = some (M 44 j) := xMi_ok hj (by decide)
    rw [h1, h2, xp_some, xp_some, if_neg h10, if_neg h10, xR_ok o0.1, o0.2.2.2.2.1, xb_some, xb_some, xRa_ok u1 u2 hj (by decide), e1, xb_some, xR_ok o0.1, o0.2.2.2.2.2.2, xb_some, xb_some, xb_some, xO_ok e2, xb_some, hm44, xb_some]
    unfold kf_Client_finish_0
    rw [xR_ok e2, w1, xb_some, xb_some, xI_ok w2.1, xb_some, w2.2.1]
    by_cases hz : M 44 j = 0
    · rw [if_pos hz, if_pos hz, xIs_ok e2, xb_some, xMt_ok hj (by decide), xb_some, xb_some]
      refine ⟨1, _, _, rfl, rfl, fz, V, E, P, c, R, st_cl hA hj (fun z => by rw [hs] at z; exact absurd z (by decide)) (fun q => absurd q (by decide)) (jN_st n0 hj (by rw [show ph 4 (M 44 j) = 0 from rfl]; omega))⟩
    · have p3 : ph (M 40 j) (M 44 j) = 3 := by unfold ph; rw [hs, if_neg (by decide), if_pos rfl, if_neg hz]
      have n3 := jN_le n0 hj
      rw [p3] at n3
      have hB := st_cl (m := n - 3) hA hj (v := 3) (fun z => by rw [hs] at z; exact absurd z (by decide)) (fun q => absurd q (by decide)) (jN_st2 (d := 3) (d' := 0) n0 hj (by rw [p3, show ph 3 (M 44 j) = 0 from rfl]; omega) (by omega))
      have hC := iA_gz (gz := fun b => fz b ∨ b = w) hB (fun _ z _ => Or.inl z) (fun _ z => z) (Nat.le_refl _) ⟨fun i hi => by
        obtain ⟨v, v1, v2, v3⟩ := U1 i hi
        refine ⟨v, v1, v2, fun z q => ?_⟩
        by_cases ij : i = j
        · subst ij
          rw [ms_at] at z
          exact absurd z (by decide)
        · rw [ms_ne ij] at z
          rcases q with q | q
          · exact v3 z q
          · exact ij (U2 i j w hi hj (q ▸ v1) w1), U2⟩ hB.2.2.2.2.2.2.2.2.2.2.2.2.2.2.2.2.2.2
      obtain ⟨b, m, K1, M1, c', k1, k2, mlt, kb, hsf, hM1, hAp⟩ := sd_both hC 5 (nI j) (M 38 j) (M 41 j) (M 39 j)
      have S := hsf (fun _ => 0) (fun _ => none) (fun _ => 0) (fun _ => 0)
      have kA : xk_kd K1 (50 + 3 * j + B) = 11 + 1 := (congrFun S.1 _).trans e2
      have i2 : xk_iv K1 11 2 (50 + 3 * j + B) = M 39 j := (S.2.2.1 11 2 _ (by decide) (by decide)).trans e5
      have i5 : xk_iv K1 11 5 (50 + 3 * j + B) = M 41 j := (S.2.2.1 11 5 _ (by decide) (by decide)).trans e8
      have i7 : xk_iv K1 11 7 (50 + 3 * j + B) = M 43 j := (S.2.2.1 11 7 _ (by decide) (by decide)).trans e10
      have i8 : xk_rv K1 11 8 (50 + 3 * j + B) = some w := (S.2.2.2.1 11 8 _ (by decide)).trans w1
      have v0 : xI (xk_sI K 11 3 (50 + 3 * j + B) 3) 11 0 (50 + 3 * j + B) = some (nI j) := xI_at e2 e3
      have v1 : xI (xk_sI K 11 3 (50 + 3 * j + B) 3) 11 1 (50 + 3 * j + B) = some (M 38 j) := xI_at e2 e4
      rw [if_neg hz, if_neg hz, xIs_ok e2, xb_some, v0, xb_some, v1, xb_some, xO_ok (by exact s0.1), xb_some, k1, xp_some, xI_at (by exact kA) (by exact i2), xb_some, xb_some, xIs_ok (by exact kb), xb_some, mg_sI, xI_at (by exact kA) (by exact i5), xb_some, xIs_ok (by exact kb), xb_some, mg_sI]
      unfold kf_Client_finish_51
      rw [xI_at (by exact kA) (by exact i7), xb_some, xIs_ok (by exact kb), xb_some, mg_sI, xR_at (by exact kA) (by exact i8), xb_some, xRs_ok (by exact kb), xb_some, mg_sR, xb_some]
      have r38 : xMi (xm_s M 40 j 3) 38 (nI j) = some (M 38 j) := xMi_at hj (by decide) rfl
      have r41 : xMi (xm_s M 40 j 3) 41 (nI j) = some (M 41 j) := xMi_at hj (by decide) rfl
      have r39 : xMi (xm_s M 40 j 3) 39 (nI j) = some (M 39 j) := xMi_at hj (by decide) rfl
      have m43 : M1 43 j = M 43 j := congrFun (hM1 43 (by decide)) j
      have m44 : M1 44 j = M 44 j := congrFun (hM1 44 (by decide)) j
      have m45 : M1 45 = M 45 := hM1 45 (by decide)
      rw [xMt_ok hj (by decide), xb_some, r38, xb_some, r41, xb_some, r39, xb_some, k2, xp_some, cm_60 hj mlt]
      refine ⟨1, _, _, rfl, rfl, fun b => fz b ∨ b = w, V, E, P, c', R, ?_⟩
      rw [mm_s _ _ _ _ (by omega), mm_s _ _ _ _ (by omega), mm_cb _ _ _ _ (by omega)]
      refine hAp _ _ _ _ _ ?_ ?_
      · obtain ⟨ek, ek1, ek9, ek3⟩ := e0.2.2.2.2.2.2.2 j hj
        refine ⟨rfl, rfl, rfl, rfl, ⟨j, hj, rfl⟩, ⟨ek, ek1, ek9, ek3⟩, Or.inr (Or.inr (Or.inr (Or.inr (Or.inl ⟨rfl, rfl, ?_, w, rfl, Or.inr rfl, ?_⟩))))⟩
        · exact m43.symm
        · rw [m45]
          show wr (xk_sI K 11 3 (50 + 3 * j + B) 3) w (M1 44 j) _
          rw [m44]
          exact w2
      · show n - 3 + 4 ≤ n + 1
        omega
end
