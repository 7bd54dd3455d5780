section
-- one field on each side
theorem sI_get (K : xk) (ci k a : Nat) (v : Int32) (c j b : Nat) : xk_iv (xk_sI K ci k a v) c j b = if c = ci ∧ j = k ∧ b = a then v else xk_iv K c j b := rfl
theorem sR_get (K : xk) (ci k a : Nat) (v : Option Nat) (c j b : Nat) : xk_rv (xk_sR K ci k a v) c j b = if c = ci ∧ j = k ∧ b = a then v else xk_rv K c j b := rfl
theorem tI_get (K : xk) (a i : Nat) (v : Int32) (b j : Nat) : xk_ai (xk_tI K a i v) b j = if b = a ∧ j = i then v else xk_ai K b j := rfl
theorem tR_get (K : xk) (a i : Nat) (v : Option Nat) (b j : Nat) : xk_ar (xk_tR K a i v) b j = if b = a ∧ j = i then v else xk_ar K b j := rfl
theorem ms_get (M : xm) (k i : Nat) (v : Int32) (c j : Nat) : xm_s M k i v c j = if c = k ∧ j = i then v else M c j := rfl
theorem up_eq {K : xk} {M : xm} {ci k f a b i j : Nat} {v : Int32} (h : b = a ↔ i = j) (e : xk_iv K ci k b = M f i) : xk_iv (xk_sI K ci k a v) ci k b = xm_s M f j v f i := by
  rw [sI_get, ms_get]
  by_cases q : i = j
  · rw [if_pos ⟨rfl, rfl, h.mpr q⟩, if_pos ⟨rfl, q⟩]
  · rw [if_neg (fun z => q (h.mp z.2.2)), if_neg (fun z => q z.2), e]
theorem ms_at (M : xm) (k i : Nat) (v : Int32) : xm_s M k i v k i = v := by rw [ms_get, if_pos ⟨rfl, rfl⟩]
theorem ms_ne {M : xm} {k i j : Nat} {v : Int32} (h : j ≠ i) : xm_s M k i v k j = M k j := by rw [ms_get, if_neg (fun q => h q.2)]
theorem sI_at (K : xk) (ci k a : Nat) (v : Int32) : xk_iv (xk_sI K ci k a v) ci k a = v := by rw [sI_get, if_pos ⟨rfl, rfl, rfl⟩]
theorem sI_ne {K : xk} {ci k a b : Nat} {v : Int32} (h : b ≠ a) (c j : Nat) : xk_iv (xk_sI K ci k a v) c j b = xk_iv K c j b := by rw [sI_get, if_neg (fun q => h q.2.2)]
theorem sR_at (K : xk) (ci k a : Nat) (v : Option Nat) : xk_rv (xk_sR K ci k a v) ci k a = v := by rw [sR_get, if_pos ⟨rfl, rfl, rfl⟩]
theorem sR_ne {K : xk} {ci k a b : Nat} {v : Option Nat} (h : b ≠ a) (c j : Nat) : xk_rv (xk_sR K ci k a v) c j b = xk_rv K c j b := by rw [sR_get, if_neg (fun q => h q.2.2)]
variable {B : Nat} {fz : Nat → Prop} {V : List Int32} {E P : Nat} {D : Nat → Nat} {c : Nat} {R : Nat → Nat} {n : Nat} {K : xk} {M : xm}
theorem iA_mono {m : Nat} (h : iA B fz V E P D c R n K M) (hm : n ≤ m) : iA B fz V E P D c R m K M := by
  obtain ⟨x0, o0, c0, l0, t0, u0, b0, L0, T0, U0, m0, q0, y0, dq, dy, s0, g0, e0, n0⟩ := h
  exact ⟨x0, o0, c0, l0, t0, u0, b0, L0, T0, U0, m0, q0, y0, dq, dy, s0, g0, e0, Nat.le_trans n0 hm⟩
/-- a client's state -/
theorem st_cl {j m : Nat} {v : Int32} (h : iA B fz V E P D c R n K M) (hj : j < 3) (h0 : M 40 j = 0 → xk_iv K 11 4 (50 + 3 * j + B) = M 42 j) (hf : v = 1 ∨ v = 2 → ∀ w, xk_rv K 11 8 (50 + 3 * j + B) = some w → ¬ fz w) (hn : jN (xm_s M 40 j v) V P m c) : iA B fz V E P D c R m (xk_sI K 11 3 (50 + 3 * j + B) v) (xm_s M 40 j v) := by
  obtain ⟨x0, o0, c0, l0, t0, ⟨u1, u2, u3⟩, b0, L0, T0, ⟨U1, U2⟩, m0, q0, y0, dq, dy, s0, g0, e0, n0⟩ := h
  refine ⟨x0, o0, c0, l0, t0, ⟨u1, u2, fun i hi => ?_⟩, b0, L0, T0, ⟨fun i hi => ?_, U2⟩, m0, q0, y0, dq, dy, s0, g0, e0, hn⟩
  · obtain ⟨e1, e2, e3, e4, e5, e6, e7, e8, e9, e10⟩ := u3 i hi
    refine ⟨e1, e2, e3, e4, e5, up_eq (by omega) e6, ?_, e8, e9, e10⟩
    by_cases q : i = j
    · subst q
      exact Or.inr (e7.elim h0 id)
    · rw [ms_ne q]
      exact e7
  · obtain ⟨w, w1, w2, w3⟩ := U1 i hi
    refine ⟨w, w1, w2, ?_⟩
    by_cases q : i = j
    · subst q
      rw [ms_at]
      exact fun z => hf z w w1
    · rw [ms_ne q]
      exact w3
theorem st_c2 {j : Nat} {v : Int32} (h : iA B fz V E P D c R n K M) (hj : j < 3) : iA B fz V E P D c R n (xk_sI K 11 2 (50 + 3 * j + B) v) (xm_s M 39 j v) := by
  obtain ⟨x0, o0, c0, l0, t0, ⟨u1, u2, u3⟩, b0, L0, T0, U0, m0, q0, y0, dq, dy, s0, g0, e0, n0⟩ := h
  refine ⟨x0, o0, c0, l0, t0, ⟨u1, u2, fun i hi => ?_⟩, b0, L0, T0, U0, m0, q0, y0, dq, dy, s0, g0, e0, n0⟩
  obtain ⟨e1, e2, e3, e4, e5, e6, e7, e8, e9, e10⟩ := u3 i hi
  exact ⟨e1, e2, e3, e4, up_eq (by omega) e5, e6, e7, e8, e9, e10⟩
theorem st_c4 {j : Nat} {v : Int32} (h : iA B fz V E P D c R n K M) (hj : j < 3) : iA B fz V E P D c R n (xk_sI K 11 4 (50 + 3 * j + B) v) (xm_s M 42 j v) := by
  obtain ⟨x0, o0, c0, l0, t0, ⟨u1, u2, u3⟩, b0, L0, T0, U0, m0, q0, y0, dq, dy, s0, g0, e0, n0⟩ := h
  refine ⟨x0, o0, c0, l0, t0, ⟨u1, u2, fun i hi => ?_⟩, b0, L0, T0, U0, m0, q0, y0, dq, dy, s0, g0, e0, n0⟩
  obtain ⟨e1, e2, e3, e4, e5, e6, e7, e8, e9, e10⟩ := u3 i hi
  exact ⟨e1, e2, e3, e4, e5, e6, (by
    by_cases q : i = j
    · subst q
      exact Or.inr (by rw [sI_at, ms_at])
    · refine e7.imp id (fun z => ?_)
      rw [sI_ne (by omega), ms_ne q]
      exact z), e8, e9, e10⟩
theorem st_c5 {j : Nat} {v : Int32} (h : iA B fz V E P D c R n K M) (hj : j < 3) : iA B fz V E P D c R n (xk_sI K 11 5 (50 + 3 * j + B) v) (xm_s M 41 j v) := by
  obtain ⟨x0, o0, c0, l0, t0, ⟨u1, u2, u3⟩, b0, L0, T0, U0, m0, q0, y0, dq, dy, s0, g0, e0, n0⟩ := h
  refine ⟨x0, o0, c0, l0, t0, ⟨u1, u2, fun i hi => ?_⟩, b0, L0, T0, U0, m0, q0, y0, dq, dy, s0, g0, e0, n0⟩
  obtain ⟨e1, e2, e3, e4, e5, e6, e7, e8, e9, e10⟩ := u3 i hi
  exact ⟨e1, e2, e3, e4, e5, e6, e7, up_eq (by omega) e8, e9, e10⟩
theorem st_c6 {j : Nat} {v : Int32} (h : iA B fz V E P D c R n K M) (hj : j < 3) : iA B fz V E P D c R n (xk_sI K 11 6 (50 + 3 * j + B) v) (xm_s M 46 j v) := by
  obtain ⟨x0, o0, c0, l0, t0, ⟨u1, u2, u3⟩, b0, L0, T0, U0, m0, q0, y0, dq, dy, s0, g0, e0, n0⟩ := h
  refine ⟨x0, o0, c0, l0, t0, ⟨u1, u2, fun i hi => ?_⟩, b0, L0, T0, U0, m0, q0, y0, dq, dy, s0, g0, e0, n0⟩
  obtain ⟨e1, e2, e3, e4, e5, e6, e7, e8, e9, e10⟩ := u3 i hi
  exact ⟨e1, e2, e3, e4, e5, e6, e7, e8, up_eq (by omega) e9, e10⟩
theorem st_c7 {j : Nat} {v : Int32} (h : iA B fz V E P D c R n K M) (hj : j < 3) : iA B fz V E P D c R n (xk_sI K 11 7 (50 + 3 * j + B) v) (xm_s M 43 j v) := by
  obtain ⟨x0, o0, c0, l0, t0, ⟨u1, u2, u3⟩, b0, L0, T0, U0, m0, q0, y0, dq, dy, s0, g0, e0, n0⟩ := h
  refine ⟨x0, o0, c0, l0, t0, ⟨u1, u2, fun i hi => ?_⟩, b0, L0, T0, U0, m0, q0, y0, dq, dy, s0, g0, e0, n0⟩
  obtain ⟨e1, e2, e3, e4, e5, e6, e7, e8, e9, e10⟩ := u3 i hi
  exact ⟨e1, e2, e3, e4, e5, e6, e7, e8, e9, up_eq (by omega) e10⟩
theorem st_c1 {j e : Nat} (h : iA B fz V E P D c R n K M) (hj : j < 3) (h1 : 1 ≤ e) (h9 : e ≤ 9) : iA B fz V E P D c R n (xk_sI K 11 1 (50 + 3 * j + B) (nI e)) (xm_s M 38 j (nI e)) := by
  obtain ⟨x0, o0, c0, l0, t0, ⟨u1, u2, u3⟩, b0, L0, T0, U0, m0, q0, y0, dq, dy, s0, g0, ⟨a1, a2, a3, a4, a5, a6, a7, a8⟩, n0⟩ := h
  refine ⟨x0, o0, c0, l0, t0, ⟨u1, u2, fun i hi => ?_⟩, b0, L0, T0, U0, m0, q0, y0, dq, dy, s0, g0, ⟨a1, a2, a3, a4, a5, a6, a7, fun i hi => ?_⟩, n0⟩
  · obtain ⟨e1, e2, e3, e4, e5, e6, e7, e8, e9, e10⟩ := u3 i hi
    exact ⟨e1, e2, e3, up_eq (by omega) e4, e5, e6, e7, e8, e9, e10⟩
  · by_cases q : i = j
    · subst q
      exact ⟨e, h1, h9, ms_at _ _ _ _⟩
    · rw [ms_ne q]
      exact a8 i hi
end
section
-- the epoch that a majority knows is the greatest
theorem mx_m1 {e : Nat} (h : e ≤ 9) : (if (-1 : Int32) < nI e then nI e else -1) = nI e := by
  have t : (-1 : Int32).toInt = -1 := by decide
  rw [if_pos]
  rw [Int32.lt_iff_toInt_lt, nI_toInt (by omega), t]
  omega
theorem mx_nn {a b : Nat} (ha : a ≤ 9) (hb : b ≤ 9) : (if nI a < nI b then nI b else nI a) = nI (max a b) := by
  by_cases q : a < b
  · rw [if_pos ((nI_ltI (by omega) (by omega)).mpr q), Nat.max_eq_right (by omega)]
  · rw [if_neg (fun z => q ((nI_ltI (by omega) (by omega)).mp z)), Nat.max_eq_left (by omega)]
theorem gm_E {M : xm} {E : Nat} (h : jE M E) (hz : ¬ (gm_z M).1 < 2) : (gm_z M).2 = nI E ∧ ∃ i k, i < 3 ∧ k < 3 ∧ i ≠ k ∧ ¬ M 1 i = 0 ∧ ¬ M 1 k = 0 := by
  obtain ⟨a1, a2, a3, ⟨i, k, hi, hk, ik, x1, x2⟩, -⟩ := h
  obtain ⟨e0, p0, r0, z0⟩ := a3 0 (by omega)
  obtain ⟨e1, p1, r1, z1⟩ := a3 1 (by omega)
  obtain ⟨e2, p2, r2, z2⟩ := a3 2 (by omega)
  have inj : ∀ {a b : Nat}, a ≤ 9 → b ≤ 9 → nI a = nI b → a = b := fun ha hb q => (nI_eq (by omega) (by omega)).mp q
  have two : (e0 = E ∧ e1 = E) ∨ (e0 = E ∧ e2 = E) ∨ (e1 = E ∧ e2 = E) := by
    have c0 : ∀ j, j = 0 → M 0 j = nI E → e0 = E := fun j hj q => inj (by omega) (by omega) (by rw [hj] at q; exact z0.symm.trans q)
    have c1 : ∀ j, j = 1 → M 0 j = nI E → e1 = E := fun j hj q => inj (by omega) (by omega) (by rw [hj] at q; exact z1.symm.trans q)
    have c2 : ∀ j, j = 2 → M 0 j = nI E → e2 = E := fun j hj q => inj (by omega) (by omega) (by rw [hj] at q; exact z2.symm.trans q)
    rcases (show i = 0 ∨ i = 1 ∨ i = 2 by omega) with q | q | q <;> rcases (show k = 0 ∨ k = 1 ∨ k = 2 by omega) with q' | q' | q'
    · omega
    · exact Or.inl ⟨c0 i q x1, c1 k q' x2⟩
    · exact Or.inr (Or.inl ⟨c0 i q x1, c2 k q' x2⟩)
    · exact Or.inl ⟨c0 k q' x2, c1 i q x1⟩
    · omega
    · exact Or.inr (Or.inr ⟨c1 i q x1, c2 k q' x2⟩)
    · exact Or.inr (Or.inl ⟨c0 k q' x2, c2 i q x1⟩)
    · exact Or.inr (Or.inr ⟨c1 k q' x2, c2 i q x1⟩)
    · omega
  revert hz
  unfold gm_z gm_1
  by_cases u0 : M 1 0 = 0 <;> by_cases u1 : M 1 1 = 0 <;> by_cases u2 : M 1 2 = 0 <;> simp only [u0, u1, u2, if_true, if_false, z0, z1, z2, mx_m1 (show e0 ≤ 9 by omega), mx_m1 (show e1 ≤ 9 by omega), mx_m1 (show e2 ≤ 9 by omega), mx_nn (show e0 ≤ 9 by omega) (show e1 ≤ 9 by omega), mx_nn (show e0 ≤ 9 by omega) (show e2 ≤ 9 by omega), mx_nn (show e1 ≤ 9 by omega) (show e2 ≤ 9 by omega), mx_nn (show max e0 e1 ≤ 9 by omega) (show e2 ≤ 9 by omega)]
  · exact fun hz => absurd (by decide) hz
  · exact fun hz => absurd (by decide) hz
  · exact fun hz => absurd (by decide) hz
  · intro hz
    exact ⟨congrArg nI (by omega), 1, 2, by omega, by omega, by omega, u1, u2⟩
  · exact fun hz => absurd (by decide) hz
  · intro hz
    exact ⟨congrArg nI (by omega), 0, 2, by omega, by omega, by omega, u0, u2⟩
  · intro hz
    exact ⟨congrArg nI (by omega), 0, 1, by omega, by omega, by omega, u0, u1⟩
  · intro hz
    exact ⟨congrArg nI (by omega), 0, 1, by omega, by omega, by omega, u0, u1⟩
end
section
theorem jN_st {M : xm} {V : List Int32} {P n c j d : Nat} {v : Int32} (h : jN M V P n c) (hj : j < 3) (hp : ph v (M 44 j) ≤ ph (M 40 j) (M 44 j) + d) : jN (xm_s M 40 j v) V P (n + d) c := by
  unfold jN at h
  rcases (show j = 0 ∨ j = 1 ∨ j = 2 by omega) with rfl | rfl | rfl
  · show 5 * V.length + P + (ph v (M 44 0) + ph (M 40 1) (M 44 1) + ph (M 40 2) (M 44 2)) + 4 * cN (M 48) c ≤ n + d
    omega
  · show 5 * V.length + P + (ph (M 40 0) (M 44 0) + ph v (M 44 1) + ph (M 40 2) (M 44 2)) + 4 * cN (M 48) c ≤ n + d
    omega
  · show 5 * V.length + P + (ph (M 40 0) (M 44 0) + ph (M 40 1) (M 44 1) + ph v (M 44 2)) + 4 * cN (M 48) c ≤ n + d
    omega
theorem jN_wr {M : xm} {V : List Int32} {P n c j d : Nat} {v : Int32} (h : jN M V P n c) (hj : j < 3) (hp : ph (M 40 j) v ≤ ph (M 40 j) (M 44 j) + d) : jN (xm_s M 44 j v) V P (n + d) c := by
  unfold jN at h
  rcases (show j = 0 ∨ j = 1 ∨ j = 2 by omega) with rfl | rfl | rfl
  · show 5 * V.length + P + (ph (M 40 0) v + ph (M 40 1) (M 44 1) + ph (M 40 2) (M 44 2)) + 4 * cN (M 48) c ≤ n + d
    omega
  · show 5 * V.length + P + (ph (M 40 0) (M 44 0) + ph (M 40 1) v + ph (M 40 2) (M 44 2)) + 4 * cN (M 48) c ≤ n + d
    omega
  · show 5 * V.length + P + (ph (M 40 0) (M 44 0) + ph (M 40 1) (M 44 1) + ph (M 40 2) v) + 4 * cN (M 48) c ≤ n + d
    omega
variable {B : Nat} {fz : Nat → Prop} {V : List Int32} {E P : Nat} {D : Nat → Nat} {c : Nat} {R : Nat → Nat} {n : Nat} {K : xk} {M : xm}
theorem iN_of (h : iA B fz V E P (fun _ => 0) c R n K M) : iN K M B := by
  obtain ⟨x0, o0, c0, l0, t0, u0, b0, L0, T0, U0, ⟨m1, m2, m3⟩, q0, y0, dq, dy, s0, g0, e0, n0⟩ := h
  refine ⟨m1, m2, fun e h1 h9 => (m3 e h1 h9).imp id (fun ⟨z, ma, a1, a2⟩ => ?_)⟩
  obtain ⟨nq, -, q1, q2, -⟩ := q0 e ma h1 h9 a1
  obtain ⟨nw, -, w1, w2, -⟩ := y0 e ma h1 h9 a1
  obtain ⟨k1, k2, k3, k4, k5, k6, k7, -⟩ := a2
  exact ⟨z, ma, a1, k1, q2.trans q1.symm, w2.trans w1.symm, k5, k7⟩
theorem iW_of (h : iA B fz V E P D c R n K M) : iW K M B := by
  obtain ⟨x0, o0, c0, l0, t0, u0, b0, L0, T0, ⟨U1, -⟩, -⟩ := h
  intro i hi
  obtain ⟨w, w1, ⟨r1, r2, r3, r4, r5, -⟩, -⟩ := U1 i hi
  exact ⟨w, w + 1, w1, r1, r2, r3, r4, r5⟩
theorem iG_of (h : iA B fz V E P D c R n K M) : iG K M B := by
  obtain ⟨x0, o0, c0, l0, t0, u0, b0, L0, T0, U0, m0, q0, y0, dq, dy, ⟨s1, s2, s3, s4, s5, s6, s7, s8, s9, s10⟩, ⟨g1, g2⟩, e0, n0⟩ := h
  refine ⟨s1, s2, s3, s4, c, s7, s8, g1, fun k hk => ?_⟩
  obtain ⟨r1, r2, r3⟩ := s9 k (by omega)
  obtain ⟨f0, f1, f2, f3, -, -, f⟩ := g2 k hk
  refine ⟨R k, r1, r2, f0, f1, f2, f3, ?_⟩
  rcases f with ⟨t, z, -⟩ | ⟨t, z, -⟩ | ⟨t, z, -⟩ | ⟨t, -⟩ | ⟨t, -⟩ | ⟨t, -⟩ | ⟨t, -⟩ | ⟨t, -⟩
  · exact ⟨fun _ => z, 1, by omega, by omega, t⟩
  · exact ⟨fun _ => z, 2, by omega, by omega, t⟩
  · exact ⟨fun _ => z, 3, by omega, by omega, t⟩
  · exact ⟨fun q => absurd q (by simp only [] at t; rw [t]; decide), 4, by omega, by omega, t⟩
  · exact ⟨fun q => absurd q (by simp only [] at t; rw [t]; decide), 5, by omega, by omega, t⟩
  · exact ⟨fun q => absurd q (by simp only [] at t; rw [t]; decide), 6, by omega, by omega, t⟩
  · exact ⟨fun q => absurd q (by simp only [] at t; rw [t]; decide), 7, by omega, by omega, t⟩
  · exact ⟨fun q => absurd q (by simp only [] at t; rw [t]; decide), 8, by omega, by omega, t⟩
theorem iV_next (h : iV B n K M) : iV B (n + 1) K M := by
  obtain ⟨fz, V, E, P, c, R, h⟩ := h
  exact ⟨fz, V, E, P, c, R, iA_mono h (by omega)⟩
-- the calls that only look
theorem kp_log (B : Nat) : lo_s17 (iV B) B := fun n K M a _ h => by
  obtain ⟨fz, V, E, P, c, R, ⟨x0, o0, c0, l0, t0, u0, -⟩⟩ := id h
  obtain ⟨r, h1, h2⟩ := pu_log o0 l0 a
  exact ⟨r, K, M, h1, h2, iV_next h⟩
theorem kp_storage (B : Nat) : lo_s18 (iV B) B := fun n K M a _ h => by
  obtain ⟨fz, V, E, P, c, R, ⟨x0, o0, c0, l0, t0, u0, -⟩⟩ := id h
  obtain ⟨r, h1, h2⟩ := pu_storage o0 t0 a
  exact ⟨r, K, M, h1, h2, iV_next h⟩
theorem kp_coordinator (B : Nat) : lo_s21 (iV B) B := fun n K M a _ h => by
  obtain ⟨fz, V, E, P, c, R, ⟨x0, o0, c0, l0, t0, u0, -⟩⟩ := id h
  obtain ⟨r, h1, h2⟩ := pu_coordinator o0 c0 a
  exact ⟨r, K, M, h1, h2, iV_next h⟩
theorem kp_status (B : Nat) : lo_s7 (iV B) B := fun n K M a _ h => by
  obtain ⟨fz, V, E, P, c, R, ⟨x0, o0, c0, l0, t0, u0, -⟩⟩ := id h
  obtain ⟨r, h1, h2⟩ := pu_status o0 u0 a
  exact ⟨r, K, M, h1, h2, iV_next h⟩
theorem kp_master (B : Nat) : lo_s19 (iV B) B := fun n K M a _ h => by
  obtain ⟨fz, V, E, P, c, R, hA⟩ := id h
  obtain ⟨r, h1, h2⟩ := pu_master hA.2.1 (iN_of hA) a
  exact ⟨r, K, M, h1, h2, iV_next h⟩
theorem kp_committed (B : Nat) : lo_s20 (iV B) B := fun n K M a _ h => by
  obtain ⟨fz, V, E, P, c, R, hA⟩ := id h
  obtain ⟨r, h1, h2⟩ := pu_committed hA.2.1 (iN_of hA) a
  exact ⟨r, K, M, h1, h2, iV_next h⟩
theorem kp_messages (B : Nat) : lo_s8 (iV B) B := fun n K M _ h => by
  obtain ⟨fz, V, E, P, c, R, hA⟩ := id h
  obtain ⟨r, h1, h2⟩ := pu_messages hA.2.1 (iG_of hA)
  exact ⟨r, K, M, h1, h2, iV_next h⟩
theorem kp_message (B : Nat) : lo_s9 (iV B) B := fun n K M a _ h => by
  obtain ⟨fz, V, E, P, c, R, hA⟩ := id h
  obtain ⟨r, h1, h2⟩ := pu_message hA.2.1 (iG_of hA) a
  exact ⟨r, K, M, h1, h2, iV_next h⟩
-- find, give up, start, stop
theorem kp_find (B : Nat) : lo_s0 (iV B) B := fun n K M a _ h => by
  obtain ⟨fz, V, E, P, c, R, hA⟩ := id h
  have e0 : jE M E := hA.2.2.2.2.2.2.2.2.2.2.2.2.2.2.2.2.2.1
  have hp : ∀ i, i < 3 → (0 : Int32) < M 0 i := fun i hi => by
    obtain ⟨e, e1, e2, e3⟩ := e0.2.2.1 i hi
    rw [e3]
    exact nI_lt (a := 0) (by omega) (by have := e0.2.1; omega)
  obtain ⟨r, K', M', h1, h2, ⟨rfl, rfl⟩ | ⟨j, hj, hr, hz, rfl, rfl⟩⟩ := pu_find hA.2.1 hA.2.2.1 hA.2.2.2.2.2.1 hp a
  · exact ⟨r, _, _, h1, h2, iV_next h⟩
  · have g := (gm_E e0 hz).1
    rw [g] at hr
    subst hr
    exact ⟨_, _, _, h1, h2, fz, V, E, P, c, R, iA_mono (st_c1 hA hj e0.1 e0.2.1) (by omega)⟩
theorem kp_giveUp (B : Nat) : lo_s6 (iV B) B := fun n K M a _ h => by
  obtain ⟨fz, V, E, P, c, R, hA⟩ := id h
  obtain ⟨r, K', M', h1, h2, ⟨rfl, rfl⟩ | ⟨j, v, hj, hb, hv, rfl, rfl⟩⟩ := pu_giveUp hA.2.1 hA.2.2.2.2.2.1 a
  · exact ⟨r, _, _, h1, h2, iV_next h⟩
  · have n0 : jN M V P n c := hA.2.2.2.2.2.2.2.2.2.2.2.2.2.2.2.2.2.2
    have hv2 : v = 7 ∨ v = 8 := by
      rw [hv]
      by_cases q : M 40 j = 3
      · rw [if_pos q]; exact Or.inl rfl
      · rw [if_neg q]; exact Or.inr rfl
    refine ⟨_, _, _, h1, h2, fz, V, E, P, c, R, st_cl hA hj (fun z => by rw [z] at hb; exact absurd hb (by decide)) (fun q => ?_) (jN_st n0 hj ?_)⟩
    · rcases hv2 with rfl | rfl <;> exact absurd q (by decide)
    · have : ph v (M 44 j) = 0 := by rcases hv2 with rfl | rfl <;> rfl
      omega
/-- a server's up flag -/
theorem st_up {f j ci k a : Nat} {v : Int32} (h : iA B fz V E P D c R n K M) (hd : sv_of B f j ci k a) (hv : v = 0 ∨ v = 1) : iA B fz V E P D c R n (xk_sI K ci k a v) (xm_s M f j v) := by
  obtain ⟨x0, o0, ⟨c1, c2, c3⟩, ⟨l1, l2, l3⟩, ⟨t1, t2, t3⟩, u0, b0, L0, T0, U0, m0, q0, y0, dq, dy, s0, g0, e0, n0⟩ := h
  have hb : ∀ i, i < 3 → ∀ z, (M z i = 0 ∨ M z i = 1) → (xm_s M f j v z i = 0 ∨ xm_s M f j v z i = 1) := fun i _ z hz => by
    rw [ms_get]
    split
    · exact hv
    · exact hz
  have b1 : jB (xm_s M f j v) := fun i hi => ⟨hb i hi 1 (b0 i hi).1, hb i hi 3 (b0 i hi).2.1, hb i hi 11 (b0 i hi).2.2⟩
  rcases hd with ⟨rfl, hj, rfl, rfl, rfl⟩ | ⟨rfl, hj, rfl, rfl, rfl⟩ | ⟨rfl, hj, rfl, rfl, rfl⟩
  · refine ⟨x0, o0, ⟨c1, c2, fun i hi => ?_⟩, ⟨l1, l2, l3⟩, ⟨t1, t2, t3⟩, u0, b1, L0, T0, U0, m0, q0, y0, dq, dy, s0, g0, e0, n0⟩
    obtain ⟨e1, e2, e3, e4⟩ := c3 i hi
    exact ⟨e1, e2, up_eq (by omega) e3, e4⟩
  · refine ⟨x0, o0, ⟨c1, c2, c3⟩, ⟨l1, l2, fun i hi => ?_⟩, ⟨t1, t2, t3⟩, u0, b1, L0, T0, U0, m0, q0, y0, dq, dy, s0, g0, e0, n0⟩
    obtain ⟨e1, e2, e3, e4, e5, e6, e7⟩ := l3 i hi
    exact ⟨e1, e2, e3, up_eq (by omega) e4, e5, e6, e7⟩
  · refine ⟨x0, o0, ⟨c1, c2, c3⟩, ⟨l1, l2, l3⟩, ⟨t1, t2, fun i hi => ?_⟩, u0, b1, L0, T0, U0, m0, q0, y0, dq, dy, s0, g0, e0, n0⟩
    obtain ⟨e1, e2, e3, e4, e5, e6⟩ := t3 i hi
    exact ⟨e1, e2, up_eq (by omega) e3, e4, e5, e6⟩
/-- a master stops -/
theorem st_off {e : Nat} (h : iA B fz V E P D c R n K M) (h1 : 1 ≤ e) (h9 : e ≤ 9) : iA B fz V E P D c R n (xk_tR K (5 + B) e none) (xm_s M 17 e 0) := by
  obtain ⟨x0, o0, c0, l0, t0, u0, b0, L0, T0, U0, ⟨m1, m2, m3⟩, q0, y0, dq, dy, ⟨s1, s2, s3, s4, s5, s6, s7, s8, s9, s10⟩, g0, ⟨a1, a2, a3, a4, a5, a6⟩, n0⟩ := h
  have k3 : ∀ b j, b ≠ 5 + B → xk_ar (xk_tR K (5 + B) e none) b j = xk_ar K b j := fun b j hb => by rw [tR_get, if_neg (fun q => hb q.1)]
  have k5 : ∀ d ma, xk_ar (xk_tR K (5 + B) e none) (5 + B) d = some ma → d ≠ e ∧ xk_ar K (5 + B) d = some ma := fun d ma hd => by
    rw [tR_get] at hd
    by_cases q : d = e
    · rw [if_pos ⟨rfl, q⟩] at hd; cases hd
    · rw [if_neg (fun z => q z.2)] at hd; exact ⟨q, hd⟩
  have kn : ∀ b, xk_kd K b ≠ 106 → b ≠ 5 + B := fun b hb q => hb (by rw [q]; exact m1)
  have km : ∀ d ma, 1 ≤ d → d ≤ 9 → xk_ar K (5 + B) d = some ma → jMa K M d ma := fun d ma d1 d9 hd => by
    rcases m3 d d1 d9 with ⟨-, z⟩ | ⟨-, mb, z, z2⟩
    · rw [z] at hd; cases hd
    · rw [z] at hd; cases hd; exact z2
  have n2 : ∀ d ma, 1 ≤ d → d ≤ 9 → xk_ar K (5 + B) d = some ma → ma + 2 ≠ 5 + B ∧ ma + 3 ≠ 5 + B := fun d ma d1 d9 hd => by
    obtain ⟨-, -, -, -, -, -, -, -, -, -, -, -, -, z2, -, -, z3, -⟩ := km d ma d1 d9 hd
    exact ⟨kn _ (by rw [z2]; decide), kn _ (by rw [z3]; decide)⟩
  refine ⟨x0, o0, ?_, ?_, ?_, ?_, b0, ?_, ?_, U0, ⟨m1, m2, ?_⟩, ?_, ?_, ?_, ?_, ?_, g0, ⟨a1, a2, a3, a4, ?_, a6⟩, n0⟩
  · exact ⟨c0.1, c0.2.1, fun i hi => by rw [k3 _ _ (by omega)]; exact c0.2.2 i hi⟩
  · exact ⟨l0.1, l0.2.1, fun i hi => by rw [k3 _ _ (by omega)]; exact l0.2.2 i hi⟩
  · exact ⟨t0.1, t0.2.1, fun i hi => by rw [k3 _ _ (by omega)]; exact t0.2.2 i hi⟩
  · exact ⟨u0.1, u0.2.1, fun i hi => by rw [k3 _ _ (by omega)]; exact u0.2.2 i hi⟩
  · intro i hi
    obtain ⟨z1, z2, z3, z4, z5, z6, z7, nn, z8, z9, z10⟩ := L0 i hi
    refine ⟨z1, z2, z3, z4, z5, z6, z7, nn, z8, z9, fun j hj => ?_⟩
    rw [k3 _ _ (by omega)]
    exact z10 j hj
  · intro i hi
    obtain ⟨z1, z2, z3, z4, nn, z5, z6, z7, z8, z9⟩ := T0 i hi
    refine ⟨z1, z2, z3, z4, nn, z5, z6, z7, fun j hj => ?_, z9⟩
    rw [k3 _ _ (by omega)]
    exact z8 j hj
  · intro d d1 d9
    by_cases q : d = e
    · subst q
      exact Or.inl ⟨ms_at _ _ _ _, by rw [tR_get, if_pos ⟨rfl, rfl⟩]⟩
    · rw [ms_ne q, tR_get, if_neg (fun z => q z.2)]
      exact m3 d d1 d9
  · intro d ma d1 d9 hd
    obtain ⟨q, hd⟩ := k5 d ma hd
    obtain ⟨nn, z1, z2, z3, z4⟩ := q0 d ma d1 d9 hd
    refine ⟨nn, z1, z2, z3, fun i hi => ?_⟩
    rw [k3 _ _ (n2 d ma d1 d9 hd).1]
    exact z4 i hi
  · intro d ma d1 d9 hd
    obtain ⟨q, hd⟩ := k5 d ma hd
    obtain ⟨nn, z1, z2, z3, z4⟩ := y0 d ma d1 d9 hd
    refine ⟨nn, z1, z2, z3, fun i hi => ?_⟩
    rw [k3 _ _ (n2 d ma d1 d9 hd).2]
    exact z4 i hi
  · intro d1 d2 ma mb n1 n2' i j a x1 x2 x3 x4 x5 x6
    obtain ⟨q5, x5⟩ := k5 _ _ x5
    obtain ⟨q6, x6⟩ := k5 _ _ x6
    rw [k3 _ _ (n2 d1 ma x1 x2 x5).1, k3 _ _ (n2 d2 mb x3 x4 x6).1]
    exact dq d1 d2 ma mb n1 n2' i j a x1 x2 x3 x4 x5 x6
  · intro d1 d2 ma mb n1 n2' i j a x1 x2 x3 x4 x5 x6
    obtain ⟨q5, x5⟩ := k5 _ _ x5
    obtain ⟨q6, x6⟩ := k5 _ _ x6
    rw [k3 _ _ (n2 d1 ma x1 x2 x5).2, k3 _ _ (n2 d2 mb x3 x4 x6).2]
    exact dy d1 d2 ma mb n1 n2' i j a x1 x2 x3 x4 x5 x6
  · exact ⟨s1, s2, s3, s4, s5, s6, s7, s8, fun k hk => by rw [k3 _ _ (by omega)]; exact s9 k hk, s10⟩
  · intro d d1 d9
    obtain ⟨z1, z2⟩ := a5 d d1 d9
    refine ⟨?_, z2⟩
    rw [ms_get]
    split
    · rfl
    · exact z1
theorem kp_start (B : Nat) : lo_s13 (iV B) B := fun n K M a b _ h => by
  obtain ⟨fz, V, E, P, c, R, hA⟩ := id h
  obtain ⟨r, K', M', h1, h2, ⟨rfl, rfl⟩ | ⟨f, j, ci, k, a', hd, rfl, rfl⟩⟩ := pu_start hA.2.1 hA.2.2.1 hA.2.2.2.1 hA.2.2.2.2.1 hA.2.2.2.2.2.2.1 a b
  · exact ⟨r, _, _, h1, h2, iV_next h⟩
  · exact ⟨r, _, _, h1, h2, fz, V, E, P, c, R, iA_mono (st_up hA hd (Or.inr rfl)) (by omega)⟩
theorem kp_stop (B : Nat) : lo_s12 (iV B) B := fun n K M a b _ h => by
  obtain ⟨fz, V, E, P, c, R, hA⟩ := id h
  obtain ⟨r, K', M', h1, h2, ⟨rfl, rfl⟩ | ⟨f, j, ci, k, a', hd, rfl, rfl⟩ | ⟨e, e1, e9, rfl, rfl⟩⟩ := pu_stop hA.2.1 hA.2.2.1 hA.2.2.2.1 hA.2.2.2.2.1 (iN_of hA) hA.2.2.2.2.2.2.1 a b
  · exact ⟨r, _, _, h1, h2, iV_next h⟩
  · exact ⟨r, _, _, h1, h2, fz, V, E, P, c, R, iA_mono (st_up hA hd (Or.inl rfl)) (by omega)⟩
  · exact ⟨r, _, _, h1, h2, fz, V, E, P, c, R, iA_mono (st_off hA e1 e9) (by omega)⟩
end
