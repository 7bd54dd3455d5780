section
variable {B : Nat} {fz : Nat → Prop} {V : List Int32} {E P : Nat} {D : Nat → Nat} {c : Nat} {R : Nat → Nat} {n : Nat} {K : xk} {M : xm}
theorem and_sub {v m : Int32} (h : ∀ b, b < 32 → bt v b = true → bt m b = true) : v &&& m = v := by
  apply b_ext
  intro i hi
  rw [b_and]
  cases hv : bt v i
  · rfl
  · rw [h i hi hv]; rfl
/-- a question is confirmed by one more log -/
theorem st_qs {e ma p q nq : Nat} {v : Int32} (h : iA B fz V E P D c R n K M) (e1 : 1 ≤ e) (e9 : e ≤ 9) (he : xk_ar K (5 + B) e = some ma) (hn : M 25 e = nI nq) (hn8 : nq ≤ 8) (hp : p < nq) (hq : xk_ar K (ma + 2) p = some q) (hv : ∀ b, b < 32 → bt v b = true → bt (M 18 e) b = true) :
    iA B fz V E P D c R n (xk_sI K 6 3 q v) (xm_s M 29 (8 * e + p) v) := by
  obtain ⟨x0, o0, c0, l0, t0, u0, b0, L0, T0, U0, m0, q0, y0, dq, dy, s0, g0, e0, n0⟩ := id h
  refine ⟨x0, o0, c0, l0, t0, u0, b0, L0, T0, U0, m0, fun d md d1 d9 hd => ?_, y0, dq, dy, s0, g0, e0, n0⟩
  obtain ⟨n1, z1, z2, z3, z4⟩ := q0 d md d1 d9 hd
  refine ⟨n1, z1, z2, z3, fun i hi => ?_⟩
  obtain ⟨q', y1, y2, y3, y4, y5, y6, y7, y8⟩ := z4 i hi
  have hiff : q' = q ↔ 8 * d + i = 8 * e + p := by
    refine ⟨fun z => ?_, fun z => ?_⟩
    · obtain ⟨w1, w2⟩ := dq d e md ma n1 nq i p q d1 d9 e1 e9 hd he z2 z1 hn hn8 hi hp (z ▸ y1) hq
      omega
    · have a1 : d = e := by omega
      have a2 : i = p := by omega
      subst a1
      subst a2
      have hd' : xk_ar K (5 + B) d = some md := hd
      rw [he] at hd'
      cases hd'
      rw [hq] at y1
      cases y1
      rfl
  refine ⟨q', y1, y2, y3, y4, y5, up_eq hiff y6, y7, ?_⟩
  rw [ms_get]
  by_cases z : 8 * d + i = 8 * e + p
  · rw [if_pos ⟨rfl, z⟩]
    have : d = e := by omega
    rw [this]
    exact hv
  · rw [if_neg (fun z' => z z'.2)]
    exact y8
-- a question is taken out
def sq (g : Nat → Option Nat) (p i : Nat) : Nat → Option Nat := fun j => if p ≤ j ∧ j < i then g (j + 1) else g j
def sq_M (M : xm) (a i : Nat) : xm := fun f j => if (26 ≤ f ∧ f ≤ 29) ∧ a ≤ j ∧ j < i then M f (j + 1) else M f j
theorem sqm_get (M : xm) (a i f j : Nat) : sq_M M a i f j = if (26 ≤ f ∧ f ≤ 29) ∧ a ≤ j ∧ j < i then M f (j + 1) else M f j := rfl
theorem sq_0 (g : Nat → Option Nat) (p : Nat) : sq g p p = g := by
  funext j
  exact if_neg (fun h => by omega)
theorem sqm_0 (M : xm) (a : Nat) : sq_M M a a = M := by
  funext f j
  exact if_neg (fun h => by omega)
theorem sq_step (g : Nat → Option Nat) {p i : Nat} (h : p ≤ i) : (fun j => if j = i then g (i + 1) else sq g p i j) = sq g p (i + 1) := by
  funext j
  unfold sq
  by_cases z : j = i
  · subst z
    rw [if_pos rfl, if_pos (by omega)]
  · rw [if_neg z]
    by_cases z2 : p ≤ j ∧ j < i
    · rw [if_pos z2, if_pos (by omega)]
    · rw [if_neg z2, if_neg (by omega)]
theorem sqm_step (M : xm) {a i : Nat} (h : a ≤ i) : xm_s (xm_s (xm_s (xm_s (sq_M M a i) 26 i (M 26 (i + 1))) 27 i (M 27 (i + 1))) 28 i (M 28 (i + 1))) 29 i (M 29 (i + 1)) = sq_M M a (i + 1) := by
  funext f j
  rw [ms_get, ms_get, ms_get, ms_get, sqm_get, sqm_get]
  by_cases z : j = i
  · subst z
    by_cases f6 : f = 26
    · subst f6; rw [if_neg (by omega), if_neg (by omega), if_neg (by omega), if_pos ⟨rfl, rfl⟩, if_pos (by omega)]
    · by_cases f7 : f = 27
      · subst f7; rw [if_neg (by omega), if_neg (by omega), if_pos ⟨rfl, rfl⟩, if_pos (by omega)]
      · by_cases f8 : f = 28
        · subst f8; rw [if_neg (by omega), if_pos ⟨rfl, rfl⟩, if_pos (by omega)]
        · by_cases f9 : f = 29
          · subst f9; rw [if_pos ⟨rfl, rfl⟩, if_pos (by omega)]
          · rw [if_neg (by omega), if_neg (by omega), if_neg (by omega), if_neg (by omega), if_neg (by omega), if_neg (by omega)]
  · rw [if_neg (by omega), if_neg (by omega), if_neg (by omega), if_neg (by omega)]
    by_cases z2 : (26 ≤ f ∧ f ≤ 29) ∧ a ≤ j ∧ j < i
    · rw [if_pos z2, if_pos (by omega)]
    · rw [if_neg z2, if_neg (by omega)]
theorem rq_loop {ma p k : Nat} (k1 : xk_kd K ma = 8 + 1) (k13 : xk_rv K 8 7 ma = some (ma + 2)) (k14 : xk_kd K (ma + 2) = 100 + 9) (k15 : xk_ln K (ma + 2) = 8) (z3 : xk_iv K 8 8 ma = nI k) (hk : k < 8) (hg : ∀ j, j ≤ k → (xk_ar K (ma + 2) j).elim (6 + 1) (xk_kd K) = 6 + 1) :
    ∀ (d i m : Nat), i + d = k → d < m → p ≤ i → kf_Master_removeQuestion_12 m (xk_row K (ma + 2) (sq (xk_ar K (ma + 2)) p i)) ma (nI i) = some (xk_row K (ma + 2) (sq (xk_ar K (ma + 2)) p k)) := by
  intro d
  induction d with
  | zero =>
    intro i m hi hm hp
    obtain ⟨m, rfl⟩ : ∃ m', m = m' + 1 := ⟨m - 1, by omega⟩
    have : i = k := by omega
    subst this
    show kb_Master_removeQuestion_12 (kf_Master_removeQuestion_12 m) _ ma (nI i) = _
    unfold kb_Master_removeQuestion_12
    rw [xI_at (v := nI i) (by exact k1) (by exact z3), xb_some, if_pos (nI_le (Nat.le_refl _) (by omega))]
  | succ d ih =>
    intro i m hi hm hp
    obtain ⟨m, rfl⟩ : ∃ m', m = m' + 1 := ⟨m - 1, by omega⟩
    show kb_Master_removeQuestion_12 (kf_Master_removeQuestion_12 m) _ ma (nI i) = _
    unfold kb_Master_removeQuestion_12
    have e0 : xR (xk_row K (ma + 2) (sq (xk_ar K (ma + 2)) p i)) 8 7 ma = some (some (ma + 2)) := xR_at (by exact k1) (by exact k13)
    have s1 : sq (xk_ar K (ma + 2)) p i (i + 1) = xk_ar K (ma + 2) (i + 1) := if_neg (by omega)
    have e1 : xRa (xk_row K (ma + 2) (sq (xk_ar K (ma + 2)) p i)) 9 (ma + 2) (nI (i + 1)) = some (xk_ar K (ma + 2) (i + 1)) := by rw [xRa_ok (n := 8) (by exact k14) (by exact k15) (by omega) (by decide), row_ar, s1]
    have e2 : xRt (xk_row K (ma + 2) (sq (xk_ar K (ma + 2)) p i)) 9 6 (ma + 2) (nI i) (xk_ar K (ma + 2) (i + 1)) = some (xk_row K (ma + 2) (sq (xk_ar K (ma + 2)) p (i + 1))) := by rw [xRt_ok (n := 8) (by exact k14) (by exact k15) (by omega) (by decide) (by exact hg (i + 1) (by omega)), row_tR, sq_step _ hp]
    rw [xI_at (v := nI k) (by exact k1) (by exact z3), xb_some, if_neg (nI_ge (by omega) (by omega)), e0, xb_some, xb_some, xb_some, nI_1, e1, xb_some, xb_some, e2, xb_some]
    exact ih (i + 1) m (by omega) (by omega) (by omega)
theorem rm_loop {e p k : Nat} (e9 : e ≤ 9) (hk : k < 8) (z2 : M 25 e = nI k) : ∀ (d i m : Nat), i + d = k → d < m → p ≤ i → kf_EM_confirmed_115 m (sq_M M (8 * e + p) (8 * e + i)) (nI e) (nI (8 * e + i)) = some (sq_M M (8 * e + p) (8 * e + k)) := by
  have m25 : ∀ i, xMi (sq_M M (8 * e + p) (8 * e + i)) 25 (nI e) = some (nI k) := fun i => xMi_at (by show e < 10; omega) (by decide) ((if_neg (fun h => by omega)).trans z2)
  intro d
  induction d with
  | zero =>
    intro i m hi hm hp
    obtain ⟨m, rfl⟩ : ∃ m', m = m' + 1 := ⟨m - 1, by omega⟩
    have : i = k := by omega
    subst this
    show kb_EM_confirmed_115 (kf_EM_confirmed_115 m) _ (nI e) (nI (8 * e + i)) = _
    unfold kb_EM_confirmed_115
    rw [m25, xb_some, ix_8, if_pos (nI_le (Nat.le_refl _) (by omega))]
  | succ d ih =>
    intro i m hi hm hp
    obtain ⟨m, rfl⟩ : ∃ m', m = m' + 1 := ⟨m - 1, by omega⟩
    show kb_EM_confirmed_115 (kf_EM_confirmed_115 m) _ (nI e) (nI (8 * e + i)) = _
    unfold kb_EM_confirmed_115 kf_EM_confirmed_163
    have s1 : ∀ f, sq_M M (8 * e + p) (8 * e + i) f (8 * e + i + 1) = M f (8 * e + i + 1) := fun f => if_neg (by omega)
    have b1 : 8 * e + i + 1 < 80 := by omega
    have b0 : 8 * e + i < 80 := by omega
    rw [m25, xb_some, ix_8, if_neg (nI_ge (by omega) (by omega)), nI_1, xMi_at b1 (by decide) (s1 26), xb_some, xMt_ok b0 (by decide), xb_some, xMi_at (v := M 27 (8 * e + i + 1)) b1 (by decide) (by exact s1 27), xb_some, xMt_ok b0 (by decide), xb_some, xMi_at (v := M 28 (8 * e + i + 1)) b1 (by decide) (by exact s1 28), xb_some, xMt_ok b0 (by decide), xb_some, xMi_at (v := M 29 (8 * e + i + 1)) b1 (by decide) (by exact s1 29), xb_some, xMt_ok b0 (by decide), xb_some, sqm_step M (by omega)]
    exact ih (i + 1) m (by omega) (by omega) (by omega)
theorem st_qr {e ma p k : Nat} (h : iA B fz V E P D c R n K M) (e1 : 1 ≤ e) (e9 : e ≤ 9) (he : xk_ar K (5 + B) e = some ma) (hn : M 25 e = nI (k + 1)) (hk : k < 8) (hp : p ≤ k) :
    iA B fz V E P D c R n (xk_row (xk_sI K 8 8 ma (nI k)) (ma + 2) (sq (xk_ar K (ma + 2)) p k)) (sq_M (xm_s M 25 e (nI k)) (8 * e + p) (8 * e + k)) := by
  have hE := le_E h e1 e9 he
  obtain ⟨x0, o0, c0, l0, t0, u0, b0, L0, T0, U0, m0, q0, y0, dq, dy, s0, g0, ⟨p1, p2, p3, p4, p5, p6⟩, n0⟩ := id h
  have k2 : xk_kd K (ma + 2) = 109 := (jM_at m0 e1 e9 he).2.2.2.2.2.2.2.2.2.2.2.2.2.2.1
  have kn : ∀ z, z ≠ 109 → xk_kd K (ma + 2) ≠ z := fun z hz => by rw [k2]; exact fun q => hz q.symm
  obtain ⟨w1, w2, w3, w4, w5, w6, w7, w8, w9, w10, w11, w12, w13, w14⟩ := wa_all (b0 := ma + 2) (α := xk_ar (xk_row K (ma + 2) (sq (xk_ar K (ma + 2)) p k))) h (fun b j hb => row_ne K _ j hb)
  have a5 : ∀ d, xk_ar (xk_row K (ma + 2) (sq (xk_ar K (ma + 2)) p k)) (5 + B) d = xk_ar K (5 + B) d := fun d => row_ne K _ d (fun z => kn 106 (by decide) (by rw [← z]; exact m0.1))
  have g5 : ∀ d, sq_M (xm_s M 25 e (nI k)) (8 * e + p) (8 * e + k) 25 d = if d = e then nI k else M 25 d := fun d => by
    rw [sqm_get, if_neg (fun z => by omega), ms_get]
    by_cases z : d = e
    · rw [if_pos ⟨rfl, z⟩, if_pos z]
    · rw [if_neg (fun y => z y.2), if_neg z]
  have gf : ∀ f x, 26 ≤ f → f ≤ 29 → sq_M (xm_s M 25 e (nI k)) (8 * e + p) (8 * e + k) f x = if 8 * e + p ≤ x ∧ x < 8 * e + k then M f (x + 1) else M f x := fun f x f1 f2 => by
    rw [sqm_get]
    by_cases z : 8 * e + p ≤ x ∧ x < 8 * e + k
    · rw [if_pos ⟨⟨f1, f2⟩, z⟩, if_pos z, ms_get, if_neg (fun y => by omega)]
    · rw [if_neg (fun y => z y.2), if_neg z, ms_get, if_neg (fun y => by omega)]
  refine ⟨w11, w12, w1 (kn _ (by decide)), w2 (kn _ (by decide)), w3 (kn _ (by decide)), w4 (kn _ (by decide)), b0, w5 (kn _ (by decide)), w6 (kn _ (by decide)), w13, w7 (kn _ (by decide)), fun d md d1 d9 hd => ?_, (w9 (kn _ (by decide)) (kn _ (by decide))).1, ?_, (w9 (kn _ (by decide)) (kn _ (by decide))).2, w10 (kn _ (by decide)), w14, ⟨p1, p2, p3, p4, fun d d1 d9 => ?_, p6⟩, n0⟩
  · have hd' : xk_ar K (5 + B) d = some md := (a5 d).symm.trans hd
    have hi := ma_iff m0 e1 e9 d1 d9 he hd'
    obtain ⟨n1, z1, z2, z3, z4⟩ := q0 d md d1 d9 hd'
    by_cases z : d = e
    · subst z
      rw [he] at hd'
      cases hd'
      have : n1 = k + 1 := (nI_eq (by omega) (by omega)).mp (z2.symm.trans hn)
      subst this
      refine ⟨k, by omega, by rw [g5, if_pos rfl], sI_at _ _ _ _ _, fun i hi1 => ?_⟩
      rw [gf 26 _ (by omega) (by omega), gf 27 _ (by omega) (by omega), gf 28 _ (by omega) (by omega), gf 29 _ (by omega) (by omega)]
      have ar : xk_ar (xk_row (xk_sI K 8 8 ma (nI k)) (ma + 2) (sq (xk_ar K (ma + 2)) p k)) (ma + 2) i = if p ≤ i ∧ i < k then xk_ar K (ma + 2) (i + 1) else xk_ar K (ma + 2) i := row_ar _ _ _ _
      rw [ar]
      by_cases hpi : p ≤ i
      · rw [if_pos ⟨hpi, hi1⟩, if_pos (by omega), if_pos (by omega), if_pos (by omega), if_pos (by omega)]
        exact z4 (i + 1) (by omega)
      · rw [if_neg (by omega), if_neg (by omega), if_neg (by omega), if_neg (by omega), if_neg (by omega)]
        exact z4 i (by omega)
    · refine ⟨n1, z1, by rw [g5, if_neg z]; exact z2, ?_, fun i hi1 => ?_⟩
      · show xk_iv (xk_sI K 8 8 ma (nI k)) 8 8 md = nI n1
        rw [sI_ne (fun z' => z (hi.mp z'))]
        exact z3
      · rw [gf 26 _ (by omega) (by omega), gf 27 _ (by omega) (by omega), gf 28 _ (by omega) (by omega), gf 29 _ (by omega) (by omega)]
        have ar : xk_ar (xk_row (xk_sI K 8 8 ma (nI k)) (ma + 2) (sq (xk_ar K (ma + 2)) p k)) (md + 2) i = xk_ar K (md + 2) i := row_ne _ _ _ (fun z' => z (hi.mp (by omega)))
        rw [ar, if_neg (by omega), if_neg (by omega), if_neg (by omega), if_neg (by omega)]
        exact z4 i hi1
  · intro d1 d2 md me n1 n2 i j a x1 x2 x3 x4 x5 x6 x7 x8 x9 x10 x11 x12 x13 x14
    have x5' : xk_ar K (5 + B) d1 = some md := (a5 d1).symm.trans x5
    have x6' : xk_ar K (5 + B) d2 = some me := (a5 d2).symm.trans x6
    rw [g5] at x7 x9
    have look : ∀ {d md' k' x : Nat}, 1 ≤ d → d ≤ 9 → xk_ar K (5 + B) d = some md' → (if d = e then nI k else M 25 d) = nI k' → k' ≤ 8 → x < k' → xk_ar (xk_row (xk_sI K 8 8 ma (nI k)) (ma + 2) (sq (xk_ar K (ma + 2)) p k)) (md' + 2) x = some a → ∃ k2 x', M 25 d = nI k2 ∧ k2 ≤ 8 ∧ x' < k2 ∧ xk_ar K (md' + 2) x' = some a ∧ x' = (if d = e ∧ p ≤ x then x + 1 else x) := fun {d md' k' x} d1 d9 hd hk' hk8 hx ha => by
      have hi := ma_iff m0 e1 e9 d1 d9 he hd
      by_cases z : d = e
      · rw [if_pos z] at hk'
        have ek : k' = k := (nI_eq (by omega) (by omega)).mp hk'.symm
        have em : md' = ma := hi.mpr z
        subst em
        have ar : xk_ar (xk_row (xk_sI K 8 8 md' (nI k)) (md' + 2) (sq (xk_ar K (md' + 2)) p k)) (md' + 2) x = if p ≤ x ∧ x < k then xk_ar K (md' + 2) (x + 1) else xk_ar K (md' + 2) x := row_ar _ _ _ _
        rw [ar] at ha
        by_cases hpx : p ≤ x
        · rw [if_pos (by omega)] at ha
          exact ⟨k + 1, x + 1, by rw [z]; exact hn, by omega, by omega, ha, by rw [if_pos ⟨z, hpx⟩]⟩
        · rw [if_neg (by omega)] at ha
          exact ⟨k + 1, x, by rw [z]; exact hn, by omega, by omega, ha, by rw [if_neg (fun y => hpx y.2)]⟩
      · rw [if_neg z] at hk'
        have ar : xk_ar (xk_row (xk_sI K 8 8 ma (nI k)) (ma + 2) (sq (xk_ar K (ma + 2)) p k)) (md' + 2) x = xk_ar K (md' + 2) x := row_ne _ _ _ (fun z' => z (hi.mp (by omega)))
        rw [ar] at ha
        exact ⟨k', x, hk', hk8, hx, ha, by rw [if_neg (fun y => z y.1)]⟩
    obtain ⟨ka, xa, a1, a2, a3, a4, a5'⟩ := look x1 x2 x5' x7 x8 x11 x13
    obtain ⟨kb, xb', b1, b2, b3, b4, b5⟩ := look x3 x4 x6' x9 x10 x12 x14
    obtain ⟨r1, r2⟩ := dq d1 d2 md me ka kb xa xb' a x1 x2 x3 x4 x5' x6' a1 a2 b1 b2 a3 b3 a4 b4
    refine ⟨r1, ?_⟩
    subst r1
    rw [a5', b5] at r2
    by_cases z1 : d1 = e ∧ p ≤ i <;> by_cases z2 : d1 = e ∧ p ≤ j
    · rw [if_pos z1, if_pos z2] at r2; omega
    · rw [if_pos z1, if_neg z2] at r2; omega
    · rw [if_neg z1, if_pos z2] at r2; omega
    · rw [if_neg z1, if_neg z2] at r2; exact r2
  · obtain ⟨z1, z2, z3, z4⟩ := p5 d d1 d9
    refine ⟨z1, z2, ?_, z4⟩
    rw [g5, if_neg (by omega)]
    exact z3
end
section
variable {B : Nat} {fz : Nat → Prop} {V : List Int32} {E P : Nat} {D : Nat → Nat} {c : Nat} {R : Nat → Nat} {n : Nat} {K : xk} {M : xm}
theorem sc_q {e ma nq : Nat} {x l : Int32} (h : iA B fz V E P D c R n K M) (e1 : 1 ≤ e) (e9 : e ≤ 9) (he : xk_ar K (5 + B) e = some ma) (hn : M 25 e = nI nq) (hn8 : nq ≤ 8) : ∀ d j m, j + d = nq → d < m →
    (kf_Master_placeOfQuestion_2 m K ma x (nI j) = some (-1, K) ∧ kf_EM_confirmed_6 m M l (nI e) x (nI (8 * e + j)) = some M) ∨
    ∃ p, p < nq ∧ kf_Master_placeOfQuestion_2 m K ma x (nI j) = some (nI p, K) ∧ kf_EM_confirmed_6 m M l (nI e) x (nI (8 * e + j)) = kf_EM_confirmed_51 (xm_s M 29 (8 * e + p) (M 29 (8 * e + p) ||| ((1 : Int32) <<< (l &&& 31)))) (nI e) (nI (8 * e + p)) := by
  obtain ⟨x0, o0, c0, l0, t0, u0, b0, L0, T0, U0, m0, q0, y0, dq, dy, s0, g0, e0, n0⟩ := id h
  obtain ⟨k1, k2, k3, k4, k5, k6, k7, k8, k9, k10, k11, k12, k13, k14, k15, k16, k17, k18⟩ := (jM_at m0 e1 e9 he).2
  obtain ⟨n1, z1, z2, z3, z4⟩ := q0 e ma e1 e9 he
  have : n1 = nq := (nI_eq (by omega) (by omega)).mp (z2.symm.trans hn)
  subst this
  have m25 : xMi M 25 (nI e) = some (nI n1) := xMi_at (by show e < 10; omega) (by decide) hn
  intro d
  induction d with
  | zero =>
    intro j m hj hm
    obtain ⟨m, rfl⟩ : ∃ m', m = m' + 1 := ⟨m - 1, by omega⟩
    have : j = n1 := by omega
    subst this
    refine Or.inl ⟨?_, ?_⟩
    · show kb_Master_placeOfQuestion_2 (kf_Master_placeOfQuestion_2 m) K ma x (nI j) = _
      unfold kb_Master_placeOfQuestion_2
      rw [xI_at k1 z3, xb_some, if_pos (nI_le (Nat.le_refl _) (by omega))]
    · show kb_EM_confirmed_6 (kf_EM_confirmed_6 m) M l (nI e) x (nI (8 * e + j)) = _
      unfold kb_EM_confirmed_6
      rw [m25, xb_some, ix_8, if_pos (nI_le (Nat.le_refl _) (by omega))]
  | succ d ih =>
    intro j m hj hm
    obtain ⟨m, rfl⟩ : ∃ m', m = m' + 1 := ⟨m - 1, by omega⟩
    obtain ⟨q, y1, y2, y3, -⟩ := z4 j (by omega)
    have b80 : 8 * e + j < 80 := by omega
    have ek : kf_Master_placeOfQuestion_2 (m + 1) K ma x (nI j) = if M 26 (8 * e + j) = x then some (nI j, K) else kf_Master_placeOfQuestion_2 m K ma x (nI (j + 1)) := by
      show kb_Master_placeOfQuestion_2 (kf_Master_placeOfQuestion_2 m) K ma x (nI j) = _
      unfold kb_Master_placeOfQuestion_2
      rw [xI_at k1 z3, xb_some, if_neg (nI_ge (by omega) (by omega)), xR_at k1 k13, xb_some, xb_some, xRa_ok k14 k15 (by omega) (by decide), y1, xb_some, xb_some, xI_at y2 y3, xb_some, nI_1]
    have em : kf_EM_confirmed_6 (m + 1) M l (nI e) x (nI (8 * e + j)) = if M 26 (8 * e + j) = x then kf_EM_confirmed_51 (xm_s M 29 (8 * e + j) (M 29 (8 * e + j) ||| ((1 : Int32) <<< (l &&& 31)))) (nI e) (nI (8 * e + j)) else kf_EM_confirmed_6 m M l (nI e) x (nI (8 * e + (j + 1))) := by
      show kb_EM_confirmed_6 (kf_EM_confirmed_6 m) M l (nI e) x (nI (8 * e + j)) = _
      unfold kb_EM_confirmed_6 kf_EM_confirmed_205
      rw [m25, xb_some, ix_8, if_neg (nI_ge (by omega) (by omega)), xMi_ok b80 (by decide), xb_some, xMi_ok b80 (by decide), xb_some, xMt_ok b80 (by decide), xb_some, nI_1]
      rfl
    rw [ek, em]
    by_cases hx : M 26 (8 * e + j) = x
    · rw [if_pos hx, if_pos hx]
      exact Or.inr ⟨j, by omega, rfl, rfl⟩
    · rw [if_neg hx, if_neg hx]
      exact ih (j + 1) m (by omega) (by omega)
theorem hd_confirmed {e i ma : Nat} (hA : iA B fz V E P (fun _ => 0) c R n K M) (e1 : 1 ≤ e) (e9 : e ≤ 9) (he : xk_ar K (5 + B) e = some ma) (hi : i < 3) (v0 : xk_iv K 4 0 (R 24) = 3) (v1 : xk_iv K 4 1 (R 24) = nI i) (v5 : xk_iv K 4 5 (R 24) = M 52 24) (hmb : bt (M 18 e) i = true) :
    ∃ K' M', kf_Master_takeConfirmation_0 K ma (R 24) (6 + B) = some K' ∧ kf_EM_confirmed_0 M (nI i) (nI e) (M 52 24) = some M' ∧ dn B n (R 24) 3 K' M' := by
  obtain ⟨x0, o0, c0, l0, t0, u0, b0, L0, T0, U0, m0, q0, y0, dq, dy, s0, g0, e0, n0⟩ := id hA
  have kr := r24 hA
  obtain ⟨k1, k2, k3, k4, k5, k6, k7, k8, k9, k10, k11, k12, k13, k14, k15, k16, k17, k18⟩ := (jM_at m0 e1 e9 he).2
  obtain ⟨nq, z1, z2, z3, z4⟩ := q0 e ma e1 e9 he
  unfold kf_Master_takeConfirmation_0 kf_EM_confirmed_0 kf_Master_placeOfQuestion_0
  have i8 : (8 : Int32) * nI e = nI (8 * e + 0) := pk_mul 8 e
  have hs := sc_q (x := M 52 24) (l := nI i) hA e1 e9 he z2 z1 nq 0 1000 (by omega) (by omega)
  rw [xI_at kr v5, xb_some, xO_ok k1, xb_some, i8]
  rcases hs with ⟨h1, h2⟩ | ⟨p, hp, h1, h2⟩
  · have h1' : kf_Master_placeOfQuestion_2 1000 K ma (M 52 24) 0 = some (-1, K) := h1
    rw [h1', h2, xp_some, if_pos rfl]
    exact ⟨K, M, rfl, rfl, ⟨fz, V, E, P, c, R, hA⟩, kr, v0⟩
  · have h1' : kf_Master_placeOfQuestion_2 1000 K ma (M 52 24) 0 = some (nI p, K) := h1
    have hne : ¬ nI p = (-1 : Int32) := fun z => by
      have t : (-1 : Int32).toInt = -1 := by decide
      have := nI_toInt (n := p) (by omega)
      rw [z, t] at this
      omega
    obtain ⟨q, y1, y2, y3, y4, y5, y6, ⟨cl, ycl, y7⟩, y8⟩ := z4 p hp
    have b80 : 8 * e + p < 80 := by omega
    have b10 : e < 10 := by omega
    have hv : ∀ b, b < 32 → bt (M 29 (8 * e + p) ||| ((1 : Int32) <<< (nI i &&& 31))) b = true → bt (M 18 e) b = true := fun b hb hz => by
      rw [bi_or _ (by omega) hb] at hz
      rcases Bool.or_eq_true_iff.mp hz with w | w
      · exact y8 b hb w
      · rw [of_decide_eq_true w]; exact hmb
    have hB := st_qs (v := M 29 (8 * e + p) ||| ((1 : Int32) <<< (nI i &&& 31))) hA e1 e9 he z2 z1 hp y1 hv
    have hsub := and_sub hv
    rw [h1', h2, xp_some, if_neg hne, xR_at k1 k13, xb_some, xb_some, xRa_ok k14 k15 (by omega) (by decide), y1, xb_some, xb_some, xI_at y2 y6, xb_some, xI_at kr v1, xb_some, xIs_ok y2, xb_some]
    generalize (M 29 (8 * e + p) ||| ((1 : Int32) <<< (nI i &&& 31))) = v at hB hv hsub
    have r87 : xR (xk_sI K 6 3 q v) 8 7 ma = some (some (ma + 2)) := xR_at k1 k13
    have ra : xRa (xk_sI K 6 3 q v) 9 (ma + 2) (nI p) = some (some q) := by rw [xRa_ok (by exact k14) (by exact k15) (by omega) (by decide)]; exact congrArg some y1
    have i63 : xI (xk_sI K 6 3 q v) 6 3 q = some v := xI_at y2 (sI_at _ _ _ _ _)
    have i81 : xI (xk_sI K 6 3 q v) 8 1 ma = some (M 18 e) := xI_at k1 k3
    rw [r87, xb_some, xb_some, ra, xb_some, xb_some, i63, xb_some, i81, xb_some]
    unfold kf_EM_confirmed_51
    have n29 : xMi (xm_s M 29 (8 * e + p) v) 29 (nI (8 * e + p)) = some v := xMi_at b80 (by decide) (ms_at _ _ _ _)
    have n18 : xMi (xm_s M 29 (8 * e + p) v) 18 (nI e) = some (M 18 e) := xMi_ok b10 (by decide)
    have n27 : xMi (xm_s M 29 (8 * e + p) v) 27 (nI (8 * e + p)) = some (M 27 (8 * e + p)) := xMi_ok b80 (by decide)
    have n22 : xMi (xm_s M 29 (8 * e + p) v) 22 (nI e) = some (M 22 e) := xMi_ok b10 (by decide)
    have n28 : xMi (xm_s M 29 (8 * e + p) v) 28 (nI (8 * e + p)) = some (M 28 (8 * e + p)) := xMi_ok b80 (by decide)
    rw [n29, xb_some, n18, xb_some, xb_some, hsub]
    by_cases hm : v = M 18 e
    · rw [if_pos hm, if_pos hm]
      obtain ⟨b, m', K1, M1, c', r1, r2, mlt, kb, hsf, hM1, hAp⟩ := sd_both hB 4 (M 27 (8 * e + p)) (nI e) (M 22 e) (M 28 (8 * e + p))
      have S := hsf (fun _ => 0) (fun _ => none) (fun _ => 0) (fun _ => 0)
      have kA : xk_kd K1 ma = 8 + 1 := (congrFun S.1 _).trans k1
      have kQ : xk_kd K1 q = 6 + 1 := (congrFun S.1 _).trans y2
      have i62 : xk_iv K1 6 2 q = M 28 (8 * e + p) := (S.2.2.1 6 2 _ (by decide) (by decide)).trans y5
      have i85 : xk_iv K1 8 5 ma = M 22 e := (S.2.2.1 8 5 _ (by decide) (by decide)).trans k7
      have j61 : xI (xk_sI K 6 3 q v) 6 1 q = some (M 27 (8 * e + p)) := xI_at y2 y4
      have j80 : xI (xk_sI K 6 3 q v) 8 0 ma = some (nI e) := xI_at k1 k2
      unfold kf_Master_takeConfirmation_51 kf_Master_answer_0
      rw [r87, xb_some, xb_some, ra, xb_some, xb_some, xO_ok (by exact k1), xb_some, j61, xb_some, j80, xb_some, xO_ok (by exact s0.1), xb_some, r1, xp_some, xI_at (by exact kQ) (by exact i62), xb_some, xb_some, xIs_ok (by exact kb), xb_some, mg_sI, xI_at (by exact kA) (by exact i85), xb_some, xIs_ok (by exact kb), xb_some, xb_some, mg_sI, n27, xb_some, n22, xb_some, n28, xb_some, r2, xp_some]
      have hC := hAp (fun i => if i = 3 then M 22 e else if i = 4 then M 28 (8 * e + p) else rs_f 4 (M 27 (8 * e + p)) (nI e) (fun j => xk_iv K1 4 j b) i) (rs_g (fun j => xk_rv K1 4 j b)) (sd_h 4 (M 27 (8 * e + p)) (nI e) (M 22 e) (M 28 (8 * e + p)) (fun c => M1 c m')) (fun x => M1 55 (8 * m' + x)) n ⟨rfl, rfl, rfl, rfl, ⟨cl, ycl, y7⟩, ⟨e, e1, e9, rfl⟩, Or.inr (Or.inr (Or.inr (Or.inl ⟨rfl, rfl⟩)))⟩ (Nat.le_refl _)
      have S2 := hsf (fun i => if i = 3 then M 22 e else if i = 4 then M 28 (8 * e + p) else rs_f 4 (M 27 (8 * e + p)) (nI e) (fun j => xk_iv K1 4 j b) i) (rs_g (fun j => xk_rv K1 4 j b)) (sd_h 4 (M 27 (8 * e + p)) (nI e) (M 22 e) (M 28 (8 * e + p)) (fun c => M1 c m')) (fun x => M1 55 (8 * m' + x))
      generalize mg K1 b (fun i => if i = 3 then M 22 e else if i = 4 then M 28 (8 * e + p) else rs_f 4 (M 27 (8 * e + p)) (nI e) (fun j => xk_iv K1 4 j b) i) (rs_g (fun j => xk_rv K1 4 j b)) = K5 at hC S2
      generalize mm M1 m' (sd_h 4 (M 27 (8 * e + p)) (nI e) (M 22 e) (M 28 (8 * e + p)) (fun c => M1 c m')) (fun x => M1 55 (8 * m' + x)) = M7 at hC S2
      have he5 : xk_ar K5 (5 + B) e = some ma := by rw [S2.2.2.2.2.2.1]; exact he
      have m7 : M7 25 e = nI nq := (congrFun (S2.2.2.2.2.2.2.2.1 25 (by decide)) e).trans z2
      obtain ⟨k, rfl⟩ : ∃ k, nq = k + 1 := ⟨nq - 1, by omega⟩
      have hD := st_qr hC e1 e9 he5 m7 (by omega) (p := p) (by omega)
      obtain ⟨x0', o0', c0', l0', t0', u0', b0', L0', T0', U0', m0', q0', y0', dq', dy', s0', g0', e0', n0'⟩ := id hC
      obtain ⟨h1, h2', h3, h4, h5, h6, h7, h8, h9, h10, h11, h12, h13, h14, h15, h16, h17, h18⟩ := (jM_at m0' e1 e9 he5).2
      obtain ⟨n1, w1, w2, w3, w4⟩ := q0' e ma e1 e9 he5
      have : n1 = k + 1 := (nI_eq (by omega) (by omega)).mp (w2.symm.trans m7)
      subst this
      have hl := rq_loop (K := xk_sI K5 8 8 ma (nI k)) (p := p) (k := k) (by exact h1) (by exact h13) (by exact h14) (by exact h15) (sI_at _ _ _ _ _) (by omega) (fun j hj => by
        obtain ⟨q', t1, t2, -⟩ := w4 j (by omega)
        show (xk_ar K5 (ma + 2) j).elim (6 + 1) (xk_kd K5) = 6 + 1
        rw [t1]
        exact t2) (k - p) p 1000 (by omega) (by omega) (Nat.le_refl _)
      rw [sq_0, row_self] at hl
      have m25' : xMi M7 25 (nI e) = some (nI (k + 1)) := xMi_at b10 (by decide) m7
      have hr := rm_loop (M := xm_s M7 25 e (nI k)) (p := p) e9 (k := k) (by omega) (ms_at _ _ _ _) (k - p) p 1000 (by omega) (by omega) (Nat.le_refl _)
      rw [sqm_0] at hr
      unfold kf_Master_removeQuestion_0 kf_EM_confirmed_101
      rw [xO_ok h1, xb_some, xI_at h1 w3, xb_some, nI_pred, xIs_ok h1, xb_some, hl, xb_some, m25', xb_some, nI_pred, xMt_ok b10 (by decide), xb_some, hr]
      refine ⟨_, _, rfl, rfl, ⟨fz, V, E, P, c', R, hD⟩, r24 hD, ?_⟩
      show xk_iv K5 4 0 (R 24) = 3
      exact (S2.2.2.2.2.2.2.2.2.1 0).trans v0
    · rw [if_neg hm, if_neg hm]
      exact ⟨_, _, rfl, rfl, ⟨fz, V, E, P, c, R, hB⟩, kr, v0⟩
end
