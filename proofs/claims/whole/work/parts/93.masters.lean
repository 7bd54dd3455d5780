section
variable {B : Nat} {fz : Nat → Prop} {V : List Int32} {E P : Nat} {D : Nat → Nat} {c : Nat} {R : Nat → Nat} {n : Nat} {K : xk} {M : xm}
/-- more objects, nothing else -/
def ag (K K' : xk) : Prop := ∀ a, xk_kd K a ≠ 0 → xk_kd K' a = xk_kd K a ∧ xk_ln K' a = xk_ln K a ∧ (∀ c j, xk_iv K' c j a = xk_iv K c j a) ∧ (∀ c j, xk_rv K' c j a = xk_rv K c j a) ∧ (∀ j, xk_ai K' a j = xk_ai K a j) ∧ ∀ j, xk_ar K' a j = xk_ar K a j
theorem ag_new {K : xk} {B : Nat} (h : iX K B) (k l : Nat) : ag K (xk_new K k l) := fun _ ha => nw_at K k l (iX_ne h ha)
theorem ag_tr {K K' K2 : xk} (h : ag K K') (g : ag K' K2) : ag K K2 := fun a ha => by
  obtain ⟨a1, a2, a3, a4, a5, a6⟩ := h a ha
  obtain ⟨b1, b2, b3, b4, b5, b6⟩ := g a (by rw [a1]; exact ha)
  exact ⟨b1.trans a1, b2.trans a2, fun c j => (b3 c j).trans (a3 c j), fun c j => (b4 c j).trans (a4 c j), fun j => (b5 j).trans (a5 j), fun j => (b6 j).trans (a6 j)⟩
/-- a store at an address that the old world does not have -/
theorem ag_sI {K K' : xk} (h : ag K K') {a : Nat} (ha : xk_kd K a = 0) (c k : Nat) (v : Int32) : ag K (xk_sI K' c k a v) := fun b hb => by
  obtain ⟨a1, a2, a3, a4⟩ := h b hb
  refine ⟨a1, a2, fun c' j => ?_, a4⟩
  have hne : b ≠ a := fun z => hb (by rw [z]; exact ha)
  rw [sI_ne hne]
  exact a3 c' j
theorem ag_sR {K K' : xk} (h : ag K K') {a : Nat} (ha : xk_kd K a = 0) (c k : Nat) (v : Option Nat) : ag K (xk_sR K' c k a v) := fun b hb => by
  obtain ⟨a1, a2, a3, a4, a5⟩ := h b hb
  refine ⟨a1, a2, a3, fun c' j => ?_, a5⟩
  have hne : b ≠ a := fun z => hb (by rw [z]; exact ha)
  rw [sR_ne hne]
  exact a4 c' j
theorem wr_ag {K K' : xk} (h : ag K K') {w : Nat} {m : Int32} {f : Nat → Int32} (hw : wr K w m f) : wr K' w m f := by
  obtain ⟨r1, r2, r3, r4, r5, r6⟩ := hw
  obtain ⟨a1, a2, a3, a4, a5, a6⟩ := h w (by omega)
  obtain ⟨b1, b2, b3, b4, b5, b6⟩ := h (w + 1) (by omega)
  exact ⟨a1.trans r1, (a3 2 0).trans r2, (a4 2 1).trans r3, b1.trans r4, b2.trans r5, fun x hx hb => (b5 x).trans (r6 x hx hb)⟩
theorem ag_fr {K K' : xk} (h : ag K K') : fr K K' := fun a ha => by
  obtain ⟨a1, a2, a3, a4, a5, a6⟩ := h a ha
  exact ⟨a1, a2, fun c j _ => a3 c j, fun c j _ => a4 c j, a6⟩
theorem iA_ag {K' : xk} (h : iA B fz V E P D c R n K M) (hg : ag K K') (hX : iX K' B) : iA B fz V E P D c R n K' M := by
  obtain ⟨r1, r2, r3, r4, r5, r6, r7, r8, r9, r10, r11, r12, r13, r14⟩ := iA_fr (gz := fz) (U := V) h (ag_fr hg) (fun a _ ha j => (hg _ ha).2.2.2.2.1 j) (fun w m f _ hw => wr_ag hg hw) (fun _ z _ => z) (fun _ z => z) (Nat.le_refl _)
  obtain ⟨x0, o0, c0, l0, t0, u0, b0, L0, T0, ⟨U1, U2⟩, m0, q0, y0, dq, dy, s0, g0, e0, n0⟩ := h
  have rv : ∀ i, i < 3 → xk_rv K' 11 8 (50 + 3 * i + B) = xk_rv K 11 8 (50 + 3 * i + B) := fun i hi => (hg _ (by rw [(u0.2.2 i hi).2.1]; decide)).2.2.2.1 11 8
  refine ⟨hX, r1, r2, r3, r4, r5, b0, r6, r7, ⟨fun i hi => ?_, fun i k w hi hk => ?_⟩, r8, r9, r10, r11, r12, r13, r14, e0, n0⟩
  · obtain ⟨w, w1, w2, w3⟩ := U1 i hi
    exact ⟨w, (rv i hi).trans w1, wr_ag hg w2, w3⟩
  · rw [rv i hi, rv k hk]
    exact U2 i k w hi hk
-- a master's numbers
theorem ma_inj (m0 : jM K M B) {e d ma md : Nat} (e1 : 1 ≤ e) (e9 : e ≤ 9) (d1 : 1 ≤ d) (d9 : d ≤ 9) (he : xk_ar K (5 + B) e = some ma) (hd : xk_ar K (5 + B) d = some md) (h : md = ma) : d = e := by
  have h1 := (jM_at m0 e1 e9 he).2.2.1
  have h2 := (jM_at m0 d1 d9 hd).2.2.1
  rw [h] at h2
  exact (nI_eq (by omega) (by omega)).mp (h2.symm.trans h1)
theorem ma_iff (m0 : jM K M B) {e d ma md : Nat} (e1 : 1 ≤ e) (e9 : e ≤ 9) (d1 : 1 ≤ d) (d9 : d ≤ 9) (he : xk_ar K (5 + B) e = some ma) (hd : xk_ar K (5 + B) d = some md) : md = ma ↔ d = e := by
  refine ⟨ma_inj m0 e1 e9 d1 d9 he hd, fun z => ?_⟩
  subst z
  rw [he] at hd
  cases hd
  rfl
theorem le_E (h : iA B fz V E P D c R n K M) {e ma : Nat} (e1 : 1 ≤ e) (e9 : e ≤ 9) (he : xk_ar K (5 + B) e = some ma) : e ≤ E := by
  obtain ⟨x0, o0, c0, l0, t0, u0, b0, L0, T0, U0, m0, q0, y0, dq, dy, s0, g0, e0, n0⟩ := h
  rcases Nat.lt_or_ge E e with z | z
  · have h1 := (e0.2.2.2.2.1 e z e9).1
    have h2 := (jM_at m0 e1 e9 he).1
    rw [h1] at h2
    exact absurd h2 (by decide)
  · exact z
theorem st_m3 {e ma : Nat} {v : Int32} (h : iA B fz V E P D c R n K M) (e1 : 1 ≤ e) (e9 : e ≤ 9) (he : xk_ar K (5 + B) e = some ma) : iA B fz V E P D c R n (xk_sI K 8 3 ma v) (xm_s M 20 e v) := by
  have hE := le_E h e1 e9 he
  obtain ⟨x0, o0, c0, l0, t0, u0, b0, L0, T0, U0, m0, q0, y0, dq, dy, s0, g0, e0, n0⟩ := h
  refine ⟨x0, o0, c0, l0, t0, u0, b0, L0, T0, U0, ⟨m0.1, m0.2.1, fun d d1 d9 => ?_⟩, q0, y0, dq, dy, s0, g0, e0, n0⟩
  · refine (m0.2.2 d d1 d9).imp id (fun ⟨z, md, a1, a2⟩ => ⟨z, md, a1, ?_⟩)
    obtain ⟨k1, k2, k3, k4, k5, k6, k7, k8, k9, k10, k11, k12, k13, k14, k15, k16, k17, k18⟩ := a2
    exact ⟨k1, k2, k3, k4, up_eq (ma_iff m0 e1 e9 d1 d9 he a1) k5, k6, k7, k8, k9, k10, k11, k12, k13, k14, k15, k16, k17, k18⟩
theorem st_m4 {e ma : Nat} {v : Int32} (h : iA B fz V E P D c R n K M) (e1 : 1 ≤ e) (e9 : e ≤ 9) (he : xk_ar K (5 + B) e = some ma) : iA B fz V E P D c R n (xk_sI K 8 4 ma v) (xm_s M 21 e v) := by
  have hE := le_E h e1 e9 he
  obtain ⟨x0, o0, c0, l0, t0, u0, b0, L0, T0, U0, m0, q0, y0, dq, dy, s0, g0, e0, n0⟩ := h
  refine ⟨x0, o0, c0, l0, t0, u0, b0, L0, T0, U0, ⟨m0.1, m0.2.1, fun d d1 d9 => ?_⟩, q0, y0, dq, dy, s0, g0, e0, n0⟩
  · refine (m0.2.2 d d1 d9).imp id (fun ⟨z, md, a1, a2⟩ => ⟨z, md, a1, ?_⟩)
    obtain ⟨k1, k2, k3, k4, k5, k6, k7, k8, k9, k10, k11, k12, k13, k14, k15, k16, k17, k18⟩ := a2
    exact ⟨k1, k2, k3, k4, k5, up_eq (ma_iff m0 e1 e9 d1 d9 he a1) k6, k7, k8, k9, k10, k11, k12, k13, k14, k15, k16, k17, k18⟩
theorem st_m5 {e ma : Nat} {v : Int32} (h : iA B fz V E P D c R n K M) (e1 : 1 ≤ e) (e9 : e ≤ 9) (he : xk_ar K (5 + B) e = some ma) : iA B fz V E P D c R n (xk_sI K 8 5 ma v) (xm_s M 22 e v) := by
  have hE := le_E h e1 e9 he
  obtain ⟨x0, o0, c0, l0, t0, u0, b0, L0, T0, U0, m0, q0, y0, dq, dy, s0, g0, e0, n0⟩ := h
  refine ⟨x0, o0, c0, l0, t0, u0, b0, L0, T0, U0, ⟨m0.1, m0.2.1, fun d d1 d9 => ?_⟩, q0, y0, dq, dy, s0, g0, e0, n0⟩
  · refine (m0.2.2 d d1 d9).imp id (fun ⟨z, md, a1, a2⟩ => ⟨z, md, a1, ?_⟩)
    obtain ⟨k1, k2, k3, k4, k5, k6, k7, k8, k9, k10, k11, k12, k13, k14, k15, k16, k17, k18⟩ := a2
    exact ⟨k1, k2, k3, k4, k5, k6, up_eq (ma_iff m0 e1 e9 d1 d9 he a1) k7, k8, k9, k10, k11, k12, k13, k14, k15, k16, k17, k18⟩
theorem st_m9 {e ma : Nat} {v : Int32} (h : iA B fz V E P D c R n K M) (e1 : 1 ≤ e) (e9 : e ≤ 9) (he : xk_ar K (5 + B) e = some ma) : iA B fz V E P D c R n (xk_sI K 8 9 ma v) (xm_s M 24 e v) := by
  have hE := le_E h e1 e9 he
  obtain ⟨x0, o0, c0, l0, t0, u0, b0, L0, T0, U0, m0, q0, y0, dq, dy, s0, g0, ⟨p1, p2, p3, p4, p5, p6⟩, n0⟩ := h
  refine ⟨x0, o0, c0, l0, t0, u0, b0, L0, T0, U0, ⟨m0.1, m0.2.1, fun d d1 d9 => ?_⟩, q0, y0, dq, dy, s0, g0, ⟨p1, p2, p3, p4, fun d d1 d9 => ?_, p6⟩, n0⟩
  · refine (m0.2.2 d d1 d9).imp id (fun ⟨z, md, a1, a2⟩ => ⟨z, md, a1, ?_⟩)
    obtain ⟨k1, k2, k3, k4, k5, k6, k7, k8, k9, k10, k11, k12, k13, k14, k15, k16, k17, k18⟩ := a2
    exact ⟨k1, k2, k3, k4, k5, k6, k7, up_eq (ma_iff m0 e1 e9 d1 d9 he a1) k8, k9, k10, k11, k12, k13, k14, k15, k16, k17, k18⟩
  · obtain ⟨z1, z2, z3⟩ := p5 d d1 d9
    refine ⟨z1, ?_, z3⟩
    rw [ms_ne (by omega)]
    exact z2
end
section
variable {B : Nat} {fz : Nat → Prop} {V : List Int32} {E P : Nat} {D : Nat → Nat} {c : Nat} {R : Nat → Nat} {n : Nat} {K : xk} {M : xm}
theorem bt_tf {b : Bool} (h : ¬ b = true) : b = false := by cases b; rfl; exact absurd rfl h
def qs_M (M : xm) (e nq : Nat) (x y z : Int32) : xm := xm_s (xm_s (xm_s (xm_s (xm_s M 25 e (nI (nq + 1))) 26 (8 * e + nq) x) 27 (8 * e + nq) y) 28 (8 * e + nq) z) 29 (8 * e + nq) 0
/-- a question is put behind the others -/
theorem st_q {e ma nq q : Nat} (h : iA B fz V E P D c R n K M) (e1 : 1 ≤ e) (e9 : e ≤ 9) (he : xk_ar K (5 + B) e = some ma) (hn : M 25 e = nI nq) (hlt : nq < 8) (kq : xk_kd K q = 6 + 1)
    (hf : ∀ d md k j b, 1 ≤ d → d ≤ 9 → xk_ar K (5 + B) d = some md → M 25 d = nI k → k ≤ 8 → j < k → xk_ar K (md + 2) j = some b → b ≠ q) (hc : ∃ i : Nat, i < 3 ∧ xk_iv K 6 1 q = nI i) (h3 : xk_iv K 6 3 q = 0) :
    iA B fz V E P D c R n (xk_sI (xk_tR K (ma + 2) nq (some q)) 8 8 ma (nI (nq + 1))) (qs_M M e nq (xk_iv K 6 0 q) (xk_iv K 6 1 q) (xk_iv K 6 2 q)) := by
  have hE := le_E h e1 e9 he
  obtain ⟨x0, o0, c0, l0, t0, u0, b0, L0, T0, U0, m0, q0, y0, dq, dy, s0, g0, ⟨p1, p2, p3, p4, p5, p6⟩, n0⟩ := id h
  have k2 : xk_kd K (ma + 2) = 109 := (jM_at m0 e1 e9 he).2.2.2.2.2.2.2.2.2.2.2.2.2.2.1
  have kn : ∀ z, z ≠ 109 → xk_kd K (ma + 2) ≠ z := fun z hz => by rw [k2]; exact fun q => hz q.symm
  obtain ⟨w1, w2, w3, w4, w5, w6, w7, w8, w9, w10, w11, w12, w13, w14⟩ := wa_all (b0 := ma + 2) (α := xk_ar (xk_tR K (ma + 2) nq (some q))) h (fun b j hb => by rw [tR_get, if_neg (fun z => hb z.1)])
  have a5 : ∀ d, xk_ar (xk_tR K (ma + 2) nq (some q)) (5 + B) d = xk_ar K (5 + B) d := fun d => by rw [tR_get, if_neg (fun z => kn 106 (by decide) (by rw [← z.1]; exact m0.1))]
  have g5 : ∀ d, qs_M M e nq (xk_iv K 6 0 q) (xk_iv K 6 1 q) (xk_iv K 6 2 q) 25 d = if d = e then nI (nq + 1) else M 25 d := fun d => by
    show xm_s M 25 e (nI (nq + 1)) 25 d = _
    rw [ms_get]
    by_cases z : d = e
    · rw [if_pos ⟨rfl, z⟩, if_pos z]
    · rw [if_neg (fun y => z y.2), if_neg z]
  have g6 : ∀ x, qs_M M e nq (xk_iv K 6 0 q) (xk_iv K 6 1 q) (xk_iv K 6 2 q) 26 x = if x = 8 * e + nq then xk_iv K 6 0 q else M 26 x := fun x => by
    show xm_s (xm_s M 25 e (nI (nq + 1))) 26 (8 * e + nq) (xk_iv K 6 0 q) 26 x = _
    rw [ms_get]
    by_cases z : x = 8 * e + nq
    · rw [if_pos ⟨rfl, z⟩, if_pos z]
    · rw [if_neg (fun y => z y.2), if_neg z]; rfl
  have g7 : ∀ x, qs_M M e nq (xk_iv K 6 0 q) (xk_iv K 6 1 q) (xk_iv K 6 2 q) 27 x = if x = 8 * e + nq then xk_iv K 6 1 q else M 27 x := fun x => by
    show xm_s (xm_s (xm_s M 25 e (nI (nq + 1))) 26 (8 * e + nq) (xk_iv K 6 0 q)) 27 (8 * e + nq) (xk_iv K 6 1 q) 27 x = _
    rw [ms_get]
    by_cases z : x = 8 * e + nq
    · rw [if_pos ⟨rfl, z⟩, if_pos z]
    · rw [if_neg (fun y => z y.2), if_neg z]; rfl
  have g8 : ∀ x, qs_M M e nq (xk_iv K 6 0 q) (xk_iv K 6 1 q) (xk_iv K 6 2 q) 28 x = if x = 8 * e + nq then xk_iv K 6 2 q else M 28 x := fun x => by
    show xm_s (xm_s (xm_s (xm_s M 25 e (nI (nq + 1))) 26 (8 * e + nq) (xk_iv K 6 0 q)) 27 (8 * e + nq) (xk_iv K 6 1 q)) 28 (8 * e + nq) (xk_iv K 6 2 q) 28 x = _
    rw [ms_get]
    by_cases z : x = 8 * e + nq
    · rw [if_pos ⟨rfl, z⟩, if_pos z]
    · rw [if_neg (fun y => z y.2), if_neg z]; rfl
  have g9 : ∀ x, qs_M M e nq (xk_iv K 6 0 q) (xk_iv K 6 1 q) (xk_iv K 6 2 q) 29 x = if x = 8 * e + nq then 0 else M 29 x := fun x => by
    unfold qs_M
    rw [ms_get]
    by_cases z : x = 8 * e + nq
    · rw [if_pos ⟨rfl, z⟩, if_pos z]
    · rw [if_neg (fun y => z y.2), if_neg z]; rfl
  refine ⟨w11, w12, w1 (kn _ (by decide)), w2 (kn _ (by decide)), w3 (kn _ (by decide)), w4 (kn _ (by decide)), b0, w5 (kn _ (by decide)), w6 (kn _ (by decide)), w13, w7 (kn _ (by decide)), fun d md d1 d9 hd => ?_, (w9 (kn _ (by decide)) (kn _ (by decide))).1, ?_, (w9 (kn _ (by decide)) (kn _ (by decide))).2, w10 (kn _ (by decide)), w14, ⟨p1, p2, p3, p4, fun d d1 d9 => ?_, p6⟩, n0⟩
  · have hd' : xk_ar K (5 + B) d = some md := (a5 d).symm.trans hd
    have hi := ma_iff m0 e1 e9 d1 d9 he hd'
    obtain ⟨n1, z1, z2, z3, z4⟩ := q0 d md d1 d9 hd'
    have keep : ∀ i, i < n1 → (d = e → i < nq) → ∃ q', xk_ar (xk_tR K (ma + 2) nq (some q)) (md + 2) i = some q' ∧ xk_kd K q' = 6 + 1 ∧ xk_iv K 6 0 q' = qs_M M e nq (xk_iv K 6 0 q) (xk_iv K 6 1 q) (xk_iv K 6 2 q) 26 (8 * d + i) ∧ xk_iv K 6 1 q' = qs_M M e nq (xk_iv K 6 0 q) (xk_iv K 6 1 q) (xk_iv K 6 2 q) 27 (8 * d + i) ∧ xk_iv K 6 2 q' = qs_M M e nq (xk_iv K 6 0 q) (xk_iv K 6 1 q) (xk_iv K 6 2 q) 28 (8 * d + i) ∧ xk_iv K 6 3 q' = qs_M M e nq (xk_iv K 6 0 q) (xk_iv K 6 1 q) (xk_iv K 6 2 q) 29 (8 * d + i) ∧ (∃ c' : Nat, c' < 3 ∧ qs_M M e nq (xk_iv K 6 0 q) (xk_iv K 6 1 q) (xk_iv K 6 2 q) 27 (8 * d + i) = nI c') ∧ ∀ b, b < 32 → bt (qs_M M e nq (xk_iv K 6 0 q) (xk_iv K 6 1 q) (xk_iv K 6 2 q) 29 (8 * d + i)) b = true → bt (M 18 d) b = true := fun i hi1 hi2 => by
      obtain ⟨q', y1, y2, y3, y4, y5, y6, y7, y8⟩ := z4 i hi1
      have hne : 8 * d + i ≠ 8 * e + nq := by omega
      have hne2 : ¬ (md + 2 = ma + 2 ∧ i = nq) := fun z => by have := hi.mp (by omega); omega
      rw [g6, g7, g8, g9, if_neg hne, if_neg hne, if_neg hne, if_neg hne, tR_get, if_neg hne2]
      exact ⟨q', y1, y2, y3, y4, y5, y6, y7, y8⟩
    by_cases z : d = e
    · subst z
      rw [he] at hd'
      cases hd'
      have : n1 = nq := (nI_eq (by omega) (by omega)).mp (z2.symm.trans hn)
      subst this
      refine ⟨n1 + 1, by omega, by rw [g5, if_pos rfl], sI_at _ _ _ _ _, fun i hi1 => ?_⟩
      by_cases hi2 : i = n1
      · subst hi2
        have e5 : xk_ar (xk_tR K (ma + 2) i (some q)) (ma + 2) i = some q := by rw [tR_get, if_pos ⟨rfl, rfl⟩]
        refine ⟨q, e5, kq, ?_, ?_, ?_, ?_, ?_, ?_⟩
        · rw [g6, if_pos rfl]; rfl
        · rw [g7, if_pos rfl]; rfl
        · rw [g8, if_pos rfl]; rfl
        · rw [g9, if_pos rfl]; exact h3
        · rw [g7, if_pos rfl]; exact hc
        · rw [g9, if_pos rfl]
          intro b _ hb
          rw [b_0] at hb
          cases hb
      · exact keep i (by omega) (fun _ => by omega)
    · refine ⟨n1, z1, by rw [g5, if_neg z]; exact z2, ?_, fun i hi1 => keep i hi1 (fun z' => absurd z' z)⟩
      rw [sI_ne (fun z' => z (hi.mp z'))]
      exact z3
  · intro d1 d2 md me n1 n2 i j a x1 x2 x3 x4 x5 x6 x7 x8 x9 x10 x11 x12 x13 x14
    have x5' : xk_ar K (5 + B) d1 = some md := (a5 d1).symm.trans x5
    have x6' : xk_ar K (5 + B) d2 = some me := (a5 d2).symm.trans x6
    have hi1 := ma_iff m0 e1 e9 x1 x2 he x5'
    have hi2 := ma_iff m0 e1 e9 x3 x4 he x6'
    have x13' : (if md + 2 = ma + 2 ∧ i = nq then some q else xk_ar K (md + 2) i) = some a := x13
    have x14' : (if me + 2 = ma + 2 ∧ j = nq then some q else xk_ar K (me + 2) j) = some a := x14
    rw [g5] at x7 x9
    have c1 : ∀ {d md' k : Nat}, (md' = ma ↔ d = e) → (if d = e then nI (nq + 1) else M 25 d) = nI k → k ≤ 8 → ∀ {x : Nat}, x < k → ¬ (md' + 2 = ma + 2 ∧ x = nq) → ∃ k', M 25 d = nI k' ∧ k' ≤ 8 ∧ x < k' := fun {d md' k} hi hk hk8 {x} hx hz => by
      by_cases z : d = e
      · rw [if_pos z] at hk
        have : k = nq + 1 := (nI_eq (by omega) (by omega)).mp hk.symm
        refine ⟨nq, by rw [z]; exact hn, by omega, ?_⟩
        have : x ≠ nq := fun z' => hz ⟨by have := hi.mpr z; omega, z'⟩
        omega
      · rw [if_neg z] at hk
        exact ⟨k, hk, hk8, hx⟩
    by_cases z1 : md + 2 = ma + 2 ∧ i = nq
    · rw [if_pos z1] at x13'
      cases x13'
      by_cases z2 : me + 2 = ma + 2 ∧ j = nq
      · have h1 := hi1.mp (by omega)
        have h2 := hi2.mp (by omega)
        exact ⟨by omega, by omega⟩
      · rw [if_neg z2] at x14'
        obtain ⟨k', k1, k2', k3⟩ := c1 hi2 x9 x10 x12 z2
        exact absurd rfl (hf d2 me k' j q x3 x4 x6' k1 k2' k3 x14')
    · rw [if_neg z1] at x13'
      obtain ⟨k', k1, k2', k3⟩ := c1 hi1 x7 x8 x11 z1
      by_cases z2 : me + 2 = ma + 2 ∧ j = nq
      · rw [if_pos z2] at x14'
        cases x14'
        exact absurd rfl (hf d1 md k' i q x1 x2 x5' k1 k2' k3 x13')
      · rw [if_neg z2] at x14'
        obtain ⟨k2'', k21, k22, k23⟩ := c1 hi2 x9 x10 x12 z2
        exact dq d1 d2 md me k' k2'' i j a x1 x2 x3 x4 x5' x6' k1 k2' k21 k22 k3 k23 x13' x14'
  · obtain ⟨z1, z2, z3, z4⟩ := p5 d d1 d9
    refine ⟨z1, z2, ?_, z4⟩
    rw [g5, if_neg (by omega)]
    exact z3
theorem lp_ask {e ma : Nat} (e1 : 1 ≤ e) (e9 : e ≤ 9) : ∀ (d l m : Nat), l + d = 3 → d < m → ∀ (K : xk) (M : xm) (c : Nat), iA B fz V E P D c R n K M → xk_ar K (5 + B) e = some ma →
    ∃ K' M' c', kf_Master_openQuestion_60 m K ma (6 + B) (nI l) = some K' ∧ kf_EM_ask_85 m M (nI e) (nI l) = some M' ∧ iA B fz V E P D c' R n K' M' ∧ sf (R 24) K K' M M' := by
  intro d
  induction d with
  | zero =>
    intro l m hl hm K M c h he
    obtain ⟨m, rfl⟩ : ∃ m', m = m' + 1 := ⟨m - 1, by omega⟩
    have : l = 3 := by omega
    subst this
    refine ⟨K, M, c, ?_, ?_, h, sf_rf⟩
    · show kb_Master_openQuestion_60 (kf_Master_openQuestion_60 m) K ma (6 + B) (nI 3) = _
      unfold kb_Master_openQuestion_60
      rw [if_pos (show (3 : Int32) ≤ nI 3 from nI_le (a := 3) (b := 3) (Nat.le_refl _) (by decide))]
    · show kb_EM_ask_85 (kf_EM_ask_85 m) M (nI e) (nI 3) = _
      unfold kb_EM_ask_85
      rw [if_pos (show (3 : Int32) ≤ nI 3 from nI_le (a := 3) (b := 3) (Nat.le_refl _) (by decide))]
  | succ d ih =>
    intro l m hl hm K M c h he
    obtain ⟨m, rfl⟩ : ∃ m', m = m' + 1 := ⟨m - 1, by omega⟩
    have l3 : ¬ (3 : Int32) ≤ nI l := nI_ge (a := l) (b := 3) (by omega) (by decide)
    obtain ⟨x0, o0, c0, l0, t0, u0, b0, L0, T0, U0, m0, q0, y0, dq, dy, s0, g0, e0, n0⟩ := id h
    obtain ⟨k1, k2, k3, k4, k5, k6, k7, k8, -⟩ := (jM_at m0 e1 e9 he).2
    show ∃ K' M' c', kb_Master_openQuestion_60 (kf_Master_openQuestion_60 m) K ma (6 + B) (nI l) = some K' ∧ kb_EM_ask_85 (kf_EM_ask_85 m) M (nI e) (nI l) = some M' ∧ _
    unfold kb_Master_openQuestion_60 kb_EM_ask_85 kf_EM_ask_122
    have m18 : xMi M 18 (nI e) = some (M 18 e) := xMi_ok (by show e < 10; omega) (by decide)
    have m24 : xMi M 24 (nI e) = some (M 24 e) := xMi_ok (by show e < 10; omega) (by decide)
    rw [if_neg l3, if_neg l3, xI_at k1 k3, xb_some, m18, xb_some, nI_1]
    by_cases hb : bt (M 18 e) l = true
    · obtain ⟨b, m', K1, M1, c', r1, r2, mlt, kb, hsf, hM1, hAp⟩ := sd_both h 2 (nI l) (nI e) 0 (M 24 e)
      have S := hsf (fun _ => 0) (fun _ => none) (fun _ => 0) (fun _ => 0)
      have kA : xk_kd K1 ma = 8 + 1 := (congrFun S.1 _).trans k1
      have i9 : xk_iv K1 8 9 ma = M 24 e := (S.2.2.1 8 9 _ (by decide) (by decide)).trans k8
      rw [if_neg (fun z => by rw [(bi_c _ (by omega)).mp z] at hb; cases hb), if_pos ((bi_m _ (by omega)).mpr hb), xI_at k1 k2, xb_some, xO_ok s0.1, xb_some, r1, xp_some, xI_at (by exact kA) (by exact i9), xb_some, xb_some, xIs_ok (by exact kb), xb_some, mg_sI, m24, xb_some, r2, xp_some]
      have hB := hAp (fun i => if i = 5 then M 24 e else rs_f 2 (nI l) (nI e) (fun j => xk_iv K1 4 j b) i) (rs_g (fun j => xk_rv K1 4 j b)) (sd_h 2 (nI l) (nI e) 0 (M 24 e) (fun c => M1 c m')) (fun x => M1 55 (8 * m' + x)) n ⟨rfl, rfl, rfl, rfl, ⟨l, by omega, rfl⟩, ⟨e, e1, e9, rfl⟩, Or.inr (Or.inl ⟨rfl, rfl, rfl⟩)⟩ (Nat.le_refl _)
      have S2 := hsf (fun i => if i = 5 then M 24 e else rs_f 2 (nI l) (nI e) (fun j => xk_iv K1 4 j b) i) (rs_g (fun j => xk_rv K1 4 j b)) (sd_h 2 (nI l) (nI e) 0 (M 24 e) (fun c => M1 c m')) (fun x => M1 55 (8 * m' + x))
      obtain ⟨K', M', c2, q1, q2, q3, q4⟩ := ih (l + 1) m (by omega) (by omega) _ _ _ hB (by rw [S2.2.2.2.2.2.1]; exact he)
      exact ⟨K', M', c2, q1, q2, q3, sf_tr S2 q4⟩
    · rw [if_pos ((bi_c _ (by omega)).mpr (bt_tf hb)), if_neg (fun z => hb ((bi_m _ (by omega)).mp z))]
      exact ih (l + 1) m (by omega) (by omega) K M c h he
end
section
variable {B : Nat} {fz : Nat → Prop} {V : List Int32} {E P : Nat} {D : Nat → Nat} {c : Nat} {R : Nat → Nat} {n : Nat} {K : xk} {M : xm}
theorem r24 (h : iA B fz V E P D c R n K M) : xk_kd K (R 24) = 4 + 1 := by
  obtain ⟨x0, o0, c0, l0, t0, u0, b0, L0, T0, U0, m0, q0, y0, dq, dy, s0, g0, e0, n0⟩ := h
  exact (s0.2.2.2.2.2.2.2.2.1 24 (by decide)).2.1
theorem hd_ask {e i ma : Nat} (hA : iA B fz V E P (fun _ => 0) c R n K M) (e1 : 1 ≤ e) (e9 : e ≤ 9) (he : xk_ar K (5 + B) e = some ma) (hi : i < 3) (v0 : xk_iv K 4 0 (R 24) = 1) (v1 : xk_iv K 4 1 (R 24) = nI i) (v4 : xk_iv K 4 4 (R 24) = M 52 24) :
    ∃ K' M', kf_Master_openQuestion_0 K ma (R 24) (6 + B) = some K' ∧ kf_EM_ask_0 M (nI i) (nI e) (M 52 24) = some M' ∧ dn B n (R 24) 1 K' M' := by
  obtain ⟨x0, o0, c0, l0, t0, u0, b0, L0, T0, U0, m0, q0, y0, dq, dy, s0, g0, e0, n0⟩ := id hA
  have kr := r24 hA
  obtain ⟨k1, k2, k3, k4, k5, k6, k7, k8, k9, k10, k11, k12, k13, k14, k15, k16, k17, k18⟩ := (jM_at m0 e1 e9 he).2
  obtain ⟨nq, z1, z2, z3, z4⟩ := q0 e ma e1 e9 he
  unfold kf_Master_openQuestion_0 kf_EM_ask_0
  have m25 : xMi M 25 (nI e) = some (M 25 e) := xMi_ok (by show e < 10; omega) (by decide)
  rw [xI_at k1 z3, xb_some, m25, xb_some, z2]
  by_cases h8 : nq < 8
  · have c8 : nI nq < (8 : Int32) := nI_lt (a := nq) (b := 8) h8 (by decide)
    have d8 : ¬ nI nq = (8 : Int32) := fun z => by have := (nI_eq (a := nq) (b := 8) (by omega) (by decide)).mp z; omega
    have h9 := st_m9 (v := M 24 e + 1) hA e1 e9 he
    generalize hK3 : xk_sI K 8 9 ma (M 24 e + 1) = K3 at h9
    have n3 : xk_nx K3 = xk_nx K := by rw [← hK3]; rfl
    have X3 : iX K3 B := by rw [← hK3]; exact x0
    have kd3 : ∀ b, xk_kd K3 b = xk_kd K b := fun b => by rw [← hK3]; rfl
    have q0k : xk_kd K3 (xk_nx K3) = 0 := X3.2 _ (Nat.le_refl _)
    have AG : ∀ x y z, ag K3 (xk_sI (xk_sI (xk_sI (xk_new K3 7 0) 6 0 (xk_nx K3) x) 6 1 (xk_nx K3) y) 6 2 (xk_nx K3) z) := fun x y z => ag_sI (ag_sI (ag_sI (ag_new X3 7 0) q0k _ _ _) q0k _ _ _) q0k _ _ _
    have hB := iA_ag h9 (AG (M 24 e + 1) (nI i) (M 52 24)) (iX_new X3 7 0)
    generalize hK11 : (xk_sI (xk_sI (xk_sI (xk_new K3 7 0) 6 0 (xk_nx K3) (M 24 e + 1)) 6 1 (xk_nx K3) (nI i)) 6 2 (xk_nx K3) (M 52 24)) = K11 at hB
    have kq : xk_kd K11 (xk_nx K3) = 6 + 1 := by rw [← hK11]; exact nw_kd K3 7 0
    have f0 : xk_iv K11 6 0 (xk_nx K3) = M 24 e + 1 := by rw [← hK11]; exact sI_at _ _ _ _ _
    have f1 : xk_iv K11 6 1 (xk_nx K3) = nI i := by rw [← hK11]; exact sI_at _ _ _ _ _
    have f2 : xk_iv K11 6 2 (xk_nx K3) = M 52 24 := by rw [← hK11]; exact sI_at _ _ _ _ _
    have f3 : xk_iv K11 6 3 (xk_nx K3) = 0 := by rw [← hK11]; exact nw_iv K3 7 0 6 3
    have ag3 : ag K3 K11 := by rw [← hK11]; exact AG _ _ _
    have he3 : xk_ar K3 (5 + B) e = some ma := by rw [← hK3]; exact he
    have he11 : xk_ar K11 (5 + B) e = some ma := ((ag3 _ (by rw [kd3, m0.1]; decide)).2.2.2.2.2 e).trans he3
    have hz : (xm_s M 24 e (M 24 e + 1)) 25 e = nI nq := z2
    have hC := st_q hB e1 e9 he11 hz h8 kq (fun d md k j b d1 d9 hd hk hk8 hj hb => by
      obtain ⟨x0', o0', c0', l0', t0', u0', b0', L0', T0', U0', m0', q0', y0', dq', dy', s0', g0', e0', n0'⟩ := id h9
      have hd3 : xk_ar K3 (5 + B) d = some md := ((ag3 _ (by rw [kd3, m0.1]; decide)).2.2.2.2.2 d).symm.trans hd
      have km := (jM_at m0' d1 d9 hd3).2.2.2.2.2.2.2.2.2.2.2.2.2.2.1
      have hb3 : xk_ar K3 (md + 2) j = some b := ((ag3 _ (by rw [km]; decide)).2.2.2.2.2 j).symm.trans hb
      obtain ⟨n1, y1, y2, y3, y4⟩ := q0' d md d1 d9 hd3
      have : n1 = k := (nI_eq (by omega) (by omega)).mp (y2.symm.trans hk)
      subst this
      obtain ⟨q', r1, r2, -⟩ := y4 j hj
      rw [r1] at hb3
      cases hb3
      exact iX_ne X3 (by rw [r2]; decide)) ⟨i, hi, f1⟩ f3
    rw [f0, f1, f2] at hC
    have i9 : ∀ v, xI (xk_sI K 8 9 ma v) 8 9 ma = some v := fun v => xI_at (by exact k1) (sI_at _ _ _ _ _)
    have r37 : xR K3 8 7 ma = some (some (ma + 2)) := by rw [← hK3]; exact xR_at k1 k13
    have i38 : xI K3 8 8 ma = some (nI nq) := by rw [← hK3]; exact xI_at k1 z3
    have a3 := (ag_new X3 7 0) ma (by rw [kd3, k1]; decide)
    have a4 := (ag_new X3 7 0) (R 24) (by rw [kd3, kr]; decide)
    have i79 : xI (xk_new K3 7 0) 8 9 ma = some (M 24 e + 1) := xI_at (by rw [a3.1, kd3, k1]) (by rw [a3.2.2.1, ← hK3]; exact sI_at _ _ _ _ _)
    have i41 : xI (xk_new K3 7 0) 4 1 (R 24) = some (nI i) := xI_at (by rw [a4.1, kd3, kr]) (by rw [a4.2.2.1, ← hK3]; exact v1)
    have i44 : xI (xk_new K3 7 0) 4 4 (R 24) = some (M 52 24) := xI_at (by rw [a4.1, kd3, kr]) (by rw [a4.2.2.1, ← hK3]; exact v4)
    have ki : xk_kd (xk_new K3 7 0) (xk_nx K3) = 6 + 1 := nw_kd K3 7 0
    rw [if_pos c8, if_neg d8, xI_at k1 k8, xb_some, xIs_ok k1, xb_some, hK3, r37, xb_some, i38, xb_some]
    unfold xNw kf_Question_init_0
    rw [xp_some, i79, xb_some, i41, xb_some, i44, xb_some, xIs_ok ki, xb_some, xIs_ok (by exact ki), xb_some, xIs_ok (by exact ki), xb_some, xb_some, xb_some, hK11]
    have am := ag3 (ma + 2) (by rw [kd3, k14]; decide)
    rw [xRt_ok (n := 8) (by rw [am.1, kd3, k14]) (by rw [am.2.1, ← hK3]; exact k15) h8 (by decide) (by exact kq), xb_some]
    unfold kf_Master_openQuestion_48
    have km11 : xk_kd K11 ma = 8 + 1 := ((ag3 ma (by rw [kd3, k1]; decide)).1.trans (kd3 ma)).trans k1
    have i88 : xI (xk_tR K11 (ma + 2) nq (some (xk_nx K3))) 8 8 ma = some (nI nq) := xI_at km11 (by
      show xk_iv K11 8 8 ma = _
      rw [(ag3 ma (by rw [kd3, k1]; decide)).2.2.1, ← hK3]
      exact z3)
    rw [i88, xb_some, nI_1, xIs_ok (by exact km11), xb_some]
    have he12 : xk_ar (xk_sI (xk_tR K11 (ma + 2) nq (some (xk_nx K3))) 8 8 ma (nI (nq + 1))) (5 + B) e = some ma := by
      show xk_ar (xk_tR K11 (ma + 2) nq (some (xk_nx K3))) (5 + B) e = some ma
      rw [tR_get, if_neg (fun z => by
        have : xk_kd K (5 + B) = xk_kd K (ma + 2) := by rw [z.1]
        rw [m0.1, k14] at this
        omega)]
      exact he11
    obtain ⟨K', M', c', r1, r2, r3, r4⟩ := lp_ask e1 e9 3 0 1000 (by omega) (by omega) _ _ _ hC he12
    have r1' : kf_Master_openQuestion_60 1000 (xk_sI (xk_tR K11 (ma + 2) nq (some (xk_nx K3))) 8 8 ma (nI (nq + 1))) ma (6 + B) 0 = some K' := r1
    have hmc : qs_M (xm_s M 24 e (M 24 e + 1)) e nq (M 24 e + 1) (nI i) (M 52 24) = xm_s (xm_s (xm_s (xm_s (xm_s (xm_s M 25 e (nI (nq + 1))) 24 e (M 24 e + 1)) 26 (8 * e + nq) (M 24 e + 1)) 27 (8 * e + nq) (nI i)) 28 (8 * e + nq) (M 52 24)) 29 (8 * e + nq) 0 := by
      unfold qs_M
      rw [ms_comm (k := 24) (k' := 25) _ _ _ _ _ (by decide)]
    rw [hmc] at r2
    have r2' : kf_EM_ask_85 1000 (xm_s (xm_s (xm_s (xm_s (xm_s (xm_s M 25 e (nI (nq + 1))) 24 e (M 24 e + 1)) 26 (8 * e + nq) (M 24 e + 1)) 27 (8 * e + nq) (nI i)) 28 (8 * e + nq) (M 52 24)) 29 (8 * e + nq) 0) (nI e) 0 = some M' := r2
    have b10 : e < 10 := by omega
    have b80 : 8 * e + nq < 80 := by omega
    have m24 : xMi (xm_s M 25 e (nI (nq + 1))) 24 (nI e) = some (M 24 e) := xMi_ok b10 (by decide)
    have m24' : xMi (xm_s (xm_s M 25 e (nI (nq + 1))) 24 e (M 24 e + 1)) 24 (nI e) = some (M 24 e + 1) := xMi_at b10 (by decide) (ms_at _ _ _ _)
    rw [r1']
    simp only [xb_some]
    unfold kf_EM_ask_35 kf_EM_ask_74
    rw [nI_1, xMt_ok b10 (by decide), xb_some, ix_8, m24, xb_some, xMt_ok b10 (by decide), xb_some, m24', xb_some, xMt_ok b80 (by decide), xb_some, xMt_ok b80 (by decide), xb_some, xMt_ok b80 (by decide), xb_some, xMt_ok b80 (by decide), xb_some, r2']
    refine ⟨K', M', rfl, rfl, ⟨fz, V, E, P, c', R, r3⟩, r24 r3, (r4.2.2.2.2.2.2.2.2.1 0).trans ?_⟩
    show xk_iv K11 4 0 (R 24) = 1
    rw [(ag3 (R 24) (by rw [kd3, kr]; decide)).2.2.1, ← hK3]
    exact v0
  · have : nq = 8 := by omega
    subst this
    rw [if_neg (show ¬ nI 8 < (8 : Int32) by decide), if_pos (show nI 8 = (8 : Int32) by decide)]
    exact ⟨K, M, rfl, rfl, ⟨fz, V, E, P, c, R, hA⟩, kr, v0⟩
end
