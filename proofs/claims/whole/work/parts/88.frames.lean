section
-- a world that says the same wherever the old one speaks (new objects, or other Writes and int arrays changed)
def fr (K K' : xk) : Prop := ∀ a, xk_kd K a ≠ 0 → xk_kd K' a = xk_kd K a ∧ xk_ln K' a = xk_ln K a ∧ (∀ c j, c ≠ 2 → xk_iv K' c j a = xk_iv K c j a) ∧ (∀ c j, c ≠ 2 → xk_rv K' c j a = xk_rv K c j a) ∧ ∀ j, xk_ar K' a j = xk_ar K a j
def fa (K K' : xk) : Prop := ∀ a, (xk_kd K a = 9 + 1 ∨ xk_kd K a = 8 + 1) → xk_kd K (a + 1) ≠ 0 → ∀ j, xk_ai K' (a + 1) j = xk_ai K (a + 1) j
def pk (K K' : xk) (fz : Nat → Prop) : Prop := ∀ w m f, fz w → wr K w m f → wr K' w m f
theorem en_fr {K K' : xk} {fz gz : Nat → Prop} {V U : List Int32} {a : Nat} {v b m : Int32} {f : Nat → Int32} (hf : fr K K') (hp : pk K K' fz) (hz : ∀ w, fz w → xk_kd K w ≠ 0 → gz w) (hV : ∀ v, v ∈ V → v ∈ U) (h : en K fz V a v b m f) : en K' gz U a v b m f := by
  obtain ⟨e1, e2, e3, e4, w, e5, e6, e7⟩ := h
  obtain ⟨f1, f2, f3, f4, f5⟩ := hf a (by omega)
  exact ⟨f1.trans e1, (f3 3 0 (by decide)).trans e2, (f3 3 1 (by decide)).trans e3, hV _ e4, w, (f4 3 2 (by decide)).trans e5, hz _ e6 (by rw [e7.1]; decide), hp _ _ _ e6 e7⟩
theorem mv_fr {K K' : xk} {M : xm} {fz gz : Nat → Prop} {V U : List Int32} {E : Nat} {f : Nat → Int32} {g : Nat → Option Nat} {h ct : Nat → Int32} (hf : fr K K') (hp : pk K K' fz) (hz : ∀ w, fz w → xk_kd K w ≠ 0 → gz w) (hV : ∀ v, v ∈ V → v ∈ U) (H : mv K M fz V E f g h ct) : mv K' M gz U E f g h ct := by
  obtain ⟨a1, a2, a3, a4, a5, a6, a7⟩ := H
  refine ⟨a1, a2, a3, a4, a5, a6, ?_⟩
  rcases a7 with t | t | t | t | ⟨t1, t2, t3, w, t4, t5, t6⟩ | ⟨t1, a, t2, t3⟩ | t | t
  · exact Or.inl t
  · exact Or.inr (Or.inl t)
  · exact Or.inr (Or.inr (Or.inl t))
  · exact Or.inr (Or.inr (Or.inr (Or.inl t)))
  · exact Or.inr (Or.inr (Or.inr (Or.inr (Or.inl ⟨t1, t2, t3, w, t4, hz _ t5 (by rw [t6.1]; decide), hp _ _ _ t5 t6⟩))))
  · exact Or.inr (Or.inr (Or.inr (Or.inr (Or.inr (Or.inl ⟨t1, a, t2, en_fr hf hp hz hV t3⟩)))))
  · exact Or.inr (Or.inr (Or.inr (Or.inr (Or.inr (Or.inr (Or.inl t))))))
  · exact Or.inr (Or.inr (Or.inr (Or.inr (Or.inr (Or.inr (Or.inr t))))))
variable {B : Nat} {fz : Nat → Prop} {V : List Int32} {E P : Nat} {D : Nat → Nat} {c : Nat} {R : Nat → Nat} {n : Nat} {K : xk} {M : xm}
theorem jM_at (m0 : jM K M B) {e ma : Nat} (h1 : 1 ≤ e) (h9 : e ≤ 9) (ha : xk_ar K (5 + B) e = some ma) : M 17 e = 1 ∧ jMa K M e ma := by
  rcases m0.2.2 e h1 h9 with ⟨-, z⟩ | ⟨o, mb, z, z2⟩
  · rw [z] at ha; cases ha
  · rw [z] at ha; cases ha; exact ⟨o, z2⟩
theorem iA_fr {K' : xk} {gz : Nat → Prop} {U : List Int32} (h : iA B fz V E P D c R n K M) (hf : fr K K') (ha : fa K K') (hp : pk K K' fz) (hz : ∀ w, fz w → xk_kd K w ≠ 0 → gz w) (hV : ∀ v, v ∈ V → v ∈ U) (hl : V.length ≤ U.length) :
    iO K' B ∧ iC K' M B ∧ iL K' M B ∧ iT K' M B ∧ iU K' M B ∧ jL K' M B gz U ∧ jT K' M B gz U P ∧ jM K' M B ∧ jQ K' M B ∧ jY K' M B gz U D ∧ jDq K' M B ∧ jDy K' M B D ∧ jS K' B c R ∧ jG K' M gz U E c R := by
  obtain ⟨x0, ⟨o1, o2, o3, o4, o5, o6, o7⟩, ⟨c1, c2, c3⟩, ⟨l1, l2, l3⟩, ⟨t1, t2, t3⟩, ⟨u1, u2, u3⟩, b0, L0, T0, U0, m0, q0, y0, dq, dy, ⟨s1, s2, s3, s4, s5, s6, s7, s8, s9, s10⟩, ⟨g1, g2⟩, e0, n0⟩ := h
  have F : ∀ {a k : Nat}, xk_kd K a = k + 1 → xk_kd K' a = k + 1 ∧ xk_ln K' a = xk_ln K a ∧ (∀ c j, c ≠ 2 → xk_iv K' c j a = xk_iv K c j a) ∧ (∀ c j, c ≠ 2 → xk_rv K' c j a = xk_rv K c j a) ∧ ∀ j, xk_ar K' a j = xk_ar K a j := fun {a k} hk => by
    obtain ⟨f1, f2⟩ := hf a (by omega)
    exact ⟨f1.trans hk, f2⟩
  have G : ∀ {a k : Nat}, xk_kd K a = 100 + k → xk_kd K' a = 100 + k ∧ xk_ln K' a = xk_ln K a ∧ (∀ c j, c ≠ 2 → xk_iv K' c j a = xk_iv K c j a) ∧ (∀ c j, c ≠ 2 → xk_rv K' c j a = xk_rv K c j a) ∧ ∀ j, xk_ar K' a j = xk_ar K a j := fun {a k} hk => by
    obtain ⟨f1, f2⟩ := hf a (by omega)
    exact ⟨f1.trans hk, f2⟩
  have m5 : ∀ e, xk_ar K' (5 + B) e = xk_ar K (5 + B) e := (G m0.1).2.2.2.2
  have A : ∀ e ma, 1 ≤ e → e ≤ 9 → xk_ar K (5 + B) e = some ma → jMa K M e ma := fun e ma a1 a9 z => (jM_at m0 a1 a9 z).2
  have a2 : ∀ e ma, 1 ≤ e → e ≤ 9 → xk_ar K (5 + B) e = some ma → ∀ j, xk_ar K' (ma + 2) j = xk_ar K (ma + 2) j := fun e ma a1 a9 z => by
    obtain ⟨-, -, -, -, -, -, -, -, -, -, -, -, -, z2, -, -, z3, -⟩ := A e ma a1 a9 z
    exact (G z2).2.2.2.2
  have a3 : ∀ e ma, 1 ≤ e → e ≤ 9 → xk_ar K (5 + B) e = some ma → ∀ j, xk_ar K' (ma + 3) j = xk_ar K (ma + 3) j := fun e ma a1 a9 z => by
    obtain ⟨-, -, -, -, -, -, -, -, -, -, -, -, -, z2, -, -, z3, -⟩ := A e ma a1 a9 z
    exact (G z3).2.2.2.2
  refine ⟨?_, ?_, ?_, ?_, ?_, ?_, ?_, ?_, ?_, ?_, ?_, ?_, ?_, ?_⟩
  · have r := (F o1).2.2.2.1
    exact ⟨(F o1).1, (r 0 0 (by decide)).trans o2, (r 0 1 (by decide)).trans o3, (r 0 2 (by decide)).trans o4, (r 0 3 (by decide)).trans o5, (r 0 4 (by decide)).trans o6, (r 0 5 (by decide)).trans o7⟩
  · refine ⟨(G c1).1, (G c1).2.1.trans c2, fun i hi => ?_⟩
    obtain ⟨e1, e2, e3, e4⟩ := c3 i hi
    have r := (F e2).2.2.1
    exact ⟨((G c1).2.2.2.2 i).trans e1, (F e2).1, (r 1 0 (by decide)).trans e3, (r 1 1 (by decide)).trans e4⟩
  · refine ⟨(G l1).1, (G l1).2.1.trans l2, fun i hi => ?_⟩
    obtain ⟨e1, e2, e3, e4, e5, e6, e7⟩ := l3 i hi
    have r := (F e2).2.2.1
    exact ⟨((G l1).2.2.2.2 i).trans e1, (F e2).1, (r 9 0 (by decide)).trans e3, (r 9 1 (by decide)).trans e4, (r 9 2 (by decide)).trans e5, (r 9 3 (by decide)).trans e6, (r 9 6 (by decide)).trans e7⟩
  · refine ⟨(G t1).1, (G t1).2.1.trans t2, fun i hi => ?_⟩
    obtain ⟨e1, e2, e3, e4, e5, e6⟩ := t3 i hi
    have r := (F e2).2.2.1
    exact ⟨((G t1).2.2.2.2 i).trans e1, (F e2).1, (r 10 1 (by decide)).trans e3, (r 10 2 (by decide)).trans e4, (r 10 3 (by decide)).trans e5, (r 10 5 (by decide)).trans e6⟩
  · refine ⟨(G u1).1, (G u1).2.1.trans u2, fun i hi => ?_⟩
    obtain ⟨e1, e2, e3, e4, e5, e6, e7, e8, e9, e10⟩ := u3 i hi
    have r := (F e2).2.2.1
    exact ⟨((G u1).2.2.2.2 i).trans e1, (F e2).1, (r 11 0 (by decide)).trans e3, (r 11 1 (by decide)).trans e4, (r 11 2 (by decide)).trans e5, (r 11 3 (by decide)).trans e6, e7.imp id (fun z => (r 11 4 (by decide)).trans z), (r 11 5 (by decide)).trans e8, (r 11 6 (by decide)).trans e9, (r 11 7 (by decide)).trans e10⟩
  · intro i hi
    obtain ⟨z1, z2, z3, z4, z5, z6, z7, nn, z8, z9, z10⟩ := L0 i hi
    have hk := (l3 i hi).2.1
    have r := (F hk).2.2.2.1
    have ba := ha _ (Or.inl hk) (by rw [show 37 + 3 * i + B + 1 = 38 + 3 * i + B by omega, z3]; decide)
    refine ⟨(r 9 4 (by decide)).trans z1, (r 9 5 (by decide)).trans z2, (G z3).1, (G z3).2.1.trans z4, fun e he => ?_, (G z6).1, (G z6).2.1.trans z7, nn, z8, z9, fun j hj => ?_⟩
    · rw [← z5 e he, show 38 + 3 * i + B = 37 + 3 * i + B + 1 by omega]
      exact ba e
    · obtain ⟨a, b, y1, y2⟩ := z10 j hj
      exact ⟨a, b, ((G z6).2.2.2.2 j).trans y1, en_fr hf hp hz hV y2⟩
  · intro i hi
    obtain ⟨z1, z2, z3, z4, nn, z5, z6, z7, z8, z9⟩ := T0 i hi
    have hk := (t3 i hi).2.1
    refine ⟨((F hk).2.2.1 10 0 (by decide)).trans z1, ((F hk).2.2.2.1 10 4 (by decide)).trans z2, (G z3).1, (G z3).2.1.trans z4, nn, z5, Nat.le_trans z6 hl, z7, fun j hj => ?_, z9⟩
    obtain ⟨a, b, m, y1, y2, y3⟩ := z8 j hj
    exact ⟨a, b, m, ((G z3).2.2.2.2 j).trans y1, y2, en_fr hf hp hz hV y3⟩
  · refine ⟨(G m0.1).1, (G m0.1).2.1.trans m0.2.1, fun e h1 h9 => ?_⟩
    rw [m5]
    refine (m0.2.2 e h1 h9).imp id (fun ⟨z, ma, z1, z2⟩ => ⟨z, ma, z1, ?_⟩)
    obtain ⟨k1, k2, k3, k4, k5, k6, k7, k8, k9, k10, k11, k12, k13, k14, k15, k16, k17, k18⟩ := z2
    have r := (F k1).2.2.1
    have s := (F k1).2.2.2.1
    exact ⟨(F k1).1, (r 8 0 (by decide)).trans k2, (r 8 1 (by decide)).trans k3, (r 8 2 (by decide)).trans k4, (r 8 3 (by decide)).trans k5, (r 8 4 (by decide)).trans k6, (r 8 5 (by decide)).trans k7, (r 8 9 (by decide)).trans k8, (s 8 6 (by decide)).trans k9, (G k10).1, (G k10).2.1.trans k11, fun k hk => (ha _ (Or.inr k1) (by rw [k10]; decide) k).trans (k12 k hk), (s 8 7 (by decide)).trans k13, (G k14).1, (G k14).2.1.trans k15, (s 8 10 (by decide)).trans k16, (G k17).1, (G k17).2.1.trans k18⟩
  · intro e ma h1 h9 hm
    rw [m5] at hm
    obtain ⟨nn, z1, z2, z3, z4⟩ := q0 e ma h1 h9 hm
    refine ⟨nn, z1, z2, ((F (A e ma h1 h9 hm).1).2.2.1 8 8 (by decide)).trans z3, fun i hi => ?_⟩
    obtain ⟨q, y1, y2, y3, y4, y5, y6, y7⟩ := z4 i hi
    have r := (F y2).2.2.1
    exact ⟨q, (a2 e ma h1 h9 hm i).trans y1, (F y2).1, (r 6 0 (by decide)).trans y3, (r 6 1 (by decide)).trans y4, (r 6 2 (by decide)).trans y5, (r 6 3 (by decide)).trans y6, y7⟩
  · intro e ma h1 h9 hm
    rw [m5] at hm
    obtain ⟨nn, z1, z2, z3, z4⟩ := y0 e ma h1 h9 hm
    refine ⟨nn, z1, z2, ((F (A e ma h1 h9 hm).1).2.2.1 8 11 (by decide)).trans z3, fun i hi => ?_⟩
    obtain ⟨y, y1, y2, y3, y4, y5, y6, y7, a, y8, y9⟩ := z4 i hi
    have r := (F y2).2.2.1
    exact ⟨y, (a3 e ma h1 h9 hm _).trans y1, (F y2).1, (r 7 1 (by decide)).trans y3, (r 7 2 (by decide)).trans y4, (r 7 3 (by decide)).trans y5, y6, y7, a, ((F y2).2.2.2.1 7 0 (by decide)).trans y8, en_fr hf hp hz hV y9⟩
  · intro e d ma md n1 n2 i j a h1 h2 h3 h4 h5 h6
    rw [m5] at h5 h6
    rw [a2 e ma h1 h2 h5, a2 d md h3 h4 h6]
    exact dq e d ma md n1 n2 i j a h1 h2 h3 h4 h5 h6
  · intro e d ma md n1 n2 i j a h1 h2 h3 h4 h5 h6
    rw [m5] at h5 h6
    rw [a3 e ma h1 h2 h5, a3 d md h3 h4 h6]
    exact dy e d ma md n1 n2 i j a h1 h2 h3 h4 h5 h6
  · have r := (F s1).2.2.2.1
    refine ⟨(F s1).1, (r 5 0 (by decide)).trans s2, (G s3).1, (G s3).2.1.trans s4, (r 5 1 (by decide)).trans s5, (F s6).1, s7, ((F s1).2.2.1 5 2 (by decide)).trans s8, fun k hk => ?_, s10⟩
    obtain ⟨y1, y2, y3⟩ := s9 k hk
    exact ⟨((G s3).2.2.2.2 k).trans y1, (F y2).1, y3⟩
  · refine ⟨g1, fun k hk => ?_⟩
    have y2 := (s9 k (by omega)).2.1
    have r1 : (fun j => xk_iv K' 4 j (R k)) = fun j => xk_iv K 4 j (R k) := funext (fun j => (F y2).2.2.1 4 j (by decide))
    have r2 : (fun j => xk_rv K' 4 j (R k)) = fun j => xk_rv K 4 j (R k) := funext (fun j => (F y2).2.2.2.1 4 j (by decide))
    rw [r1, r2]
    exact mv_fr hf hp hz hV (g2 k hk)
end
section
variable {B : Nat} {fz : Nat → Prop} {V : List Int32} {E P : Nat} {D : Nat → Nat} {c : Nat} {R : Nat → Nat} {n : Nat} {K : xk} {M : xm}
theorem jN_ext {N : xm} (h : jN M V P n c) (h0 : N 40 = M 40) (h4 : N 44 = M 44) (h8 : N 48 = M 48) : jN N V P n c := by
  unfold jN at h ⊢
  rw [h0, h4, h8]
  exact h
theorem ph_2 (m m' : Int32) : ph 2 m' ≤ ph 2 m + 1 := by
  have : ∀ z : Int32, ph 2 z = 2 ∨ ph 2 z = 3 := fun z => by
    unfold ph
    rw [if_neg (by decide), if_pos rfl]
    by_cases q : z = 0
    · rw [if_pos q]; exact Or.inl rfl
    · rw [if_neg q]; exact Or.inr rfl
  rcases this m with h | h <;> rcases this m' with h' | h' <;> omega
/-- a client writes -/
theorem st_write {j q w : Nat} {x : Int32} (h : iA B fz V E P D c R n K M) (hj : j < 3) (hq : q < 8) (hs : M 40 j = 2) (hw : xk_rv K 11 8 (50 + 3 * j + B) = some w) :
    iA B fz V E P D c R (n + 1) (xk_tI (xk_sI K 2 0 w (M 44 j ||| ((1 : Int32) <<< (nI q &&& 31)))) (w + 1) q x) (xm_s (xm_s M 44 j (M 44 j ||| ((1 : Int32) <<< (nI q &&& 31)))) 45 (8 * j + q) x) := by
  have h' := h
  obtain ⟨x0, o0, c0, l0, t0, u0, b0, L0, T0, ⟨U1, U2⟩, m0, q0, y0, dq, dy, s0, g0, e0, n0⟩ := h'
  obtain ⟨w', w1, w2, w3⟩ := U1 j hj
  cases hw.symm.trans w1
  have nz : ¬ fz w := w3 (Or.inr hs)
  generalize hm : (M 44 j ||| ((1 : Int32) <<< (nI q &&& 31))) = mk
  have kw : xk_kd K w = 2 + 1 := w2.1
  have ai : ∀ b i, b ≠ w + 1 → xk_ai (xk_tI (xk_sI K 2 0 w mk) (w + 1) q x) b i = xk_ai K b i := fun b i hb => by rw [tI_get, if_neg (fun z => hb z.1)]; rfl
  have hwr : ∀ w' m f, w' ≠ w → wr K w' m f → wr (xk_tI (xk_sI K 2 0 w mk) (w + 1) q x) w' m f := fun w' m f hne ⟨r1, r2, r3, r4, r5, r6⟩ => by
    refine ⟨r1, ?_, r3, r4, r5, fun i hi hb => ?_⟩
    · show xk_iv (xk_sI K 2 0 w mk) 2 0 w' = m
      rw [sI_ne hne]; exact r2
    · rw [ai _ _ (by omega)]; exact r6 i hi hb
  have hfr : fr K (xk_tI (xk_sI K 2 0 w mk) (w + 1) q x) := fun a ha => ⟨rfl, rfl, fun c' i hc => by show xk_iv (xk_sI K 2 0 w mk) c' i a = _; rw [sI_get, if_neg (fun z => hc z.1)], fun _ _ _ => rfl, fun _ => rfl⟩
  have hfa : fa K (xk_tI (xk_sI K 2 0 w mk) (w + 1) q x) := fun a ha _ i => ai _ _ (fun z => by rw [show a = w by omega] at ha; omega)
  obtain ⟨r1, r2, r3, r4, r5, r6, r7, r8, r9, r10, r11, r12, r13, r14⟩ := iA_fr h hfr hfa (fun w' m f hz => hwr w' m f (fun z => nz (z ▸ hz))) (fun _ z _ => z) (fun _ z => z) (Nat.le_refl _)
  refine ⟨x0, r1, r2, r3, r4, r5, b0, r6, r7, ⟨fun i hi => ?_, U2⟩, r8, r9, r10, r11, r12, r13, r14, e0, ?_⟩
  · by_cases q' : i = j
    · subst q'
      refine ⟨w, w1, ?_, fun z => nz⟩
      obtain ⟨p1, p2, p3, p4, p5, p6⟩ := w2
      refine ⟨p1, ?_, p3, p4, p5, fun k hk hb => ?_⟩
      · show xk_iv (xk_sI K 2 0 w mk) 2 0 w = xm_s M 44 i mk 44 i
        rw [sI_at, ms_at]
      · rw [tI_get]
        show _ = xm_s (xm_s M 44 i mk) 45 (8 * i + q) x 45 (8 * i + k)
        rw [ms_get]
        by_cases kq : k = q
        · rw [if_pos ⟨rfl, kq⟩, if_pos ⟨rfl, by omega⟩]
        · rw [if_neg (fun z => kq z.2), if_neg (fun z => kq (by omega))]
          refine p6 k hk ?_
          have hb' : bt mk k = true := by
            have e : (xm_s (xm_s M 44 i mk) 45 (8 * i + q) x) 44 i = mk := ms_at M 44 i mk
            rw [← e]; exact hb
          rw [← hm, bi_or _ (by omega) (by omega)] at hb'
          simpa [kq] using hb'
    · obtain ⟨v, v1, v2, v3⟩ := U1 i hi
      have hne : v ≠ w := fun z => q' (U2 i j w hi hj (z ▸ v1) w1)
      refine ⟨v, v1, ?_, v3⟩
      have e1 : (xm_s (xm_s M 44 j mk) 45 (8 * j + q) x) 44 i = M 44 i := ms_ne q'
      rw [e1]
      obtain ⟨p1, p2, p3, p4, p5, p6⟩ := hwr v _ _ hne v2
      refine ⟨p1, p2, p3, p4, p5, fun k hk hb => ?_⟩
      rw [p6 k hk hb]
      show M 45 (8 * i + k) = xm_s (xm_s M 44 j mk) 45 (8 * j + q) x 45 (8 * i + k)
      rw [ms_ne (by omega)]
      rfl
  · exact jN_ext (jN_wr (v := mk) (d := 1) n0 hj (by rw [hs]; exact ph_2 _ _)) rfl rfl rfl
theorem kp_write (B : Nat) : lo_s4 (iV B) B := fun n K M a b d _ h => by
  obtain ⟨fz, V, E, P, c, R, hA⟩ := id h
  obtain ⟨r, K', M', h1, h2, ⟨rfl, rfl⟩ | ⟨j, q, w, v, hj, hq, hs, hw, hv, rfl, rfl⟩⟩ := pu_write hA.2.1 hA.2.2.2.2.2.1 (iW_of hA) a b d
  · exact ⟨r, _, _, h1, h2, iV_next h⟩
  · obtain ⟨x0, o0, c0, l0, t0, u0, b0, L0, T0, ⟨U1, U2⟩, -⟩ := id hA
    obtain ⟨w', w1, w2, w3⟩ := U1 j hj
    cases hw.symm.trans w1
    cases hv.symm.trans w2.2.2.1
    exact ⟨r, _, _, h1, h2, fz, V, E, P, c, R, st_write hA hj hq hs hw⟩
end
