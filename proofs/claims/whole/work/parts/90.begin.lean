section
-- new objects
theorem nw_at (K : xk) (k l : Nat) {a : Nat} (h : a ≠ xk_nx K) : xk_kd (xk_new K k l) a = xk_kd K a ∧ xk_ln (xk_new K k l) a = xk_ln K a ∧ (∀ c j, xk_iv (xk_new K k l) c j a = xk_iv K c j a) ∧ (∀ c j, xk_rv (xk_new K k l) c j a = xk_rv K c j a) ∧ (∀ j, xk_ai (xk_new K k l) a j = xk_ai K a j) ∧ ∀ j, xk_ar (xk_new K k l) a j = xk_ar K a j :=
  ⟨if_neg h, if_neg h, fun _ _ => if_neg h, fun _ _ => if_neg h, fun _ => if_neg h, fun _ => if_neg h⟩
theorem nw_kd (K : xk) (k l : Nat) : xk_kd (xk_new K k l) (xk_nx K) = k := if_pos rfl
theorem nw_ln (K : xk) (k l : Nat) : xk_ln (xk_new K k l) (xk_nx K) = l := if_pos rfl
theorem nw_iv (K : xk) (k l c j : Nat) : xk_iv (xk_new K k l) c j (xk_nx K) = 0 := if_pos rfl
theorem nw_rv (K : xk) (k l c j : Nat) : xk_rv (xk_new K k l) c j (xk_nx K) = none := if_pos rfl
theorem nw_ai (K : xk) (k l j : Nat) : xk_ai (xk_new K k l) (xk_nx K) j = 0 := if_pos rfl
theorem iX_new {K : xk} {B : Nat} (h : iX K B) (k l : Nat) : iX (xk_new K k l) B := by
  refine ⟨Nat.le_trans h.1 (Nat.le_succ _), fun a ha => ?_⟩
  have ha : xk_nx K + 1 ≤ a := ha
  rw [(nw_at K k l (by omega)).1]
  exact h.2 a (by omega)
theorem iX_ne {K : xk} {B : Nat} (h : iX K B) {a : Nat} (ha : xk_kd K a ≠ 0) : a ≠ xk_nx K := fun z => ha (h.2 a (by omega))
theorem sI_comm (K : xk) {c k c' k' : Nat} (a a' : Nat) (v v' : Int32) (h : k ≠ k') : xk_sI (xk_sI K c k a v) c' k' a' v' = xk_sI (xk_sI K c' k' a' v') c k a v := by
  refine xk_ext (fun _ => rfl) (fun _ => rfl) (fun i j b => ?_) (fun _ _ _ => rfl) (fun _ _ => rfl) (fun _ _ => rfl) rfl
  rw [sI_get, sI_get, sI_get, sI_get]
  by_cases h1 : i = c' ∧ j = k' ∧ b = a'
  · rw [if_pos h1, if_neg (fun z => h (z.2.1.symm.trans h1.2.1)), if_pos h1]
  · rw [if_neg h1, if_neg h1]
theorem new_sI (K : xk) (k l ci i a : Nat) (v : Int32) (h : a ≠ xk_nx K) : xk_new (xk_sI K ci i a v) k l = xk_sI (xk_new K k l) ci i a v := by
  refine xk_ext (fun _ => rfl) (fun _ => rfl) (fun c j b => ?_) (fun _ _ _ => rfl) (fun _ _ => rfl) (fun _ _ => rfl) rfl
  rw [sI_get]
  by_cases hb : b = xk_nx K
  · subst hb
    rw [if_neg (fun z => h z.2.2.symm), nw_iv]
    exact nw_iv (xk_sI K ci i a v) k l c j
  · rw [((nw_at (xk_sI K ci i a v) k l (a := b) (by exact hb)).2.2.1 c j), sI_get, (nw_at K k l hb).2.2.1]
theorem fr_new {K : xk} {B : Nat} (h : iX K B) (k l : Nat) : fr K (xk_new K k l) := fun a ha => by
  obtain ⟨a1, a2, a3, a4, a5, a6⟩ := nw_at K k l (iX_ne h ha)
  exact ⟨a1, a2, fun c j _ => a3 c j, fun c j _ => a4 c j, a6⟩
theorem fr_tr {K K' K2 : xk} (h : fr K K') (g : fr K' K2) : fr K K2 := fun a ha => by
  obtain ⟨a1, a2, a3, a4, a5⟩ := h a ha
  obtain ⟨b1, b2, b3, b4, b5⟩ := g a (by rw [a1]; exact ha)
  exact ⟨b1.trans a1, b2.trans a2, fun c j hc => (b3 c j hc).trans (a3 c j hc), fun c j hc => (b4 c j hc).trans (a4 c j hc), fun j => (b5 j).trans (a5 j)⟩
theorem wr_new {K : xk} {B : Nat} (h : iX K B) (k l : Nat) {w : Nat} {m : Int32} {f : Nat → Int32} (hw : wr K w m f) : wr (xk_new K k l) w m f := by
  obtain ⟨r1, r2, r3, r4, r5, r6⟩ := hw
  obtain ⟨a1, a2, a3, a4, a5, a6⟩ := nw_at K k l (iX_ne h (show xk_kd K w ≠ 0 by omega))
  obtain ⟨b1, b2, b3, b4, b5, b6⟩ := nw_at K k l (iX_ne h (show xk_kd K (w + 1) ≠ 0 by omega))
  exact ⟨a1.trans r1, (a3 2 0).trans r2, (a4 2 1).trans r3, b1.trans r4, b2.trans r5, fun x hx hb => (b5 x).trans (r6 x hx hb)⟩
/-- a store into a new Writes object: nothing that was there is changed -/
def nW (K : xk) : xk := xk_sR (xk_new (xk_new K 3 0) 100 8) 2 1 (xk_nx K) (some (xk_nx K + 1))
variable {B : Nat} {fz : Nat → Prop} {V : List Int32} {E P : Nat} {D : Nat → Nat} {c : Nat} {R : Nat → Nat} {n : Nat} {K : xk} {M : xm}
theorem nW_wr (h : iX K B) {w : Nat} {m : Int32} {f : Nat → Int32} (hw : wr K w m f) : wr (nW K) w m f := by
  obtain ⟨r1, r2, r3, r4, r5, r6⟩ := wr_new (iX_new h 3 0) 100 8 (wr_new h 3 0 hw)
  refine ⟨r1, r2, ?_, r4, r5, r6⟩
  show xk_rv (xk_sR _ 2 1 (xk_nx K) _) 2 1 w = _
  rw [sR_ne (iX_ne h (by rw [hw.1]; decide))]
  exact r3
theorem nW_self {f : Nat → Int32} (h : iX K B) : wr (nW K) (xk_nx K) 0 f := by
  refine ⟨?_, ?_, sR_at _ _ _ _ _, ?_, ?_, fun x hx hb => ?_⟩
  · exact ((nw_at (xk_new K 3 0) 100 8 (a := xk_nx K) (by show xk_nx K ≠ xk_nx K + 1; omega)).1).trans (nw_kd K 3 0)
  · exact ((nw_at (xk_new K 3 0) 100 8 (a := xk_nx K) (by show xk_nx K ≠ xk_nx K + 1; omega)).2.2.1 2 0).trans (nw_iv K 3 0 2 0)
  · exact nw_kd (xk_new K 3 0) 100 8
  · exact nw_ln (xk_new K 3 0) 100 8
  · rw [b_0] at hb; cases hb
theorem nW_fr (h : iX K B) : fr K (nW K) := fun a ha => by
  obtain ⟨a1, a2, a3, a4, a5⟩ := fr_tr (fr_new h 3 0) (fr_new (iX_new h 3 0) 100 8) a ha
  refine ⟨a1, a2, a3, fun c j hc => ?_, a5⟩
  show xk_rv (xk_sR _ 2 1 (xk_nx K) _) c j a = _
  rw [sR_get, if_neg (fun z => hc z.1)]
  exact a4 c j hc
theorem nW_ai (h : iX K B) {a : Nat} (ha : xk_kd K a ≠ 0) (j : Nat) : xk_ai (nW K) a j = xk_ai K a j := by
  have h1 := (nw_at K 3 0 (iX_ne h ha)).2.2.2.2.1 j
  have h2 := (nw_at (xk_new K 3 0) 100 8 (a := a) (iX_ne (iX_new h 3 0) (by rw [(nw_at K 3 0 (iX_ne h ha)).1]; exact ha))).2.2.2.2.1 j
  exact h2.trans h1
/-- a client takes new Writes -/
theorem st_new {j : Nat} (h : iA B fz V E P D c R n K M) (hj : j < 3) (hs : ph (M 40 j) 0 = 0) : iA B (fun w => fz w ∧ w ≠ xk_nx K) V E P D c R n (xk_sR (nW K) 11 8 (50 + 3 * j + B) (some (xk_nx K))) (xm_s M 44 j 0) := by
  obtain ⟨x0, o0, c0, l0, t0, u0, b0, L0, T0, ⟨U1, U2⟩, m0, q0, y0, dq, dy, s0, g0, e0, n0⟩ := id h
  obtain ⟨r1, r2, r3, r4, r5, r6, r7, r8, r9, r10, r11, r12, r13, r14⟩ := iA_fr (gz := fun w => fz w ∧ w ≠ xk_nx K) (U := V) h (nW_fr x0) (fun a _ ha j => nW_ai x0 ha j) (fun w m f _ hw => nW_wr x0 hw) (fun w hw hk => ⟨hw, iX_ne x0 hk⟩) (fun _ z => z) (Nat.le_refl _)
  have rv8 : ∀ i, i < 3 → xk_rv (nW K) 11 8 (50 + 3 * i + B) = xk_rv K 11 8 (50 + 3 * i + B) := fun i hi => ((nW_fr x0) _ (by rw [(u0.2.2 i hi).2.1]; decide)).2.2.2.1 11 8 (by decide)
  have g8 : ∀ i, i < 3 → i ≠ j → xk_rv (xk_sR (nW K) 11 8 (50 + 3 * j + B) (some (xk_nx K))) 11 8 (50 + 3 * i + B) = xk_rv K 11 8 (50 + 3 * i + B) := fun i hi hij => by rw [sR_ne (by omega), rv8 i hi]
  have gj : xk_rv (xk_sR (nW K) 11 8 (50 + 3 * j + B) (some (xk_nx K))) 11 8 (50 + 3 * j + B) = some (xk_nx K) := sR_at _ _ _ _ _
  have old : ∀ i w, i < 3 → xk_rv K 11 8 (50 + 3 * i + B) = some w → w ≠ xk_nx K := fun i w hi hw => by
    obtain ⟨w', w1, w2, -⟩ := U1 i hi
    cases hw.symm.trans w1
    exact iX_ne x0 (by rw [w2.1]; decide)
  refine ⟨?_, r1, r2, r3, r4, r5, b0, r6, r7, ⟨fun i hi => ?_, fun i k w hi hk => ?_⟩, r8, r9, r10, r11, r12, r13, r14, e0, ?_⟩
  · exact iX_new (iX_new x0 3 0) 100 8
  · by_cases q : i = j
    · subst q
      refine ⟨xk_nx K, gj, ?_, fun _ z => z.2 rfl⟩
      rw [ms_at]
      exact nW_self x0
    · obtain ⟨w, w1, w2, w3⟩ := U1 i hi
      refine ⟨w, (g8 i hi q).trans w1, ?_, fun z1 z2 => w3 z1 z2.1⟩
      rw [ms_ne q]
      exact nW_wr x0 w2
  · by_cases q : i = j
    · by_cases q' : k = j
      · exact fun _ _ => q.trans q'.symm
      · subst q
        rw [gj, g8 k hk q']
        intro z1 z2
        cases z1
        exact absurd rfl (old k _ hk z2)
    · by_cases q' : k = j
      · subst q'
        rw [gj, g8 i hi q]
        intro z1 z2
        cases z2
        exact absurd rfl (old i _ hi z1)
      · rw [g8 i hi q, g8 k hk q']
        exact U2 i k w hi hk
  · exact jN_wr (d := 0) n0 hj (by omega)
end
section
theorem ms_comm (M : xm) {k k' : Nat} (i i' : Nat) (v v' : Int32) (h : k ≠ k') : xm_s (xm_s M k i v) k' i' v' = xm_s (xm_s M k' i' v') k i v := by
  funext c j
  rw [ms_get, ms_get, ms_get, ms_get]
  by_cases h1 : c = k' ∧ j = i'
  · rw [if_pos h1, if_neg (fun z => h (z.1.symm.trans h1.1)), if_pos h1]
  · rw [if_neg h1, if_neg h1]
theorem nW_sI (K : xk) (ci i a : Nat) (v : Int32) (h : a < xk_nx K) : nW (xk_sI K ci i a v) = xk_sI (nW K) ci i a v := by
  unfold nW
  rw [new_sI K 3 0 ci i a v (by omega), new_sI (xk_new K 3 0) 100 8 ci i a v (by show a ≠ xk_nx K + 1; omega)]
  rfl
theorem kp_begin (B : Nat) : lo_s1 (iV B) B := fun n K M a _ h => by
  obtain ⟨fz, V, E, P, c, R, hA⟩ := id h
  obtain ⟨x0, o0, c0, l0, t0, ⟨u1, u2, u3⟩, b0, L0, T0, ⟨U1, U2⟩, m0, q0, y0, dq, dy, s0, g0, e0, n0⟩ := id hA
  unfold kf_ES_begin_0 kf_EM_begin_0 kf_ES_isClient_0 kf_EM_isClient_0
  have h10 : ¬ (1 : Int32) = 0 := by decide
  rcases pi_3 a with h | ⟨h1, h2, h3, h4⟩ | ⟨j, hj, rfl, h1, h2, h3, h4⟩
  · exact ⟨0, K, M, by simp [h, xp_some], by simp [h, xp_some], iV_next ⟨fz, V, E, P, c, R, hA⟩⟩
  · exact ⟨0, K, M, by simp [h1, h2, xp_some], by simp [h1, h3, xp_some], iV_next ⟨fz, V, E, P, c, R, hA⟩⟩
  · obtain ⟨e1, e2, e3, e4, e5, e6, e7, e8, e9, e10⟩ := u3 j hj
    have hm : xMi M 40 (nI j) = some (M 40 j) := xMi_ok hj (by decide)
    have hx : xRa K 5 (4 + B) (nI j) = some (some (50 + 3 * j + B)) := by rw [xRa_ok u1 u2 hj (by decide), e1]
    rw [if_neg h1, if_neg h2, if_neg h1, if_neg h3, xp_some, xp_some, if_neg h10, if_neg h10, xR_ok o0.1, o0.2.2.2.2.1, xb_some, xb_some, hx, xb_some, xb_some, xO_ok e2, xb_some, bz_cl e2, xp_some, e6, hm, xb_some]
    by_cases hb : M 40 j = 1 ∨ M 40 j = 2 ∨ M 40 j = 3
    · obtain ⟨b1, b2⟩ := (bz_1 _).mp hb
      have b3 : ¬ (3 : Int32) < M 40 j := by rw [Int32.lt_iff_toInt_lt]; rw [Int32.le_iff_toInt_le] at b2; omega
      rw [if_pos hb, if_neg h10, if_neg b1, xb_some, if_neg b3]
      exact ⟨0, K, M, rfl, rfl, iV_next h⟩
    · have p0 : ∀ z, ph (M 40 j) z = 0 := fun z => by unfold ph; rw [if_neg (fun q => hb (Or.inl q)), if_neg (fun q => hb (Or.inr (Or.inl q)))]
      have nxA : 50 + 3 * j + B < xk_nx K := by have := x0.1; omega
      have hf := st_c7 (v := 0) (st_c6 (v := 0) (st_c5 (v := 0) (st_c4 (v := M 38 j) (st_c2 (v := M 39 j + 1) hA hj) hj) hj) hj) hj
      have hg := st_new hf hj (by exact p0 0)
      have hi := st_cl (v := 1) (m := n + 1) hg hj (fun _ => (((nW_fr hf.1) (50 + 3 * j + B) (fun z => by
        have z' : xk_kd K (50 + 3 * j + B) = 0 := z
        rw [e2] at z'
        omega)).2.2.1 11 4 (by decide)).trans ((sI_at _ 11 4 _ _).trans (ms_at _ 42 _ _).symm)) (fun _ w hw => by
        rw [sR_at] at hw
        cases hw
        exact fun z => z.2 rfl) (jN_st (d := 1) hg.2.2.2.2.2.2.2.2.2.2.2.2.2.2.2.2.2.2 hj (by rw [ms_at]; exact Nat.le_add_left _ _))
      have hk : xk_sI (xk_sR (nW (xk_sI (xk_sI (xk_sI (xk_sI (xk_sI K 11 2 (50 + 3 * j + B) (M 39 j + 1)) 11 4 (50 + 3 * j + B) (M 38 j)) 11 5 (50 + 3 * j + B) 0) 11 6 (50 + 3 * j + B) 0) 11 7 (50 + 3 * j + B) 0)) 11 8 (50 + 3 * j + B) (some (xk_nx K))) 11 3 (50 + 3 * j + B) 1 =
          xk_sR (nW (xk_sI (xk_sI (xk_sI (xk_sI (xk_sI (xk_sI K 11 2 (50 + 3 * j + B) (M 39 j + 1)) 11 3 (50 + 3 * j + B) 1) 11 4 (50 + 3 * j + B) (M 38 j)) 11 5 (50 + 3 * j + B) 0) 11 6 (50 + 3 * j + B) 0) 11 7 (50 + 3 * j + B) 0)) 11 8 (50 + 3 * j + B) (some (xk_nx K)) := by
        rw [sI_comm (xk_sI K 11 2 (50 + 3 * j + B) (M 39 j + 1)) _ _ _ _ (show 3 ≠ 4 by decide), sI_comm (k := 3) (k' := 5) _ _ _ _ _ (by decide), sI_comm (k := 3) (k' := 6) _ _ _ _ _ (by decide), sI_comm (k := 3) (k' := 7) _ _ _ _ _ (by decide), nW_sI (i := 3) _ _ _ _ (by exact nxA)]
        rfl
      have hmm : xm_s (xm_s (xm_s (xm_s (xm_s (xm_s (xm_s M 39 j (M 39 j + 1)) 42 j (M 38 j)) 41 j 0) 46 j 0) 43 j 0) 44 j 0) 40 j 1 = xm_s (xm_s (xm_s (xm_s (xm_s (xm_s (xm_s M 39 j (M 39 j + 1)) 42 j (M 38 j)) 40 j 1) 41 j 0) 43 j 0) 44 j 0) 46 j 0 := by
        rw [ms_comm (k := 40) (k' := 41) _ _ _ _ _ (by decide), ms_comm (k := 40) (k' := 43) _ _ _ _ _ (by decide), ms_comm (k := 40) (k' := 44) _ _ _ _ _ (by decide), ms_comm (k := 40) (k' := 46) _ _ _ _ _ (by decide), ms_comm (k := 46) (k' := 43) _ _ _ _ _ (by decide), ms_comm (k := 46) (k' := 44) _ _ _ _ _ (by decide)]
      have hi2 : iA B (fun w => fz w ∧ w ≠ xk_nx K) V E P (fun _ => 0) c R (n + 1) _ _ := hi
      rw [hmm] at hi2
      have hi3 : iA B (fun w => fz w ∧ w ≠ xk_nx K) V E P (fun _ => 0) c R (n + 1) (xk_sR (nW (xk_sI (xk_sI (xk_sI (xk_sI (xk_sI (xk_sI K 11 2 (50 + 3 * j + B) (M 39 j + 1)) 11 3 (50 + 3 * j + B) 1) 11 4 (50 + 3 * j + B) (M 38 j)) 11 5 (50 + 3 * j + B) 0) 11 6 (50 + 3 * j + B) 0) 11 7 (50 + 3 * j + B) 0)) 11 8 (50 + 3 * j + B) (some (xk_nx K))) (xm_s (xm_s (xm_s (xm_s (xm_s (xm_s (xm_s M 39 j (M 39 j + 1)) 42 j (M 38 j)) 40 j 1) 41 j 0) 43 j 0) 44 j 0) 46 j 0) := by
        rw [← hk]
        exact hi2
      rw [if_neg hb, if_pos rfl, xR_ok o0.1, o0.2.2.2.2.1, xb_some, xb_some, hx, xb_some, xR_ok o0.1, o0.2.2.2.2.2.2, xb_some, xb_some, xb_some, xO_ok e2, xb_some]
      have hrk : kf_Client_ask_0 K (50 + 3 * j + B) (6 + B) = kf_Client_ask_49 (xk_sR (nW (xk_sI (xk_sI (xk_sI (xk_sI (xk_sI (xk_sI K 11 2 (50 + 3 * j + B) (M 39 j + 1)) 11 3 (50 + 3 * j + B) 1) 11 4 (50 + 3 * j + B) (M 38 j)) 11 5 (50 + 3 * j + B) 0) 11 6 (50 + 3 * j + B) 0) 11 7 (50 + 3 * j + B) 0)) 11 8 (50 + 3 * j + B) (some (xk_nx K))) (50 + 3 * j + B) (6 + B) := by
        unfold kf_Client_ask_0
        rw [xI_ok e2, xb_some, e5, xIs_ok e2, xb_some, xIs_ok (by exact e2), xb_some, xI_at (v := M 38 j) (by exact e2) (by exact e4), xb_some, xIs_ok (by exact e2), xb_some, xIs_ok (by exact e2), xb_some, xIs_ok (by exact e2), xb_some, xIs_ok (by exact e2), xb_some]
        generalize hK8 : (xk_sI (xk_sI (xk_sI (xk_sI (xk_sI (xk_sI K 11 2 (50 + 3 * j + B) (M 39 j + 1)) 11 3 (50 + 3 * j + B) 1) 11 4 (50 + 3 * j + B) (M 38 j)) 11 5 (50 + 3 * j + B) 0) 11 6 (50 + 3 * j + B) 0) 11 7 (50 + 3 * j + B) 0) = K8
        have hnx : xk_nx K8 = xk_nx K := by rw [← hK8]; rfl
        have x8 : iX K8 B := by rw [← hK8]; exact x0
        have k8 : xk_kd K8 (50 + 3 * j + B) = 11 + 1 := by rw [← hK8]; exact e2
        rw [← hnx]
        unfold kf_Writes_init_0 xNw
        rw [xp_some, xp_some, xRs_ok (K := xk_new (xk_new K8 3 0) 100 8) (ci := 2) (by exact (nW_self (f := fun _ => 0) x8).1), xb_some, xb_some]
        have k9 : xk_kd (nW K8) (50 + 3 * j + B) = 11 + 1 := ((nW_fr x8) _ (by rw [k8]; decide)).1.trans k8
        show (xRs (nW K8) 11 8 (50 + 3 * j + B) (some (xk_nx K8))).bind _ = _
        rw [xRs_ok k9, xb_some]
      rw [hrk]
      generalize (xk_sR (nW (xk_sI (xk_sI (xk_sI (xk_sI (xk_sI (xk_sI K 11 2 (50 + 3 * j + B) (M 39 j + 1)) 11 3 (50 + 3 * j + B) 1) 11 4 (50 + 3 * j + B) (M 38 j)) 11 5 (50 + 3 * j + B) 0) 11 6 (50 + 3 * j + B) 0) 11 7 (50 + 3 * j + B) 0)) 11 8 (50 + 3 * j + B) (some (xk_nx K))) = KK at hi3
      have hrm : kf_EM_begin_29 M (nI j) = (xMi (xm_s (xm_s (xm_s (xm_s (xm_s (xm_s (xm_s M 39 j (M 39 j + 1)) 42 j (M 38 j)) 40 j 1) 41 j 0) 43 j 0) 44 j 0) 46 j 0) 38 (nI j)).bind fun v4 => (xMi (xm_s (xm_s (xm_s (xm_s (xm_s (xm_s (xm_s M 39 j (M 39 j + 1)) 42 j (M 38 j)) 40 j 1) 41 j 0) 43 j 0) 44 j 0) 46 j 0) 39 (nI j)).bind fun v5 => xp (kf_EM_send_0 (xm_s (xm_s (xm_s (xm_s (xm_s (xm_s (xm_s M 39 j (M 39 j + 1)) 42 j (M 38 j)) 40 j 1) 41 j 0) 43 j 0) 44 j 0) 46 j 0) (1 : Int32) (nI j) v4 (0 : Int32) v5) fun r7 M6 => kf_EM_begin_106 M6 := by
        unfold kf_EM_begin_29 kf_EM_begin_65
        rw [xMi_ok hj (by decide), xb_some, xMt_ok hj (by decide), xb_some, xMi_at (v := M 38 j) hj (by decide) (by exact rfl), xb_some, xMt_ok hj (by decide), xb_some, xMt_ok hj (by decide), xb_some, xMt_ok hj (by decide), xb_some, xMt_ok hj (by decide), xb_some, xMt_ok hj (by decide), xb_some, xMt_ok hj (by decide), xb_some]
      have hbr : (if M 40 j < 1 then kf_EM_begin_29 M (nI j) else (some (M 40 j)).bind fun v4 => if (3 : Int32) < v4 then kf_EM_begin_29 M (nI j) else some ((0 : Int32), M)) = kf_EM_begin_29 M (nI j) := by
        by_cases b1 : M 40 j < 1
        · rw [if_pos b1]
        · rw [if_neg b1, xb_some, if_pos]
          have : ¬ M 40 j ≤ 3 := fun q => hb ((bz_1 _).mpr ⟨b1, q⟩)
          rw [Int32.lt_iff_toInt_lt]; rw [Int32.le_iff_toInt_le] at this; omega
      rw [hbr, hrm]
      generalize (xm_s (xm_s (xm_s (xm_s (xm_s (xm_s (xm_s M 39 j (M 39 j + 1)) 42 j (M 38 j)) 40 j 1) 41 j 0) 43 j 0) 44 j 0) 46 j 0) = MM at hi3
      obtain ⟨x0', o0', c0', l0', t0', ⟨u1', u2', u3'⟩, b0', L0', T0', U0', m0', q0', y0', dq', dy', s0', g0', e0', n0'⟩ := id hi3
      obtain ⟨f1, f2, f3, f4, f5, f6, f7, f8, f9, f10⟩ := u3' j hj
      obtain ⟨b, m, K1, M1, c', k1, k2, mlt, kb, hsf, hM1, hAp⟩ := sd_both hi3 1 (nI j) (MM 38 j) 0 (MM 39 j)
      have S := hsf (fun _ => 0) (fun _ => none) (fun _ => 0) (fun _ => 0)
      have kA : xk_kd K1 (50 + 3 * j + B) = 11 + 1 := (congrFun S.1 _).trans f2
      have i2 : xk_iv K1 11 2 (50 + 3 * j + B) = MM 39 j := (S.2.2.1 11 2 _ (by decide) (by decide)).trans f5
      unfold kf_Client_ask_49 kf_EM_begin_106
      rw [xI_at f2 f3, xb_some, xI_at f2 f4, xb_some, xO_ok s0'.1, xb_some, k1, xp_some, xI_at (by exact kA) (by exact i2), xb_some, xb_some, xIs_ok (by exact kb), xb_some, xb_some, mg_sI, xMi_ok hj (by decide), xb_some, xMi_ok hj (by decide), xb_some, k2, xp_some]
      refine ⟨1, _, _, rfl, rfl, _, V, E, P, c', R, hAp _ _ _ _ _ ?_ (by show n + 1 + 0 ≤ n + 1; omega)⟩
      obtain ⟨ek, ek1, ek9, ek3⟩ := e0'.2.2.2.2.2.2.2 j hj
      exact ⟨rfl, rfl, rfl, rfl, ⟨j, hj, rfl⟩, ⟨ek, ek1, ek9, ek3⟩, Or.inl ⟨rfl, rfl, rfl⟩⟩
end
