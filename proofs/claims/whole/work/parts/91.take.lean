section
-- one row of references is another
def wa (K : xk) (α : Nat → Nat → Option Nat) : xk := (K.1, K.2.1, K.2.2.1, K.2.2.2.1, K.2.2.2.2.1, α, K.2.2.2.2.2.2)
variable {B : Nat} {fz : Nat → Prop} {V : List Int32} {E P : Nat} {D : Nat → Nat} {c : Nat} {R : Nat → Nat} {n : Nat} {K : xk} {M : xm}
theorem wa_all {α : Nat → Nat → Option Nat} {b0 : Nat} (h : iA B fz V E P D c R n K M) (hα : ∀ b j, b ≠ b0 → α b j = xk_ar K b j) :
    (xk_kd K b0 ≠ 102 → iC (wa K α) M B) ∧ (xk_kd K b0 ≠ 103 → iL (wa K α) M B) ∧ (xk_kd K b0 ≠ 104 → iT (wa K α) M B) ∧ (xk_kd K b0 ≠ 105 → iU (wa K α) M B) ∧ (xk_kd K b0 ≠ 108 → jL (wa K α) M B fz V) ∧ (xk_kd K b0 ≠ 108 → jT (wa K α) M B fz V P) ∧ (xk_kd K b0 ≠ 106 → jM (wa K α) M B) ∧
    (xk_kd K b0 ≠ 106 → xk_kd K b0 ≠ 109 → jQ (wa K α) M B ∧ jDq (wa K α) M B) ∧ (xk_kd K b0 ≠ 106 → xk_kd K b0 ≠ 110 → jY (wa K α) M B fz V D ∧ jDy (wa K α) M B D) ∧ (xk_kd K b0 ≠ 107 → jS (wa K α) B c R) ∧ iX (wa K α) B ∧ iO (wa K α) B ∧ jU (wa K α) M B fz ∧ jG (wa K α) M fz V E c R := by
  obtain ⟨x0, o0, c0, l0, t0, u0, b0', L0, T0, U0, m0, q0, y0, dq, dy, ⟨s1, s2, s3, s4, s5, s6, s7, s8, s9, s10⟩, g0, e0, n0⟩ := id h
  have N : ∀ {b k : Nat}, xk_kd K b = k → xk_kd K b0 ≠ k → ∀ j, α b j = xk_ar K b j := fun {b k} hb h0 j => hα b j (fun z => h0 (z ▸ hb))
  have A : ∀ e ma, 1 ≤ e → e ≤ 9 → xk_ar K (5 + B) e = some ma → jMa K M e ma := fun e ma a1 a9 z => (jM_at m0 a1 a9 z).2
  have K2 : ∀ e ma, 1 ≤ e → e ≤ 9 → xk_ar K (5 + B) e = some ma → xk_kd K (ma + 2) = 109 := fun e ma a1 a9 z => (A e ma a1 a9 z).2.2.2.2.2.2.2.2.2.2.2.2.2.1
  have K3 : ∀ e ma, 1 ≤ e → e ≤ 9 → xk_ar K (5 + B) e = some ma → xk_kd K (ma + 3) = 110 := fun e ma a1 a9 z => (A e ma a1 a9 z).2.2.2.2.2.2.2.2.2.2.2.2.2.2.2.2.1
  refine ⟨fun z => ?_, fun z => ?_, fun z => ?_, fun z => ?_, fun z => ?_, fun z => ?_, fun z => ?_, fun z z' => ⟨?_, ?_⟩, fun z z' => ⟨?_, ?_⟩, fun z => ?_, x0, o0, U0, g0⟩
  · exact ⟨c0.1, c0.2.1, fun i hi => ⟨(N c0.1 z i).trans (c0.2.2 i hi).1, (c0.2.2 i hi).2⟩⟩
  · exact ⟨l0.1, l0.2.1, fun i hi => ⟨(N l0.1 z i).trans (l0.2.2 i hi).1, (l0.2.2 i hi).2⟩⟩
  · exact ⟨t0.1, t0.2.1, fun i hi => ⟨(N t0.1 z i).trans (t0.2.2 i hi).1, (t0.2.2 i hi).2⟩⟩
  · exact ⟨u0.1, u0.2.1, fun i hi => ⟨(N u0.1 z i).trans (u0.2.2 i hi).1, (u0.2.2 i hi).2⟩⟩
  · intro i hi
    obtain ⟨z1, z2, z3, z4, z5, z6, z7, nn, z8, z9, z10⟩ := L0 i hi
    refine ⟨z1, z2, z3, z4, z5, z6, z7, nn, z8, z9, fun j hj => ?_⟩
    obtain ⟨a, b, y1, y2⟩ := z10 j hj
    exact ⟨a, b, (N z6 z j).trans y1, y2⟩
  · intro i hi
    obtain ⟨z1, z2, z3, z4, nn, z5, z6, z7, z8, z9⟩ := T0 i hi
    refine ⟨z1, z2, z3, z4, nn, z5, z6, z7, fun j hj => ?_, z9⟩
    obtain ⟨a, b, m, y1, y2⟩ := z8 j hj
    exact ⟨a, b, m, (N z3 z j).trans y1, y2⟩
  · refine ⟨m0.1, m0.2.1, fun e h1 h9 => ?_⟩
    have : xk_ar (wa K α) (5 + B) e = xk_ar K (5 + B) e := N m0.1 z e
    rw [this]
    exact m0.2.2 e h1 h9
  · intro e ma h1 h9 hm
    have hm : xk_ar K (5 + B) e = some ma := (N m0.1 z e).symm.trans hm
    obtain ⟨nn, z1, z2, z3, z4⟩ := q0 e ma h1 h9 hm
    refine ⟨nn, z1, z2, z3, fun i hi => ?_⟩
    obtain ⟨q, y1, y2⟩ := z4 i hi
    exact ⟨q, (N (K2 e ma h1 h9 hm) z' i).trans y1, y2⟩
  · intro e d ma md n1 n2 i j a h1 h2 h3 h4 h5 h6 h7 h8 h9 h10 h11 h12 h13 h14
    have h5 : xk_ar K (5 + B) e = some ma := (N m0.1 z e).symm.trans h5
    have h6 : xk_ar K (5 + B) d = some md := (N m0.1 z d).symm.trans h6
    exact dq e d ma md n1 n2 i j a h1 h2 h3 h4 h5 h6 h7 h8 h9 h10 h11 h12 ((N (K2 e ma h1 h2 h5) z' i).symm.trans h13) ((N (K2 d md h3 h4 h6) z' j).symm.trans h14)
  · intro e ma h1 h9 hm
    have hm : xk_ar K (5 + B) e = some ma := (N m0.1 z e).symm.trans hm
    obtain ⟨nn, z1, z2, z3, z4⟩ := y0 e ma h1 h9 hm
    refine ⟨nn, z1, z2, z3, fun i hi => ?_⟩
    obtain ⟨q, y1, y2⟩ := z4 i hi
    exact ⟨q, (N (K3 e ma h1 h9 hm) z' _).trans y1, y2⟩
  · intro e d ma md n1 n2 i j a h1 h2 h3 h4 h5 h6 h7 h8 h9 h10 h11 h12 h13 h14
    have h5 : xk_ar K (5 + B) e = some ma := (N m0.1 z e).symm.trans h5
    have h6 : xk_ar K (5 + B) d = some md := (N m0.1 z d).symm.trans h6
    exact dy e d ma md n1 n2 i j a h1 h2 h3 h4 h5 h6 h7 h8 h9 h10 h11 h12 ((N (K3 e ma h1 h2 h5) z' _).symm.trans h13) ((N (K3 d md h3 h4 h6) z' _).symm.trans h14)
  · exact ⟨s1, s2, s3, s4, s5, s6, s7, s8, fun k hk => ⟨(N s3 z k).trans (s9 k hk).1, (s9 k hk).2⟩, s10⟩
-- a message is taken
def tkR (R : Nat → Nat) (k : Nat) : Nat → Nat := fun j => if j < k then R j else if j < 24 then R (j + 1) else R k
theorem cN_take {t s : Nat → Int32} {k : Nat} (h1 : ∀ j, j < k → s j = t j) : ∀ {c : Nat}, (∀ j, k ≤ j → j < c → s j = t (j + 1)) → k ≤ c → cN s c + (if t k = 5 then 1 else 0) = cN t (c + 1) := by
  intro c
  induction c with
  | zero =>
    intro _ hk
    have : k = 0 := by omega
    subst this
    rfl
  | succ c ih =>
    intro h2 hk
    by_cases q : k = c + 1
    · subst q
      show _ = cN t (c + 1) + _
      rw [cN_ext h1]
    · have := ih (fun j j1 j2 => h2 j j1 (by omega)) (by omega)
      have e : s c = t (c + 1) := h2 c (by omega) (by omega)
      show cN s c + (if s c = 5 then 1 else 0) + _ = cN t (c + 1) + (if t (c + 1) = 5 then 1 else 0)
      rw [e]
      omega
theorem st_take {k m : Nat} (h : iA B fz V E P D (c + 1) R n K M) (hk : k ≤ c) (hm : n ≤ m + (if M 48 k = 5 then 4 else 0)) :
    ∃ K' M', kf_Line_take_0 K (6 + B) (nI k) = some (some (R k), K') ∧ kf_EM_take_0 M (nI k) = some M' ∧ iA B fz V E P D c (tkR R k) m K' M' ∧ tkR R k 24 = R k ∧ mv K' M' fz V E (fun j => xk_iv K' 4 j (R k)) (fun j => xk_rv K' 4 j (R k)) (fun j => M' j 24) (fun x => M' 55 (192 + x)) ∧ M' 48 24 = M 48 k := by
  obtain ⟨x0, o0, c0, l0, t0, u0, b0', L0, T0, U0, m0, q0, y0, dq, dy, ⟨s1, s2, s3, s4, s5, s6, s7, s8, s9, s10⟩, ⟨g1, g2⟩, e0, n0⟩ := id h
  have c23 : c ≤ 23 := by omega
  have mvk : ∀ (f : Nat) (j : Nat), 48 ≤ f → f ≤ 54 → sh_M (xm_s (cp_M M k 24) xm_l 0 (nI c)) k c f j = if k ≤ j ∧ j < c then M f (j + 1) else if j = 24 then M f k else M f j := fun f j f1 f2 => by
    unfold sh_M
    by_cases z : k ≤ j ∧ j < c
    · rw [if_pos ⟨⟨f1, f2⟩, z⟩, if_pos z, ms_get, if_neg (fun q => by rw [show xm_l = 47 from rfl] at q; omega), cp_get, if_neg (fun q => by omega), if_neg (fun q => by omega)]
    · rw [if_neg (fun q => z q.2), if_neg (fun q => by omega), if_neg z, ms_get, if_neg (fun q => by rw [show xm_l = 47 from rfl] at q; omega), cp_get]
      by_cases z2 : j = 24
      · rw [if_pos ⟨⟨f1, f2⟩, z2⟩, if_pos z2]
      · rw [if_neg (fun q => z2 q.2), if_neg (fun q => by omega), if_neg z2]
  have mv5 : ∀ j, sh_M (xm_s (cp_M M k 24) xm_l 0 (nI c)) k c 55 j = if 8 * k ≤ j ∧ j < 8 * c then M 55 (j + 8) else if 192 ≤ j ∧ j < 200 then M 55 (8 * k + (j - 192)) else M 55 j := fun j => by
    unfold sh_M
    rw [if_neg (fun q => by omega)]
    by_cases z : 8 * k ≤ j ∧ j < 8 * c
    · rw [if_pos ⟨rfl, z⟩, if_pos z, ms_get, if_neg (fun q => by rw [show xm_l = 47 from rfl] at q; omega), cp_get, if_neg (fun q => by omega), if_neg (fun q => by omega)]
    · rw [if_neg (fun q => z q.2), if_neg z, ms_get, if_neg (fun q => by rw [show xm_l = 47 from rfl] at q; omega), cp_get, if_neg (fun q => by omega)]
      by_cases z2 : 192 ≤ j ∧ j < 200
      · rw [if_pos ⟨rfl, by omega, by omega⟩, if_pos z2]
      · rw [if_neg (fun q => z2 ⟨by omega, by omega⟩), if_neg z2]
  refine ⟨_, _, (tk_class s1 s2 s3 s4 (by omega) (fun j hj => by rw [(s9 j (by omega)).1]; exact (s9 j (by omega)).2.1)).trans (by rw [(s9 k (by omega)).1]), tm_all g1 c23 hk, ?_, by unfold tkR; rw [if_neg (by omega), if_neg (by omega)], ?_, ?_⟩
  · obtain ⟨w1, w2, w3, w4, w5, w6, w7, w8, w9, w10, w11, w12, w13, w14⟩ := wa_all (b0 := 7 + B) h (fun b j hb => row_ne K (tk_row (xk_ar K (7 + B)) (some (R k)) k) j hb)
    have k7 : ∀ z, z ≠ 107 → xk_kd K (7 + B) ≠ z := fun z hz => by rw [s3]; exact fun q => hz q.symm
    have rw0 : ∀ j, j < 25 → tk_row (xk_ar K (7 + B)) (some (R k)) k j = some (tkR R k j) := fun j hj => by
      unfold tk_row tkR
      by_cases z1 : j < k
      · rw [if_pos z1, if_pos z1]; exact (s9 j (by omega)).1
      · rw [if_neg z1, if_neg z1]
        by_cases z2 : j < 24
        · rw [if_pos z2, if_pos z2]; exact (s9 (j + 1) (by omega)).1
        · rw [if_neg z2, if_neg z2, if_pos (by omega)]
    have gK : ∀ j, j < c → mv K M fz V E (fun i => xk_iv K 4 i (tkR R k j)) (fun i => xk_rv K 4 i (tkR R k j)) (fun i => sh_M (xm_s (cp_M M k 24) xm_l 0 (nI c)) k c i j) (fun x => sh_M (xm_s (cp_M M k 24) xm_l 0 (nI c)) k c 55 (8 * j + x)) := fun j hj => by
      by_cases z1 : j < k
      · have e : tkR R k j = R j := if_pos z1
        rw [e]
        refine mv_cg (g2 j (by omega)) (fun _ => rfl) (fun _ => rfl) (fun i i1 i2 => ?_) (fun x hx => ?_)
        · rw [mvk i j i1 i2, if_neg (by omega), if_neg (by omega)]
        · rw [mv5, if_neg (by omega), if_neg (by omega)]
      · have e : tkR R k j = R (j + 1) := (if_neg z1).trans (if_pos (by omega))
        rw [e]
        refine mv_cg (g2 (j + 1) (by omega)) (fun _ => rfl) (fun _ => rfl) (fun i i1 i2 => ?_) (fun x hx => ?_)
        · rw [mvk i j i1 i2, if_pos (by omega)]
        · rw [mv5, if_pos (by omega)]
          congr 1
          omega
    refine ⟨w11, w12, w1 (k7 _ (by decide)), w2 (k7 _ (by decide)), w3 (k7 _ (by decide)), w4 (k7 _ (by decide)), b0', w5 (k7 _ (by decide)), w6 (k7 _ (by decide)), w13, w7 (k7 _ (by decide)), (w8 (k7 _ (by decide)) (k7 _ (by decide))).1, (w9 (k7 _ (by decide)) (k7 _ (by decide))).1, (w8 (k7 _ (by decide)) (k7 _ (by decide))).2, (w9 (k7 _ (by decide)) (k7 _ (by decide))).2, ⟨s1, s2, s3, s4, s5, s6, by omega, ?_, fun j hj => ⟨?_, ?_⟩, fun i j hi hj => ?_⟩, ⟨?_, fun j hj => ?_⟩, e0, ?_⟩
    · rw [sI_at, s8, nI_pred]
    · exact (row_ar K (7 + B) _ j).trans (rw0 j hj)
    · have : ∃ i, i < 25 ∧ tkR R k j = R i := by
        unfold tkR
        by_cases z1 : j < k
        · exact ⟨j, hj, if_pos z1⟩
        · by_cases z2 : j < 24
          · exact ⟨j + 1, by omega, (if_neg z1).trans (if_pos z2)⟩
          · exact ⟨k, by omega, (if_neg z1).trans (if_neg z2)⟩
      obtain ⟨i, hi, e⟩ := this
      rw [e]
      exact (s9 i hi).2
    · unfold tkR
      by_cases z1 : i < k <;> by_cases z2 : j < k <;> by_cases z3 : i < 24 <;> by_cases z4 : j < 24 <;> simp only [z1, z2, z3, z4, if_true, if_false] <;> intro z <;> first | (have := s10 _ _ (by omega) (by omega) z; omega) | omega
    · exact (shm_l _ _ _).trans xMt_get
    · exact gK j hj
    · unfold jN at n0 ⊢
      have e1 := cN_take (t := M 48) (s := fun j => sh_M (xm_s (cp_M M k 24) xm_l 0 (nI c)) k c 48 j) (k := k) (c := c) (fun j hj => by rw [mvk 48 j (by omega) (by omega), if_neg (by omega), if_neg (by omega)]) (fun j j1 j2 => by rw [mvk 48 j (by omega) (by omega), if_pos ⟨j1, j2⟩]) hk
      show 5 * V.length + P + (ph (M 40 0) (M 44 0) + ph (M 40 1) (M 44 1) + ph (M 40 2) (M 44 2)) + 4 * cN (fun j => sh_M (xm_s (cp_M M k 24) xm_l 0 (nI c)) k c 48 j) c ≤ m
      split at e1 <;> rename_i q
      · rw [if_pos q] at hm; omega
      · rw [if_neg q] at hm; omega
  · have gT : mv K M fz V E (fun j => xk_iv K 4 j (R k)) (fun j => xk_rv K 4 j (R k)) (fun j => sh_M (xm_s (cp_M M k 24) xm_l 0 (nI c)) k c j 24) (fun x => sh_M (xm_s (cp_M M k 24) xm_l 0 (nI c)) k c 55 (192 + x)) := ?_
    · exact gT
    refine mv_cg (K := K) (M := M) (f := fun j => xk_iv K 4 j (R k)) (g := fun j => xk_rv K 4 j (R k)) (h := fun j => M j k) (ct := fun x => M 55 (8 * k + x)) (by exact g2 k (by omega)) (fun _ => rfl) (fun _ => rfl) (fun i i1 i2 => ?_) (fun x hx => ?_)
    · rw [mvk i 24 i1 i2, if_neg (by omega), if_pos rfl]
    · rw [mv5, if_neg (by omega), if_pos (by omega), Nat.add_sub_cancel_left]
  · rw [mvk 48 24 (by omega) (by omega), if_neg (by omega), if_pos rfl]
end
section
theorem kp_lose (B : Nat) : lo_s11 (iV B) B := fun n K M a _ h => by
  obtain ⟨fz, V, E, P, c, R, hA⟩ := id h
  obtain ⟨x0, o0, c0, l0, t0, u0, b0, L0, T0, U0, m0, q0, y0, dq, dy, s0, g0, e0, n0⟩ := id hA
  have h10 : ¬ (1 : Int32) = 0 := by decide
  unfold kf_ES_lose_0 kf_EM_lose_0 kf_Line_has_0
  rw [xR_ok o0.1, o0.2.2.2.2.2.2, xb_some, xb_some, xO_ok s0.1, xb_some, xI_at s0.1 s0.2.2.2.2.2.2.2.1, xb_some, g0.1]
  rcases ix_ln s0.2.2.2.2.2.2.1 a with h | ⟨h1, h2, h3⟩ | ⟨k, hk, rfl, h1, h2, h3⟩
  · rw [if_pos h, if_pos h, xp_some, if_pos rfl]
    exact ⟨0, K, M, rfl, rfl, fz, V, E, P, c, R, iA_mono hA (by omega)⟩
  · rw [if_neg h1, if_pos h2, if_neg h1, if_neg h3, xp_some, if_pos rfl]
    exact ⟨0, K, M, rfl, rfl, fz, V, E, P, c, R, iA_mono hA (by omega)⟩
  · obtain ⟨c, rfl⟩ : ∃ d, c = d + 1 := ⟨c - 1, by omega⟩
    obtain ⟨K', M', k1, k2, hB, -⟩ := st_take (k := k) (m := n + 1) hA (by omega) (by omega)
    rw [if_neg h1, if_neg h2, if_neg h1, if_pos h3, xp_some, if_neg h10, xR_ok o0.1, o0.2.2.2.2.2.2, xb_some, xb_some, xO_ok s0.1, xb_some, k1, k2, xp_some, xb_some]
    exact ⟨1, _, _, rfl, rfl, fz, V, E, P, c, _, hB⟩
variable {B : Nat} {fz : Nat → Prop} {V : List Int32} {E P : Nat} {D : Nat → Nat} {c : Nat} {R : Nat → Nat} {n : Nat} {K : xk} {M : xm}
/-- what a message's receiver leaves behind: the promise kept, and the message itself as it was -/
def dn (B n r : Nat) (t : Int32) (K : xk) (M : xm) : Prop := iV B n K M ∧ xk_kd K r = 4 + 1 ∧ xk_iv K 4 0 r = t
theorem hd_confirm {e : Nat} {i : Nat} (hA : iA B fz V E P (fun _ => 0) c R n K M) (hi : i < 3) (he1 : 1 ≤ e) (he9 : e ≤ 9) (v0 : xk_iv K 4 0 (R 24) = 2) (v2 : xk_iv K 4 2 (R 24) = nI e) (v5 : xk_iv K 4 5 (R 24) = M 52 24) :
    ∃ K' M', kf_Log_receive_0 K (37 + 3 * i + B) (R 24) (6 + B) = some K' ∧ kf_EM_hand_0 M 2 (nI i) (nI e) = some M' ∧ dn B n (R 24) 2 K' M' := by
  obtain ⟨x0, o0, c0, l0, t0, u0, b0, L0, T0, U0, m0, q0, y0, dq, dy, s0, g0, e0, n0⟩ := id hA
  obtain ⟨f1, f2, f3, f4, f5, f6, f7⟩ := l0.2.2 i hi
  have kr : xk_kd K (R 24) = 4 + 1 := (s0.2.2.2.2.2.2.2.2.1 24 (by decide)).2.1
  have stay : dn B n (R 24) 2 K M := ⟨⟨fz, V, E, P, c, R, hA⟩, kr, v0⟩
  unfold kf_Log_receive_0 kf_EM_hand_0
  have m52 : xMi M 52 24 = some (M 52 24) := xMi_ok (i := 24) (by decide) (by decide)
  have m51 : xMi M 51 24 = some (M 51 24) := xMi_ok (i := 24) (by decide) (by decide)
  rw [m52, m51, xb_some, xb_some, if_pos rfl, xMi_ok hi (by decide), xb_some, xI_at f2 f4, xb_some]
  by_cases hu : M 3 i = 0
  · rw [if_pos hu, if_pos hu]
    exact ⟨K, M, rfl, rfl, stay⟩
  · rw [if_neg hu, if_neg hu, xI_at kr v2, xb_some, xI_at f2 f5, xb_some, xMi_ok hi (by decide), xb_some]
    by_cases hq : M 2 i = nI e
    · obtain ⟨le, le1, le2, le3, le4⟩ := e0.2.2.2.2.2.1 i hi
      have e9 := e0.2.1
      have : le = e := (nI_eq (by omega) (by omega)).mp (le3.symm.trans hq)
      subst this
      obtain ⟨b, m, K1, M1, c', k1, k2, mlt, kb, hsf, hM1, hAp⟩ := sd_both hA 3 (nI i) (nI le) 0 (M 52 24)
      have S := hsf (fun _ => 0) (fun _ => none) (fun _ => 0) (fun _ => 0)
      have S' := hsf (rs_f 3 (nI i) (nI le) (fun j => xk_iv K1 4 j b)) (rs_g (fun j => xk_rv K1 4 j b)) (fun _ => 0) (fun _ => 0)
      have k24 : ∀ f g, xk_kd (mg K1 b f g) (R 24) = 4 + 1 := fun f g => (congrFun (hsf f g (fun _ => 0) (fun _ => 0)).1 _).trans kr
      rw [if_pos hq.symm, if_pos hq, xI_at kr v0, xb_some, if_pos rfl, xI_at f2 f3, xb_some, xb_some, xO_ok s0.1, xb_some, hq, k1, xp_some, xI_at (k24 _ _) ((S'.2.2.2.2.2.2.2.2.1 5).trans v5), xb_some, xb_some, xIs_ok (by exact kb), xb_some, mg_sI]
      unfold kf_EM_hand_42 kf_EM_hand_222
      rw [k2, xp_some]
      refine ⟨_, _, rfl, rfl, ⟨fz, V, E, P, c', R, hAp _ _ _ _ _ ?_ (Nat.le_refl _)⟩, k24 _ _, ?_⟩
      · exact ⟨rfl, rfl, rfl, rfl, ⟨i, hi, rfl⟩, ⟨le, le1, he9, rfl⟩, Or.inr (Or.inr (Or.inl ⟨rfl, rfl, rfl, i, le, hi, rfl, le1, le2, rfl, le4⟩))⟩
      · exact ((hsf _ _ (fun _ => 0) (fun _ => 0)).2.2.2.2.2.2.2.2.1 0).trans v0
    · rw [if_neg (fun z => hq z.symm), if_neg hq]
      exact ⟨K, M, rfl, rfl, stay⟩
theorem hd_version {i : Nat} (hA : iA B fz V E P (fun _ => 0) c R n K M) (hi : i < 3) (x3 : Int32) (v0 : xk_iv K 4 0 (R 24) = 4) (v4 : xk_iv K 4 4 (R 24) = M 52 24) (v3 : xk_iv K 4 3 (R 24) = M 51 24) :
    ∃ K' M', kf_Client_receive_0 K (50 + 3 * i + B) (R 24) = some K' ∧ kf_EM_hand_0 M 4 (nI i) x3 = some M' ∧ dn B (n + 1) (R 24) 4 K' M' := by
  obtain ⟨x0, o0, c0, l0, t0, u0, b0, L0, T0, U0, m0, q0, y0, dq, dy, s0, g0, e0, n0⟩ := id hA
  obtain ⟨f1, f2, f3, f4, f5, f6, f7, f8, f9, f10⟩ := u0.2.2 i hi
  have kr : xk_kd K (R 24) = 4 + 1 := (s0.2.2.2.2.2.2.2.2.1 24 (by decide)).2.1
  have stay : dn B (n + 1) (R 24) 4 K M := ⟨⟨fz, V, E, P, c, R, iA_mono hA (by omega)⟩, kr, v0⟩
  unfold kf_Client_receive_0 kf_Client_receive_44 kf_EM_hand_0
  have m52 : xMi M 52 24 = some (M 52 24) := xMi_ok (i := 24) (by decide) (by decide)
  have m51 : xMi M 51 24 = some (M 51 24) := xMi_ok (i := 24) (by decide) (by decide)
  rw [m52, m51, xb_some, xb_some, if_neg (show ¬ (4 : Int32) = 2 by decide), if_neg (show ¬ (4 : Int32) = 6 by decide), if_pos rfl, xMi_ok hi (by decide), xb_some, xI_at kr v4, xb_some, xI_at f2 f5, xb_some]
  by_cases hq : M 39 i = M 52 24
  · rw [if_pos hq.symm, if_pos hq, xI_at kr v0, xb_some, if_pos rfl, xI_at f2 f6, xMi_ok hi (by decide)]
    simp only [xb_some]
    by_cases hs : M 40 i = 1
    · obtain ⟨w, w1, w2, w3⟩ := U0.1 i hi
      have hB := st_cl (v := 2) (m := n + 1) hA hi (fun z => by rw [hs] at z; exact absurd z (by decide)) (fun _ w' hw => by cases w1.symm.trans hw; exact w3 (Or.inl hs)) (jN_st n0 hi (by
        rw [hs]
        by_cases z : M 44 i = 0
        · rw [z]; decide
        · rw [show ph 2 (M 44 i) = 3 from if_neg z, show ph 1 (M 44 i) = 2 from if_neg z]; decide))
      have hC := st_c5 (v := M 51 24) hB hi
      have v3' : xI (xk_sI K 11 3 (50 + 3 * i + B) 2) 4 3 (R 24) = some (M 51 24) := xI_at kr v3
      rw [if_pos hs, if_pos hs, xIs_ok f2, xb_some, v3', xb_some, xIs_ok (by exact f2), xb_some, xMt_ok hi (by decide), xb_some, xMt_ok hi (by decide), xb_some]
      exact ⟨_, _, rfl, rfl, ⟨fz, V, E, P, c, R, hC⟩, kr, v0⟩
    · rw [if_neg hs, if_neg hs, if_neg (by decide)]
      exact ⟨K, M, rfl, rfl, stay⟩
  · rw [if_neg (fun z => hq z.symm), if_neg hq]
    exact ⟨K, M, rfl, rfl, stay⟩
theorem hd_result {i : Nat} (hA : iA B fz V E P (fun _ => 0) c R n K M) (hi : i < 3) (x3 : Int32) (v0 : xk_iv K 4 0 (R 24) = 8) (v4 : xk_iv K 4 4 (R 24) = M 52 24) (v3 : xk_iv K 4 3 (R 24) = M 51 24) (v6 : xk_iv K 4 6 (R 24) = M 54 24) (hr : M 54 24 = 4 ∨ M 54 24 = 5 ∧ M 51 24 = 0 ∨ M 54 24 = 6 ∧ M 51 24 = 0) :
    ∃ K' M', kf_Client_receive_0 K (50 + 3 * i + B) (R 24) = some K' ∧ kf_EM_hand_0 M 8 (nI i) x3 = some M' ∧ dn B n (R 24) 8 K' M' := by
  obtain ⟨x0, o0, c0, l0, t0, u0, b0, L0, T0, U0, m0, q0, y0, dq, dy, s0, g0, e0, n0⟩ := id hA
  obtain ⟨f1, f2, f3, f4, f5, f6, f7, f8, f9, f10⟩ := u0.2.2 i hi
  have kr : xk_kd K (R 24) = 4 + 1 := (s0.2.2.2.2.2.2.2.2.1 24 (by decide)).2.1
  have stay : dn B n (R 24) 8 K M := ⟨⟨fz, V, E, P, c, R, hA⟩, kr, v0⟩
  unfold kf_Client_receive_0 kf_Client_receive_44 kf_EM_hand_0
  have m52 : xMi M 52 24 = some (M 52 24) := xMi_ok (i := 24) (by decide) (by decide)
  have m51 : xMi M 51 24 = some (M 51 24) := xMi_ok (i := 24) (by decide) (by decide)
  have m54 : xMi M 54 24 = some (M 54 24) := xMi_ok (i := 24) (by decide) (by decide)
  rw [m52, m51, xb_some, xb_some, if_neg (show ¬ (8 : Int32) = 2 by decide), if_neg (show ¬ (8 : Int32) = 6 by decide), if_neg (show ¬ (8 : Int32) = 4 by decide), if_pos rfl, xMi_ok hi (by decide), xb_some, xI_at kr v4, xb_some, xI_at f2 f5, xb_some]
  by_cases hq : M 39 i = M 52 24
  · rw [if_pos hq.symm, if_pos hq, xI_at kr v0, xb_some, if_neg (show ¬ (8 : Int32) = 4 by decide), xb_some, if_pos rfl, xI_at f2 f6, xMi_ok hi (by decide)]
    simp only [xb_some]
    by_cases hs : M 40 i = 3
    · have hB := st_cl (v := M 54 24) (m := n) hA hi (fun z => by rw [hs] at z; exact absurd z (by decide)) (fun z => by rcases hr with q | ⟨q, -⟩ | ⟨q, -⟩ <;> rw [q] at z <;> exact absurd z (by decide)) (jN_st (d := 0) n0 hi (by rcases hr with q | ⟨q, -⟩ | ⟨q, -⟩ <;> rw [q] <;> exact Nat.zero_le _))
      have hC := st_c6 (v := M 51 24) hB hi
      have v3' : xI (xk_sI K 11 3 (50 + 3 * i + B) (M 54 24)) 4 3 (R 24) = some (M 51 24) := xI_at kr v3
      have m54' : xMi (xm_s M 40 i (M 54 24)) 54 24 = some (M 54 24) := xMi_ok (i := 24) (by decide) (by decide)
      rw [if_pos hs, if_pos hs, xI_at kr v6, xb_some, xIs_ok f2, xb_some, v3', xb_some, xIs_ok (by exact f2), xb_some, m54, xb_some, xMt_ok hi (by decide), xb_some]
      unfold kf_EM_hand_176 kf_EM_hand_222
      rw [m54', xb_some]
      refine ⟨_, _, rfl, ?_, ⟨fz, V, E, P, c, R, hC⟩, kr, v0⟩
      by_cases h4 : M 54 24 = 4
      · rw [if_pos h4, xMt_ok hi (by decide), xb_some]
      · have : M 51 24 = 0 := by rcases hr with q | ⟨-, q⟩ | ⟨-, q⟩; exact absurd q h4; exact q; exact q
        rw [if_neg h4, xMt_ok hi (by decide), xb_some, this]
    · rw [if_neg hs, if_neg hs]
      exact ⟨K, M, rfl, rfl, stay⟩
  · rw [if_neg (fun z => hq z.symm), if_neg hq]
    exact ⟨K, M, rfl, rfl, stay⟩
end
