section
variable {B : Nat} {fz : Nat → Prop} {V : List Int32} {E P : Nat} {D : Nat → Nat} {c : Nat} {R : Nat → Nat} {n : Nat} {K : xk} {M : xm}
theorem b_xor (x y : Int32) (i : Nat) : bt (x ^^^ y) i = (bt x i ^^ bt y i) := by unfold bt; rw [Int32.toBitVec_xor, BitVec.getLsbD_xor]
theorem b_m1 : ∀ i, i < 32 → bt (-1) i = true := by decide +kernel
theorem b_not (x y : Int32) {i : Nat} (hi : i < 32) : bt (x &&& (y ^^^ (-1))) i = (bt x i && !bt y i) := by
  rw [b_and, b_xor, b_m1 i hi]
  cases bt x i <;> cases bt y i <;> rfl
theorem po_loop {N : xm} {p q : Nat} {rec5 : xm → Int32 → Int32 → Int32 → Int32 → Option (Int32 × xm)} {x1 x3 x4 : Int32} (hp : p < 80) (hq : q < 25) : ∀ (d i m : Nat), i + d = 8 → d < m → kf_EM_pushOut_87 rec5 m (cb_L N 34 p 55 q i) x1 (nI p) x3 x4 (nI q) (nI i) = rec5 (cb_L N 34 p 55 q 8) x1 (nI p) (x3 + 1) (x4 + 1) := by
  intro d
  induction d with
  | zero =>
    intro i m hi hm
    obtain ⟨m, rfl⟩ : ∃ m', m = m' + 1 := ⟨m - 1, by omega⟩
    have i8 : i = 8 := by omega
    subst i8
    show kb_EM_pushOut_87 rec5 (kf_EM_pushOut_87 rec5 m) _ _ _ _ _ _ (nI 8) = _
    unfold kb_EM_pushOut_87
    rw [if_pos (show (8 : Int32) ≤ nI 8 from nI_le (a := 8) (b := 8) (Nat.le_refl _) (by decide))]
  | succ d ih =>
    intro i m hi hm
    obtain ⟨m, rfl⟩ : ∃ m', m = m' + 1 := ⟨m - 1, by omega⟩
    show kb_EM_pushOut_87 rec5 (kf_EM_pushOut_87 rec5 m) _ _ _ _ _ _ (nI i) = _
    unfold kb_EM_pushOut_87
    rw [if_neg (show ¬ (8 : Int32) ≤ nI i from nI_ge (a := i) (b := 8) (by omega) (by decide)), ix_8, ix_8, xMi_ok (by show 8 * p + i < 640; omega) (by decide), xb_some, xMt_ok (by show 8 * q + i < 200; omega) (by decide), xb_some, nI_1, cb_src (by decide), cb_step]
    exact ih (i + 1) m (by omega) (by omega)
theorem lp_push {e ma nw i y : Nat} (e1 : 1 ≤ e) (e9 : e ≤ 9) (hw8 : nw ≤ 8) (hi : i < nw) : ∀ (d l m : Nat), l + d = 3 → d < m → ∀ (K : xk) (M : xm) (c : Nat) (s : Int32), iA B fz V E P D c R n K M → xk_ar K (5 + B) e = some ma → M 30 e = nI nw → xk_ar K (ma + 3) (i + D e) = some y →
    ∃ K' M' c' s', kf_Master_pushToOthers_5 m K ma y (6 + B) s (nI l) = some (s', K') ∧ kf_EM_pushOut_5 m M (nI e) (nI (8 * e + i)) s (nI l) = some (s', M') ∧ iA B fz V E P D c' R n K' M' ∧ sf (R 24) K K' M M' := by
  intro d
  induction d with
  | zero =>
    intro l m hl hm K M c s h he hw hy
    obtain ⟨m, rfl⟩ : ∃ m', m = m' + 1 := ⟨m - 1, by omega⟩
    have : l = 3 := by omega
    subst this
    refine ⟨K, M, c, s, ?_, ?_, h, sf_rf⟩
    · show kb_Master_pushToOthers_5 (kf_Master_pushToOthers_5 m) K ma y (6 + B) s (nI 3) = _
      unfold kb_Master_pushToOthers_5
      rw [if_pos (show (3 : Int32) ≤ nI 3 from nI_le (a := 3) (b := 3) (Nat.le_refl _) (by decide))]
    · show kb_EM_pushOut_5 (kf_EM_pushOut_5 m) M (nI e) (nI (8 * e + i)) s (nI 3) = _
      unfold kb_EM_pushOut_5 kf_EM_pushOut_134
      rw [if_pos (show (3 : Int32) ≤ nI 3 from nI_le (a := 3) (b := 3) (Nat.le_refl _) (by decide))]
  | succ d ih =>
    intro l m hl hm K M c s h he hw hy
    obtain ⟨m, rfl⟩ : ∃ m', m = m' + 1 := ⟨m - 1, by omega⟩
    have l3 : ¬ (3 : Int32) ≤ nI l := nI_ge (a := l) (b := 3) (by omega) (by decide)
    obtain ⟨x0, o0, c0, l0, t0, u0, b0, L0, T0, U0, m0, q0, y0, dq, dy, s0, g0, e0, n0⟩ := id h
    obtain ⟨k1, k2, k3, k4, k5, k6, k7, k8, -⟩ := (jM_at m0 e1 e9 he).2
    obtain ⟨n1, z1, z2, z3, z4⟩ := y0 e ma e1 e9 he
    have : n1 = nw := (nI_eq (by omega) (by omega)).mp (z2.symm.trans hw)
    subst this
    obtain ⟨y', r1, r2, r3, r4, r5, r6, r7, a, r8, r9⟩ := z4 i hi
    rw [hy] at r1
    cases r1
    obtain ⟨a1, a2, a3, a4, w, a5, a6, a7⟩ := id r9
    show ∃ K' M' c' s', kb_Master_pushToOthers_5 (kf_Master_pushToOthers_5 m) K ma y (6 + B) s (nI l) = some (s', K') ∧ kb_EM_pushOut_5 (kf_EM_pushOut_5 m) M (nI e) (nI (8 * e + i)) s (nI l) = some (s', M') ∧ _
    unfold kb_Master_pushToOthers_5 kb_EM_pushOut_5
    have b10 : e < 10 := by omega
    have b80 : 8 * e + i < 80 := by omega
    have m18 : xMi M 18 (nI e) = some (M 18 e) := xMi_ok b10 (by decide)
    have m35 : xMi M 35 (nI (8 * e + i)) = some (M 35 (8 * e + i)) := xMi_ok b80 (by decide)
    have m31 : xMi M 31 (nI (8 * e + i)) = some (M 31 (8 * e + i)) := xMi_ok b80 (by decide)
    rw [if_neg l3, if_neg l3, xI_at k1 k3, xb_some, xI_at r2 r5, xb_some, m18, xb_some, m35, xb_some, nI_1]
    by_cases hb : bt (M 18 e) l = true
    · rw [if_pos ((bi_m _ (by omega)).mpr hb)]
      by_cases hb2 : bt (M 35 (8 * e + i)) l = true
      · have hc0 : ((M 18 e &&& (M 35 (8 * e + i) ^^^ (-1))) &&& ((1 : Int32) <<< (nI l &&& 31))) = 0 := (bi_c _ (by omega)).mpr (by rw [b_not _ _ (by omega), hb2]; cases bt (M 18 e) l <;> rfl)
        have hd0 : ¬ ((M 35 (8 * e + i) >>> (nI l &&& 31)) &&& (1 : Int32)) = 0 := fun z => by rw [(bi_0 _ (by omega)).mp z] at hb2; cases hb2
        rw [if_pos hc0, if_neg hd0]
        exact ih (l + 1) m (by omega) (by omega) K M c s h he hw hy
      · have hb3 := bt_tf hb2
        have hc0 : ¬ ((M 18 e &&& (M 35 (8 * e + i) ^^^ (-1))) &&& ((1 : Int32) <<< (nI l &&& 31))) = 0 := fun z => by
          have := (bi_c _ (by omega)).mp z
          rw [b_not _ _ (by omega), hb, hb3] at this
          cases this
        have hd0 : ((M 35 (8 * e + i) >>> (nI l &&& 31)) &&& (1 : Int32)) = 0 := (bi_0 _ (by omega)).mpr hb3
        obtain ⟨b, m', K1, M1, c', s1, s2, mlt, kb, hsf, hM1, hAp⟩ := sd_both h 6 (nI l) (nI e) (M 31 (8 * e + i)) 0
        have S := hsf (fun _ => 0) (fun _ => none) (fun _ => 0) (fun _ => 0)
        have kY : xk_kd K1 y = 7 + 1 := (congrFun S.1 _).trans r2
        have kE : xk_kd K1 a = 3 + 1 := (congrFun S.1 _).trans a1
        have r70 : xk_rv K1 7 0 y = some a := (S.2.2.2.1 7 0 _ (by decide)).trans r8
        have i30 : xk_iv K1 3 0 a = M 31 (8 * e + i) := (S.2.2.1 3 0 _ (by decide) (by decide)).trans a2
        rw [if_neg hc0, if_pos hd0, xI_at k1 k2, xb_some, xO_ok s0.1, xb_some, s1, xp_some, xR_at (by exact kY) (by exact r70), xb_some, xb_some, xI_at (by exact kE) (by exact i30), xb_some, xb_some, xIs_ok (by exact kb), xb_some, mg_sI, m31, xb_some, s2, xp_some]
        unfold kf_Master_pushToOthers_56 kf_EM_pushOut_58
        have t32 : ∀ h' ct, xMi (mm M1 m' h' ct) 32 (nI (8 * e + i)) = some (M 32 (8 * e + i)) := fun h' ct => xMi_at b80 (by decide) (congrFun (hM1 32 (by decide)) _)
        have t33 : ∀ h' ct, xMi (mm M1 m' h' ct) 33 (nI (8 * e + i)) = some (M 33 (8 * e + i)) := fun h' ct => xMi_at b80 (by decide) (congrFun (hM1 33 (by decide)) _)
        rw [xR_at (by exact kY) (by exact r70), xb_some, xRs_ok (by exact kb), xb_some, mg_sR, t32, xb_some, xMt_ok mlt (by decide), xb_some, mm_s _ _ _ _ (by omega), t33, xb_some, xMt_ok mlt (by decide), xb_some, mm_s _ _ _ _ (by omega)]
        generalize hf : (fun j => if j = 3 then M 31 (8 * e + i) else rs_f 6 (nI l) (nI e) (fun j => xk_iv K1 4 j b) j) = f
        generalize hg : (fun j => if j = 9 then some a else rs_g (fun j => xk_rv K1 4 j b) j) = g
        generalize hh : (fun j => if j = 54 then M 33 (8 * e + i) else if j = 53 then M 32 (8 * e + i) else sd_h 6 (nI l) (nI e) (M 31 (8 * e + i)) 0 (fun c => M1 c m') j) = hh'
        have hl := po_loop (N := mm M1 m' hh' (fun x => M1 55 (8 * m' + x))) (p := 8 * e + i) (q := m') (rec5 := kf_EM_pushOut_5 m) (x1 := nI e) (x3 := s) (x4 := nI l) b80 mlt 8 0 1000 (by omega) (by omega)
        rw [cb_0, mm_cb _ _ _ _ (by omega), nI_1] at hl
        have hl' : kf_EM_pushOut_87 (kf_EM_pushOut_5 m) 1000 (mm M1 m' hh' (fun x => M1 55 (8 * m' + x))) (nI e) (nI (8 * e + i)) s (nI l) (nI m') 0 = kf_EM_pushOut_5 m (mm M1 m' hh' fun x => M1 34 (8 * (8 * e + i) + x)) (nI e) (nI (8 * e + i)) (s + 1) (nI (l + 1)) := hl
        rw [hl']
        have hB := hAp f g hh' (fun x => M1 34 (8 * (8 * e + i) + x)) n (by
          rw [← hf, ← hg, ← hh, hM1 34 (by decide)]
          exact ⟨rfl, rfl, rfl, rfl, ⟨l, by omega, rfl⟩, ⟨e, e1, e9, rfl⟩, Or.inr (Or.inr (Or.inr (Or.inr (Or.inr (Or.inl ⟨rfl, a, rfl, r9⟩)))))⟩) (by rw [← hh]; exact Nat.le_refl _)
        have S2 := hsf f g hh' (fun x => M1 34 (8 * (8 * e + i) + x))
        obtain ⟨K', M', c2, s', q1, q2, q3, q4⟩ := ih (l + 1) m (by omega) (by omega) _ _ _ (s + 1) hB (by rw [S2.2.2.2.2.2.1]; exact he) ((congrFun (S2.2.2.2.2.2.2.2.1 30 (by decide)) e).trans hw) (by rw [S2.2.2.2.2.2.1]; exact hy)
        exact ⟨K', M', c2, s', by rw [nI_1]; exact q1, q2, q3, sf_tr S2 q4⟩
    · have hc0 : ((M 18 e &&& (M 35 (8 * e + i) ^^^ (-1))) &&& ((1 : Int32) <<< (nI l &&& 31))) = 0 := (bi_c _ (by omega)).mpr (by rw [b_not _ _ (by omega), bt_tf hb]; rfl)
      rw [if_pos hc0, if_neg (fun z => hb ((bi_m _ (by omega)).mp z))]
      exact ih (l + 1) m (by omega) (by omega) K M c s h he hw hy
theorem lp_pushes {e ma nw : Nat} (e1 : 1 ≤ e) (e9 : e ≤ 9) (hw8 : nw ≤ 8) : ∀ (d i m : Nat), i + d = nw → d < m → ∀ (K : xk) (M : xm) (c : Nat) (s : Int32), iA B fz V E P (fun _ => 0) c R n K M → xk_ar K (5 + B) e = some ma → M 30 e = nI nw →
    ∃ K' M' c' s', kf_Master_pushAgain_4 m K ma (6 + B) s (nI i) = some (s', K') ∧ kf_EM_push_17 m M (nI e) s (nI (8 * e + i)) = some (s', M') ∧ iA B fz V E P (fun _ => 0) c' R n K' M' := by
  intro d
  induction d with
  | zero =>
    intro i m hi hm K M c s h he hw
    obtain ⟨m, rfl⟩ : ∃ m', m = m' + 1 := ⟨m - 1, by omega⟩
    have : i = nw := by omega
    subst this
    obtain ⟨x0, o0, c0, l0, t0, u0, b0, L0, T0, U0, m0, q0, y0, dq, dy, s0, g0, e0, n0⟩ := id h
    have k1 := (jM_at m0 e1 e9 he).2.1
    obtain ⟨n1, z1, z2, z3, z4⟩ := y0 e ma e1 e9 he
    have : n1 = i := (nI_eq (by omega) (by omega)).mp (z2.symm.trans hw)
    subst this
    have z3' : xk_iv K 8 11 ma = nI n1 := z3
    refine ⟨K, M, c, s, ?_, ?_, h⟩
    · show kb_Master_pushAgain_4 (kf_Master_pushAgain_4 m) K ma (6 + B) s (nI n1) = _
      unfold kb_Master_pushAgain_4
      rw [xI_at k1 z3', xb_some, if_pos (nI_le (Nat.le_refl _) (by omega))]
    · show kb_EM_push_17 (kf_EM_push_17 m) M (nI e) s (nI (8 * e + n1)) = _
      unfold kb_EM_push_17
      rw [xMi_at (by show e < 10; omega) (by decide) hw, xb_some, ix_8, if_pos (nI_le (Nat.le_refl _) (by omega))]
  | succ d ih =>
    intro i m hi hm K M c s h he hw
    obtain ⟨m, rfl⟩ : ∃ m', m = m' + 1 := ⟨m - 1, by omega⟩
    obtain ⟨x0, o0, c0, l0, t0, u0, b0, L0, T0, U0, m0, q0, y0, dq, dy, s0, g0, e0, n0⟩ := id h
    obtain ⟨k1, k2, k3, k4, k5, k6, k7, k8, k9, k10, k11, k12, k13, k14, k15, k16, k17, k18⟩ := (jM_at m0 e1 e9 he).2
    obtain ⟨n1, z1, z2, z3, z4⟩ := y0 e ma e1 e9 he
    have : n1 = nw := (nI_eq (by omega) (by omega)).mp (z2.symm.trans hw)
    subst this
    have z3' : xk_iv K 8 11 ma = nI n1 := z3
    obtain ⟨y, r1, r2, -⟩ := z4 i (by omega)
    obtain ⟨K', M', c', s', p1, p2, p3, p4⟩ := lp_push (i := i) e1 e9 hw8 (by omega) 3 0 1000 (by omega) (by omega) K M c 0 h he hw r1
    obtain ⟨K2, M2, c2, s2, w1, w2, w3⟩ := ih (i + 1) m (by omega) (by omega) K' M' c' (s + s') p3 (by rw [p4.2.2.2.2.2.1]; exact he) ((congrFun (p4.2.2.2.2.2.2.2.1 30 (by decide)) e).trans hw)
    refine ⟨K2, M2, c2, s2, ?_, ?_, w3⟩
    · show kb_Master_pushAgain_4 (kf_Master_pushAgain_4 m) K ma (6 + B) s (nI i) = _
      unfold kb_Master_pushAgain_4 kf_Master_pushToOthers_0
      have p1' : kf_Master_pushToOthers_5 1000 K ma y (6 + B) 0 0 = some (s', K') := p1
      rw [xI_at k1 z3', xb_some, if_neg (nI_ge (by omega) (by omega)), xR_at k1 k16, xb_some, xb_some, xRa_ok k17 k18 (by omega) (by decide), show xk_ar K (ma + 3) i = some y from r1, xb_some, xb_some, xO_ok k1, xb_some, p1', xp_some, nI_1]
      exact w1
    · show kb_EM_push_17 (kf_EM_push_17 m) M (nI e) s (nI (8 * e + i)) = _
      unfold kb_EM_push_17 kf_EM_pushOut_0
      have p2' : kf_EM_pushOut_5 1000 M (nI e) (nI (8 * e + i)) 0 0 = some (s', M') := p2
      rw [xMi_at (by show e < 10; omega) (by decide) hw, xb_some, ix_8, if_neg (nI_ge (by omega) (by omega)), p2', xp_some, nI_1]
      exact w2
theorem kp_push (B : Nat) : lo_s15 (iV B) B := fun n K M a _ h => by
  obtain ⟨fz, V, E, P, c, R, hA⟩ := id h
  obtain ⟨x0, o0, c0, l0, t0, u0, b0, L0, T0, U0, m0, q0, y0, dq, dy, s0, g0, e0, n0⟩ := id hA
  unfold kf_ES_push_0 kf_EM_push_0
  rw [xO_ok o0.1, xb_some]
  rcases is_master o0 (iN_of hA) a with ⟨h1, h2⟩ | ⟨e, ma, he1, he9, rfl, h1, h2, hx, hn, hk, hz⟩
  · rw [h1, h2, xp_some, xp_some, if_pos rfl, if_pos rfl]
    exact ⟨-1, K, M, rfl, rfl, iV_next h⟩
  · obtain ⟨nw, z1, z2, -⟩ := y0 e ma he1 he9 hn
    obtain ⟨K', M', c', s', p1, p2, p3⟩ := lp_pushes he1 he9 (nw := nw) z1 nw 0 1000 (by omega) (by omega) K M c 0 hA hn z2
    have p1' : kf_Master_pushAgain_4 1000 K ma (6 + B) 0 0 = some (s', K') := p1
    have i8 : (8 : Int32) * nI e = nI (8 * e + 0) := pk_mul 8 e
    unfold kf_Master_pushAgain_0
    rw [h1, h2, xp_some, xp_some, if_neg (by decide), if_neg (by decide), xR_ok o0.1, o0.2.2.2.2.2.1, xb_some, xb_some, hx, xb_some, xR_ok o0.1, o0.2.2.2.2.2.2, xb_some, xb_some, xb_some, xO_ok hk, xb_some, p1', xp_some, i8, p2]
    exact ⟨s', K', M', rfl, rfl, fz, V, E, P, c', R, iA_mono p3 (by omega)⟩
end
section
variable {B : Nat} {fz : Nat → Prop} {V : List Int32} {E P : Nat} {D : Nat → Nat} {c : Nat} {R : Nat → Nat} {n : Nat} {K : xk} {M : xm}
/-- a record on its way is acknowledged by one more log -/
theorem st_ws {e ma p y nw : Nat} {v : Int32} (h : iA B fz V E P D c R n K M) (e1 : 1 ≤ e) (e9 : e ≤ 9) (he : xk_ar K (5 + B) e = some ma) (hn : M 30 e = nI nw) (hn8 : nw ≤ 8) (hp : p < nw) (hy : xk_ar K (ma + 3) (p + D e) = some y) (hv : ∀ b, b < 32 → bt v b = true → bt (M 18 e) b = true) :
    iA B fz V E P D c R n (xk_sI K 7 3 y v) (xm_s M 35 (8 * e + p) v) := by
  obtain ⟨x0, o0, c0, l0, t0, u0, b0, L0, T0, U0, m0, q0, y0, dq, dy, s0, g0, e0, n0⟩ := id h
  refine ⟨x0, o0, c0, l0, t0, u0, b0, L0, T0, U0, m0, q0, fun d md d1 d9 hd => ?_, dq, dy, s0, g0, e0, n0⟩
  obtain ⟨n1, z1, z2, z3, z4⟩ := y0 d md d1 d9 hd
  refine ⟨n1, z1, z2, z3, fun i hi => ?_⟩
  obtain ⟨y', y1, y2, y3, y4, y5, y6, y7, y8⟩ := z4 i hi
  have hiff : y' = y ↔ 8 * d + i = 8 * e + p := by
    refine ⟨fun z => ?_, fun z => ?_⟩
    · obtain ⟨w1, w2⟩ := dy d e md ma n1 nw i p y d1 d9 e1 e9 hd he z2 (by omega) hn hn8 hi hp (z ▸ y1) hy
      omega
    · have a1 : d = e := by omega
      have a2 : i = p := by omega
      subst a1
      subst a2
      have hd' : xk_ar K (5 + B) d = some md := hd
      rw [he] at hd'
      cases hd'
      rw [hy] at y1
      cases y1
      rfl
  refine ⟨y', y1, y2, y3, y4, up_eq hiff y5, y6, ?_, y8⟩
  rw [ms_get]
  by_cases z : 8 * d + i = 8 * e + p
  · rw [if_pos ⟨rfl, z⟩]
    have : d = e := by omega
    rw [this]
    exact hv
  · rw [if_neg (fun z' => z z'.2)]
    exact y7
theorem lp_ack {e ma nw l : Nat} {v : Int32} (e1 : 1 ≤ e) (e9 : e ≤ 9) (hw8 : nw ≤ 8) (hl : l < 3) : ∀ (d i m : Nat), i + d = nw → d < m → ∀ (K : xk) (M : xm), iA B fz V E P (fun _ => 0) c R n K M → xk_ar K (5 + B) e = some ma → M 30 e = nI nw → bt (M 18 e) l = true → xk_iv K 4 0 (R 24) = 7 → xk_iv K 4 1 (R 24) = nI l → xk_iv K 4 3 (R 24) = v →
    ∃ K' M', kf_Master_takeAcknowledgement_2 m K ma (R 24) (nI i) = some K' ∧ kf_EM_acknowledged_6 m M (nI l) (nI e) v (nI (8 * e + i)) = kf_EM_acknowledged_67 1000 M' (nI e) ∧ iA B fz V E P (fun _ => 0) c R n K' M' ∧ xk_ar K' (5 + B) e = some ma ∧ xk_iv K' 4 0 (R 24) = 7 ∧ M' 30 e = nI nw := by
  intro d
  induction d with
  | zero =>
    intro i m hi hm K M h he hw hb v0 v1 v3
    obtain ⟨m, rfl⟩ : ∃ m', m = m' + 1 := ⟨m - 1, by omega⟩
    have : i = nw := by omega
    subst this
    obtain ⟨x0, o0, c0, l0, t0, u0, b0, L0, T0, U0, m0, q0, y0, dq, dy, s0, g0, e0, n0⟩ := id h
    have k1 := (jM_at m0 e1 e9 he).2.1
    obtain ⟨n1, z1, z2, z3, z4⟩ := y0 e ma e1 e9 he
    have : n1 = i := (nI_eq (by omega) (by omega)).mp (z2.symm.trans hw)
    subst this
    have z3' : xk_iv K 8 11 ma = nI n1 := z3
    refine ⟨K, M, ?_, ?_, h, he, v0, hw⟩
    · show kb_Master_takeAcknowledgement_2 (kf_Master_takeAcknowledgement_2 m) K ma (R 24) (nI n1) = _
      unfold kb_Master_takeAcknowledgement_2
      rw [xI_at k1 z3', xb_some, if_pos (nI_le (Nat.le_refl _) (by omega))]
    · show kb_EM_acknowledged_6 (kf_EM_acknowledged_6 m) M (nI l) (nI e) v (nI (8 * e + n1)) = _
      unfold kb_EM_acknowledged_6
      rw [xMi_at (by show e < 10; omega) (by decide) hw, xb_some, ix_8, if_pos (nI_le (Nat.le_refl _) (by omega))]
  | succ d ih =>
    intro i m hi hm K M h he hw hb v0 v1 v3
    obtain ⟨m, rfl⟩ : ∃ m', m = m' + 1 := ⟨m - 1, by omega⟩
    have kr := r24 h
    obtain ⟨x0, o0, c0, l0, t0, u0, b0, L0, T0, U0, m0, q0, y0, dq, dy, s0, g0, e0, n0⟩ := id h
    obtain ⟨k1, k2, k3, k4, k5, k6, k7, k8, k9, k10, k11, k12, k13, k14, k15, k16, k17, k18⟩ := (jM_at m0 e1 e9 he).2
    obtain ⟨n1, z1, z2, z3, z4⟩ := y0 e ma e1 e9 he
    have : n1 = nw := (nI_eq (by omega) (by omega)).mp (z2.symm.trans hw)
    subst this
    have z3' : xk_iv K 8 11 ma = nI n1 := z3
    obtain ⟨y, r1, r2, r3, r4, r5, r6, r7, a, r8, r9⟩ := z4 i (by omega)
    have r1' : xk_ar K (ma + 3) i = some y := r1
    have b80 : 8 * e + i < 80 := by omega
    show ∃ K' M', kb_Master_takeAcknowledgement_2 (kf_Master_takeAcknowledgement_2 m) K ma (R 24) (nI i) = some K' ∧ kb_EM_acknowledged_6 (kf_EM_acknowledged_6 m) M (nI l) (nI e) v (nI (8 * e + i)) = _ ∧ _
    unfold kb_Master_takeAcknowledgement_2 kb_EM_acknowledged_6 kf_Master_takeAcknowledgement_49 kf_EM_acknowledged_61
    have m31 : xMi M 31 (nI (8 * e + i)) = some (M 31 (8 * e + i)) := xMi_ok b80 (by decide)
    have m35 : xMi M 35 (nI (8 * e + i)) = some (M 35 (8 * e + i)) := xMi_ok b80 (by decide)
    have ra : xRa K 10 (ma + 3) (nI i) = some (some y) := by rw [xRa_ok k17 k18 (by omega) (by decide), r1']
    rw [xI_at k1 z3', xb_some, if_neg (nI_ge (by omega) (by omega)), xR_at k1 k16, xb_some, xb_some, ra, xb_some, xb_some, xR_at r2 r8, xb_some, xb_some, xI_at r9.1 r9.2.1, xb_some, xI_at kr v3, xb_some, xMi_at (by show e < 10; omega) (by decide) hw]
    simp only [xb_some]
    rw [ix_8, if_neg (nI_ge (by omega) (by omega)), m31]
    simp only [xb_some]
    by_cases hv : M 31 (8 * e + i) = v
    · have hv' : ∀ b, b < 32 → bt (M 35 (8 * e + i) ||| ((1 : Int32) <<< (nI l &&& 31))) b = true → bt (M 18 e) b = true := fun b hb' hz => by
        rw [bi_or _ (by omega) hb'] at hz
        rcases Bool.or_eq_true_iff.mp hz with w | w
        · exact r7 b hb' w
        · rw [of_decide_eq_true w]; exact hb
      have hB := st_ws (v := M 35 (8 * e + i) ||| ((1 : Int32) <<< (nI l &&& 31))) h e1 e9 he hw hw8 (p := i) (by omega) r1 hv'
      rw [if_pos hv, if_pos hv, ra]
      simp only [xb_some]
      rw [xI_at r2 r5, xb_some, xI_at kr v1, xb_some, xIs_ok r2, xb_some, m35, xb_some, xMt_ok b80 (by decide), xb_some, nI_1, nI_1]
      exact ih (i + 1) m (by omega) (by omega) _ _ hB he hw hb v0 v1 v3
    · rw [if_neg hv, if_neg hv, m35, xb_some, xMt_ok b80 (by decide), xb_some, xm_same rfl, nI_1, nI_1]
      exact ih (i + 1) m (by omega) (by omega) _ _ h he hw hb v0 v1 v3
-- the reference's oldest record on the way is taken out
def cw_L (N : xm) (r i : Nat) : xm := fun c j => if c = 34 ∧ 8 * r ≤ j ∧ j < 8 * r + i then N 34 (j + 8) else N c j
theorem cw_get (N : xm) (r i c j : Nat) : cw_L N r i c j = if c = 34 ∧ 8 * r ≤ j ∧ j < 8 * r + i then N 34 (j + 8) else N c j := rfl
theorem cw_0 (N : xm) (r : Nat) : cw_L N r 0 = N := by
  funext c j
  exact if_neg (fun h => by omega)
theorem cw_step {N : xm} {r i : Nat} (hi : i < 8) : xm_s (cw_L N r i) 34 (8 * r + i) (N 34 (8 * r + i + 8)) = cw_L N r (i + 1) := by
  funext c j
  rw [ms_get, cw_get, cw_get]
  by_cases h1 : c = 34
  · subst h1
    by_cases h2 : j = 8 * r + i
    · subst h2
      rw [if_pos ⟨rfl, rfl⟩, if_pos ⟨rfl, by omega, by omega⟩]
    · rw [if_neg (fun h => h2 h.2)]
      by_cases h3 : 8 * r ≤ j ∧ j < 8 * r + i
      · rw [if_pos ⟨rfl, h3⟩, if_pos ⟨rfl, h3.1, by omega⟩]
      · rw [if_neg (fun h => h3 h.2), if_neg (fun h => h3 ⟨h.2.1, by omega⟩)]
  · rw [if_neg (fun h => h1 h.1), if_neg (fun h => h1 h.1), if_neg (fun h => h1 h.1)]
theorem cw_loop {N : xm} {r : Nat} (hr : r + 1 < 80) : ∀ (d i m : Nat), i + d = 8 → d < m → kf_EM_copyWay_86 m (cw_L N r i) (nI r) (nI i) = some (cw_L N r 8) := by
  intro d
  induction d with
  | zero =>
    intro i m hi hm
    obtain ⟨m, rfl⟩ : ∃ m', m = m' + 1 := ⟨m - 1, by omega⟩
    have i8 : i = 8 := by omega
    subst i8
    show kb_EM_copyWay_86 (kf_EM_copyWay_86 m) _ _ (nI 8) = _
    unfold kb_EM_copyWay_86
    rw [if_pos (show (8 : Int32) ≤ nI 8 from nI_le (a := 8) (b := 8) (Nat.le_refl _) (by decide))]
  | succ d ih =>
    intro i m hi hm
    obtain ⟨m, rfl⟩ : ∃ m', m = m' + 1 := ⟨m - 1, by omega⟩
    show kb_EM_copyWay_86 (kf_EM_copyWay_86 m) _ _ (nI i) = _
    unfold kb_EM_copyWay_86
    have e1 : (8 : Int32) * nI r + 8 + nI i = nI (8 * r + i + 8) := by
      show nI 8 * nI r + nI 8 + nI i = _
      rw [pk_mul, nI_add, nI_add]
      congr 1
      omega
    have g : cw_L N r i 34 (8 * r + i + 8) = N 34 (8 * r + i + 8) := if_neg (fun z => by omega)
    rw [if_neg (show ¬ (8 : Int32) ≤ nI i from nI_ge (a := i) (b := 8) (by omega) (by decide)), e1, xMi_at (by show 8 * r + i + 8 < 640; omega) (by decide) g, xb_some, ix_8, xMt_ok (by show 8 * r + i < 640; omega) (by decide), xb_some, nI_1, cw_step (by omega)]
    exact ih (i + 1) m (by omega) (by omega)
def cw_H (M : xm) (r : Nat) : xm := xm_s (xm_s (xm_s (xm_s (xm_s (xm_s M 31 r (M 31 (r + 1))) 32 r (M 32 (r + 1))) 33 r (M 33 (r + 1))) 35 r (M 35 (r + 1))) 36 r (M 36 (r + 1))) 37 r (M 37 (r + 1))
theorem cw_all {r : Nat} (hr : r + 1 < 80) : kf_EM_copyWay_0 M (nI r) = some (cw_L (cw_H M r) r 8) := by
  unfold kf_EM_copyWay_0 kf_EM_copyWay_42 kf_EM_copyWay_84
  have hr0 : r < 80 := by omega
  rw [nI_1, xMi_ok hr (by decide), xb_some, xMt_ok hr0 (by decide), xb_some, xMi_at (v := M 32 (r + 1)) hr (by decide) (by exact rfl), xb_some, xMt_ok hr0 (by decide), xb_some, xMi_at (v := M 33 (r + 1)) hr (by decide) (by exact rfl), xb_some, xMt_ok hr0 (by decide), xb_some, xMi_at (v := M 35 (r + 1)) hr (by decide) (by exact rfl), xb_some, xMt_ok hr0 (by decide), xb_some, xMi_at (v := M 36 (r + 1)) hr (by decide) (by exact rfl), xb_some, xMt_ok hr0 (by decide), xb_some, xMi_at (v := M 37 (r + 1)) hr (by decide) (by exact rfl), xb_some, xMt_ok hr0 (by decide), xb_some]
  have h := cw_loop (N := cw_H M r) hr 8 0 1000 (by omega) (by omega)
  rw [cw_0] at h
  exact h
def sw_M (M : xm) (a i : Nat) : xm := fun f j => if (31 ≤ f ∧ f ≤ 37 ∧ f ≠ 34) ∧ a ≤ j ∧ j < i then M f (j + 1) else if f = 34 ∧ 8 * a ≤ j ∧ j < 8 * i then M 34 (j + 8) else M f j
theorem sw_get (M : xm) (a i f j : Nat) : sw_M M a i f j = if (31 ≤ f ∧ f ≤ 37 ∧ f ≠ 34) ∧ a ≤ j ∧ j < i then M f (j + 1) else if f = 34 ∧ 8 * a ≤ j ∧ j < 8 * i then M 34 (j + 8) else M f j := rfl
theorem sw_0 (M : xm) (a : Nat) : sw_M M a a = M := by
  funext f j
  rw [sw_get, if_neg (fun h => by omega), if_neg (fun h => by omega)]
theorem cwH_get (M : xm) (r f j : Nat) : cw_H M r f j = if (31 ≤ f ∧ f ≤ 37 ∧ f ≠ 34) ∧ j = r then M f (r + 1) else M f j := by
  unfold cw_H
  rw [ms_get, ms_get, ms_get, ms_get, ms_get, ms_get]
  by_cases z : j = r
  · subst z
    by_cases f1 : f = 31
    · subst f1; rw [if_neg (by omega), if_neg (by omega), if_neg (by omega), if_neg (by omega), if_neg (by omega), if_pos ⟨rfl, rfl⟩, if_pos (by omega)]
    · by_cases f2 : f = 32
      · subst f2; rw [if_neg (by omega), if_neg (by omega), if_neg (by omega), if_neg (by omega), if_pos ⟨rfl, rfl⟩, if_pos (by omega)]
      · by_cases f3 : f = 33
        · subst f3; rw [if_neg (by omega), if_neg (by omega), if_neg (by omega), if_pos ⟨rfl, rfl⟩, if_pos (by omega)]
        · by_cases f5 : f = 35
          · subst f5; rw [if_neg (by omega), if_neg (by omega), if_pos ⟨rfl, rfl⟩, if_pos (by omega)]
          · by_cases f6 : f = 36
            · subst f6; rw [if_neg (by omega), if_pos ⟨rfl, rfl⟩, if_pos (by omega)]
            · by_cases f7 : f = 37
              · subst f7; rw [if_pos ⟨rfl, rfl⟩, if_pos (by omega)]
              · rw [if_neg (by omega), if_neg (by omega), if_neg (by omega), if_neg (by omega), if_neg (by omega), if_neg (by omega), if_neg (by omega)]
  · rw [if_neg (by omega), if_neg (by omega), if_neg (by omega), if_neg (by omega), if_neg (by omega), if_neg (by omega), if_neg (by omega)]
theorem sw_step (M : xm) {a i : Nat} (h : a ≤ i) : cw_L (cw_H (sw_M M a i) i) i 8 = sw_M M a (i + 1) := by
  funext f j
  rw [cw_get]
  by_cases f4 : f = 34
  · subst f4
    by_cases z : 8 * i ≤ j ∧ j < 8 * i + 8
    · rw [if_pos ⟨rfl, z⟩, cwH_get, if_neg (by omega), sw_get, if_neg (by omega), if_neg (by omega), sw_get, if_neg (by omega), if_pos (by omega)]
    · rw [if_neg (fun y => z y.2), cwH_get, if_neg (by omega), sw_get, if_neg (by omega), sw_get, if_neg (show ¬ ((31 ≤ 34 ∧ 34 ≤ 37 ∧ 34 ≠ 34) ∧ a ≤ j ∧ j < i + 1) by omega)]
      by_cases z2 : 8 * a ≤ j ∧ j < 8 * i
      · rw [if_pos ⟨rfl, z2⟩, if_pos (by omega)]
      · rw [if_neg (fun y => z2 y.2), if_neg (by omega)]
  · rw [if_neg (fun y => f4 y.1), cwH_get]
    by_cases z : (31 ≤ f ∧ f ≤ 37 ∧ f ≠ 34) ∧ j = i
    · rw [if_pos z, sw_get, if_neg (by omega), if_neg (by omega), sw_get, if_pos (by omega), z.2]
    · rw [if_neg z, sw_get, sw_get]
      by_cases z2 : (31 ≤ f ∧ f ≤ 37 ∧ f ≠ 34) ∧ a ≤ j ∧ j < i
      · rw [if_pos z2, if_pos (by omega)]
      · rw [if_neg z2, if_neg (by omega), if_neg (by omega), if_neg (by omega)]
theorem sw_loop {e k : Nat} {rec67 : xm → Int32 → Option xm} {x4 x5 : Int32} (e9 : e ≤ 9) (hk : k < 8) (z2 : M 30 e = nI k) : ∀ (d i m : Nat), i + d = k → d < m →
    kf_EM_acknowledged_154 rec67 m (sw_M M (8 * e) (8 * e + i)) (nI e) x4 x5 (nI (8 * e + i)) = (kf_EM_result_0 (sw_M M (8 * e) (8 * e + k)) x4 (nI e) (M 22 e) x5 4).bind fun M3 => rec67 M3 (nI e) := by
  have m30 : ∀ i, xMi (sw_M M (8 * e) (8 * e + i)) 30 (nI e) = some (nI k) := fun i => xMi_at (by show e < 10; omega) (by decide) (((if_neg (fun h => by omega)).trans (if_neg (fun h => by omega))).trans z2)
  have m22 : ∀ i, xMi (sw_M M (8 * e) (8 * e + i)) 22 (nI e) = some (M 22 e) := fun i => xMi_at (by show e < 10; omega) (by decide) ((if_neg (fun h => by omega)).trans (if_neg (fun h => by omega)))
  intro d
  induction d with
  | zero =>
    intro i m hi hm
    obtain ⟨m, rfl⟩ : ∃ m', m = m' + 1 := ⟨m - 1, by omega⟩
    have : i = k := by omega
    subst this
    show kb_EM_acknowledged_154 rec67 (kf_EM_acknowledged_154 rec67 m) _ (nI e) x4 x5 (nI (8 * e + i)) = _
    unfold kb_EM_acknowledged_154 kf_EM_acknowledged_198
    rw [m30, xb_some, ix_8, if_pos (nI_le (Nat.le_refl _) (by omega)), m22, xb_some]
  | succ d ih =>
    intro i m hi hm
    obtain ⟨m, rfl⟩ : ∃ m', m = m' + 1 := ⟨m - 1, by omega⟩
    show kb_EM_acknowledged_154 rec67 (kf_EM_acknowledged_154 rec67 m) _ (nI e) x4 x5 (nI (8 * e + i)) = _
    unfold kb_EM_acknowledged_154
    rw [m30, xb_some, ix_8, if_neg (nI_ge (by omega) (by omega)), cw_all (by omega), xb_some, sw_step M (by omega), nI_1]
    exact ih (i + 1) m (by omega) (by omega)
end
section
variable {B : Nat} {fz : Nat → Prop} {V : List Int32} {E P : Nat} {D : Nat → Nat} {c : Nat} {R : Nat → Nat} {n : Nat} {K : xk} {M : xm}
theorem st_pop {e ma k : Nat} (h : iA B fz V E P D c R n K M) (e1 : 1 ≤ e) (e9 : e ≤ 9) (he : xk_ar K (5 + B) e = some ma) (hn : M 30 e = nI (k + 1)) (hk : k < 8) :
    iA B fz V E P (fun d => if d = e then D e + 1 else D d) c R n K (sw_M (xm_s M 30 e (nI k)) (8 * e) (8 * e + k)) := by
  have hE := le_E h e1 e9 he
  obtain ⟨x0, o0, c0, l0, t0, u0, b0, L0, T0, U0, m0, q0, y0, dq, dy, s0, g0, ⟨p1, p2, p3, p4, p5, p6⟩, n0⟩ := id h
  have g3 : ∀ d, sw_M (xm_s M 30 e (nI k)) (8 * e) (8 * e + k) 30 d = if d = e then nI k else M 30 d := fun d => by
    rw [sw_get, if_neg (fun z => by omega), if_neg (fun z => by omega), ms_get]
    by_cases z : d = e
    · rw [if_pos ⟨rfl, z⟩, if_pos z]
    · rw [if_neg (fun y => z y.2), if_neg z]
  have gf : ∀ f x, (31 ≤ f ∧ f ≤ 37 ∧ f ≠ 34) → sw_M (xm_s M 30 e (nI k)) (8 * e) (8 * e + k) f x = if 8 * e ≤ x ∧ x < 8 * e + k then M f (x + 1) else M f x := fun f x hf => by
    rw [sw_get]
    by_cases z : 8 * e ≤ x ∧ x < 8 * e + k
    · rw [if_pos ⟨hf, z⟩, if_pos z, ms_get, if_neg (fun y => by omega)]
    · rw [if_neg (fun y => z y.2), if_neg (fun y => by omega), if_neg z, ms_get, if_neg (fun y => by omega)]
  have g4 : ∀ x, sw_M (xm_s M 30 e (nI k)) (8 * e) (8 * e + k) 34 x = if 8 * (8 * e) ≤ x ∧ x < 8 * (8 * e + k) then M 34 (x + 8) else M 34 x := fun x => by
    rw [sw_get, if_neg (fun y => by omega)]
    by_cases z : 8 * (8 * e) ≤ x ∧ x < 8 * (8 * e + k)
    · rw [if_pos ⟨rfl, z⟩, if_pos z]; rfl
    · rw [if_neg (fun y => z y.2), if_neg z]; rfl
  refine ⟨x0, o0, c0, l0, t0, u0, b0, L0, T0, U0, m0, q0, fun d md d1 d9 hd => ?_, dq, ?_, s0, g0, ⟨p1, p2, p3, p4, fun d d1 d9 => ?_, p6⟩, n0⟩
  · obtain ⟨n1, z1, z2, z3, z4⟩ := y0 d md d1 d9 hd
    by_cases z : d = e
    · subst z
      have : n1 = k + 1 := (nI_eq (by omega) (by omega)).mp (z2.symm.trans hn)
      subst this
      simp only [if_true]
      refine ⟨k, by omega, by rw [g3, if_pos rfl], z3.trans (congrArg nI (by omega)), fun i hi => ?_⟩
      obtain ⟨y, y1, y2, y3, y4, y5, y6, y7, a, y8, y9⟩ := z4 (i + 1) (by omega)
      rw [gf 36 _ (by omega), gf 37 _ (by omega), gf 35 _ (by omega), gf 31 _ (by omega), gf 32 _ (by omega), gf 33 _ (by omega), if_pos (by omega), if_pos (by omega), if_pos (by omega), if_pos (by omega), if_pos (by omega), if_pos (by omega)]
      refine ⟨y, ?_, y2, y3, y4, y5, y6, y7, a, y8, en_cg y9 (fun x hx => ?_)⟩
      · rw [show i + (D d + 1) = i + 1 + D d by omega]; exact y1
      · rw [g4, if_pos (by omega)]
        congr 1
        omega
    · simp only [if_neg z]
      refine ⟨n1, z1, by rw [g3, if_neg z]; exact z2, z3, fun i hi => ?_⟩
      obtain ⟨y, y1, y2, y3, y4, y5, y6, y7, a, y8, y9⟩ := z4 i hi
      rw [gf 36 _ (by omega), gf 37 _ (by omega), gf 35 _ (by omega), gf 31 _ (by omega), gf 32 _ (by omega), gf 33 _ (by omega), if_neg (by omega), if_neg (by omega), if_neg (by omega), if_neg (by omega), if_neg (by omega), if_neg (by omega)]
      refine ⟨y, y1, y2, y3, y4, y5, y6, y7, a, y8, en_cg y9 (fun x hx => ?_)⟩
      rw [g4, if_neg (by omega)]
  · intro d1 d2 md me n1 n2 i j a x1 x2 x3 x4 x5 x6 x7 x8 x9 x10 x11 x12 x13 x14
    rw [g3] at x7 x9
    have look : ∀ {d md' k' x : Nat}, 1 ≤ d → d ≤ 9 → (if d = e then nI k else M 30 d) = nI k' → k' ≤ 8 → x < k' → xk_ar K (md' + 3) (x + if d = e then D e + 1 else D d) = some a → ∃ k2 x', M 30 d = nI k2 ∧ k2 ≤ 8 ∧ x' < k2 ∧ xk_ar K (md' + 3) (x' + D d) = some a ∧ x' = (if d = e then x + 1 else x) := fun {d md' k' x} d1 d9 hk' hk8 hx ha => by
      by_cases z : d = e
      · rw [if_pos z] at hk' ha
        have ek : k' = k := (nI_eq (by omega) (by omega)).mp hk'.symm
        refine ⟨k + 1, x + 1, by rw [z]; exact hn, by omega, by omega, ?_, by rw [if_pos z]⟩
        rw [z, show x + 1 + D e = x + (D e + 1) by omega]
        exact ha
      · rw [if_neg z] at hk' ha
        exact ⟨k', x, hk', hk8, hx, ha, by rw [if_neg z]⟩
    obtain ⟨ka, xa, a1, a2, a3, a4, a5⟩ := look x1 x2 x7 x8 x11 x13
    obtain ⟨kb, xb', b1, b2, b3, b4, b5⟩ := look x3 x4 x9 x10 x12 x14
    obtain ⟨r1, r2⟩ := dy d1 d2 md me ka kb xa xb' a x1 x2 x3 x4 x5 x6 a1 a2 b1 b2 a3 b3 a4 b4
    refine ⟨r1, ?_⟩
    subst r1
    rw [a5, b5] at r2
    by_cases z1 : d1 = e
    · rw [if_pos z1, if_pos z1] at r2; omega
    · rw [if_neg z1, if_neg z1] at r2; exact r2
  · obtain ⟨z1, z2, z3, z4⟩ := p5 d d1 d9
    refine ⟨z1, z2, z3, ?_⟩
    rw [g3, if_neg (by omega)]
    exact z4
-- the class's records on the way move to the front
def so (g : Nat → Option Nat) (k i : Nat) : Nat → Option Nat := fun j => if j < i then g (j + k) else g j
theorem so_0 (g : Nat → Option Nat) (k : Nat) : so g k 0 = g := by
  funext j
  exact if_neg (by omega)
theorem so_step (g : Nat → Option Nat) (k i : Nat) : (fun j => if j = i then g (i + k) else so g k i j) = so g k (i + 1) := by
  funext j
  unfold so
  by_cases z : j = i
  · subst z
    rw [if_pos rfl, if_pos (by omega)]
  · rw [if_neg z]
    by_cases z2 : j < i
    · rw [if_pos z2, if_pos (by omega)]
    · rw [if_neg z2, if_neg (by omega)]
theorem ro_loop {ma nw k : Nat} (k1 : xk_kd K ma = 8 + 1) (k16 : xk_rv K 8 10 ma = some (ma + 3)) (k17 : xk_kd K (ma + 3) = 100 + 10) (k18 : xk_ln K (ma + 3) = 8) (z3 : xk_iv K 8 11 ma = nI nw) (hk : nw + k ≤ 8) (hg : ∀ j, j < nw → (xk_ar K (ma + 3) (j + k)).elim (7 + 1) (xk_kd K) = 7 + 1) :
    ∀ (d i m : Nat), i + d = nw → d < m → kf_Master_removeOldestOnWay_12 m (xk_row K (ma + 3) (so (xk_ar K (ma + 3)) k i)) ma (nI k) (nI i) = some (xk_row K (ma + 3) (so (xk_ar K (ma + 3)) k nw)) := by
  intro d
  induction d with
  | zero =>
    intro i m hi hm
    obtain ⟨m, rfl⟩ : ∃ m', m = m' + 1 := ⟨m - 1, by omega⟩
    have : i = nw := by omega
    subst this
    show kb_Master_removeOldestOnWay_12 (kf_Master_removeOldestOnWay_12 m) _ ma (nI k) (nI i) = _
    unfold kb_Master_removeOldestOnWay_12
    rw [xI_at (v := nI i) (by exact k1) (by exact z3), xb_some, if_pos (nI_le (Nat.le_refl _) (by omega))]
  | succ d ih =>
    intro i m hi hm
    obtain ⟨m, rfl⟩ : ∃ m', m = m' + 1 := ⟨m - 1, by omega⟩
    show kb_Master_removeOldestOnWay_12 (kf_Master_removeOldestOnWay_12 m) _ ma (nI k) (nI i) = _
    unfold kb_Master_removeOldestOnWay_12
    have e0 : xR (xk_row K (ma + 3) (so (xk_ar K (ma + 3)) k i)) 8 10 ma = some (some (ma + 3)) := xR_at (by exact k1) (by exact k16)
    have s1 : so (xk_ar K (ma + 3)) k i (i + k) = xk_ar K (ma + 3) (i + k) := if_neg (by omega)
    have e1 : xRa (xk_row K (ma + 3) (so (xk_ar K (ma + 3)) k i)) 10 (ma + 3) (nI (i + k)) = some (xk_ar K (ma + 3) (i + k)) := by rw [xRa_ok (n := 8) (by exact k17) (by exact k18) (by omega) (by decide), row_ar, s1]
    have e2 : xRt (xk_row K (ma + 3) (so (xk_ar K (ma + 3)) k i)) 10 7 (ma + 3) (nI i) (xk_ar K (ma + 3) (i + k)) = some (xk_row K (ma + 3) (so (xk_ar K (ma + 3)) k (i + 1))) := by rw [xRt_ok (n := 8) (by exact k17) (by exact k18) (by omega) (by decide) (by exact hg i (by omega)), row_tR, so_step]
    rw [xI_at (v := nI nw) (by exact k1) (by exact z3), xb_some, if_neg (nI_ge (by omega) (by omega)), e0, xb_some, xb_some, xb_some, nI_add, e1, xb_some, xb_some, e2, xb_some, nI_1]
    exact ih (i + 1) m (by omega) (by omega)
theorem st_un {e ma nw : Nat} (h : iA B fz V E P D c R n K M) (e1 : 1 ≤ e) (e9 : e ≤ 9) (he : xk_ar K (5 + B) e = some ma) (hn : M 30 e = nI nw) (hk : nw + D e ≤ 8) :
    iA B fz V E P (fun d => if d = e then 0 else D d) c R n (xk_row (xk_sI K 8 11 ma (nI nw)) (ma + 3) (so (xk_ar K (ma + 3)) (D e) nw)) M := by
  obtain ⟨x0, o0, c0, l0, t0, u0, b0, L0, T0, U0, m0, q0, y0, dq, dy, s0, g0, e0, n0⟩ := id h
  have k3 : xk_kd K (ma + 3) = 110 := (jM_at m0 e1 e9 he).2.2.2.2.2.2.2.2.2.2.2.2.2.2.2.2.2.1
  have kn : ∀ z, z ≠ 110 → xk_kd K (ma + 3) ≠ z := fun z hz => by rw [k3]; exact fun q => hz q.symm
  obtain ⟨w1, w2, w3, w4, w5, w6, w7, w8, w9, w10, w11, w12, w13, w14⟩ := wa_all (b0 := ma + 3) (α := xk_ar (xk_row K (ma + 3) (so (xk_ar K (ma + 3)) (D e) nw))) h (fun b j hb => row_ne K _ j hb)
  have a5 : ∀ d, xk_ar (xk_row K (ma + 3) (so (xk_ar K (ma + 3)) (D e) nw)) (5 + B) d = xk_ar K (5 + B) d := fun d => row_ne K _ d (fun z => kn 106 (by decide) (by rw [← z]; exact m0.1))
  refine ⟨w11, w12, w1 (kn _ (by decide)), w2 (kn _ (by decide)), w3 (kn _ (by decide)), w4 (kn _ (by decide)), b0, w5 (kn _ (by decide)), w6 (kn _ (by decide)), w13, w7 (kn _ (by decide)), (w8 (kn _ (by decide)) (kn _ (by decide))).1, fun d md d1 d9 hd => ?_, (w8 (kn _ (by decide)) (kn _ (by decide))).2, ?_, w10 (kn _ (by decide)), w14, e0, n0⟩
  · have hd' : xk_ar K (5 + B) d = some md := (a5 d).symm.trans hd
    have hi := ma_iff m0 e1 e9 d1 d9 he hd'
    obtain ⟨n1, z1, z2, z3, z4⟩ := y0 d md d1 d9 hd'
    by_cases z : d = e
    · subst z
      rw [he] at hd'
      cases hd'
      have : n1 = nw := (nI_eq (by omega) (by omega)).mp (z2.symm.trans hn)
      subst this
      simp only [if_true]
      refine ⟨n1, by omega, z2, sI_at _ _ _ _ _, fun i hi1 => ?_⟩
      have ar : xk_ar (xk_row (xk_sI K 8 11 ma (nI n1)) (ma + 3) (so (xk_ar K (ma + 3)) (D d) n1)) (ma + 3) (i + 0) = xk_ar K (ma + 3) (i + D d) := (row_ar _ _ _ _).trans (if_pos hi1)
      rw [ar]
      exact z4 i hi1
    · simp only [if_neg z]
      refine ⟨n1, z1, z2, ?_, fun i hi1 => ?_⟩
      · show xk_iv (xk_sI K 8 11 ma (nI nw)) 8 11 md = _
        rw [sI_ne (fun z' => z (hi.mp z'))]
        exact z3
      · have ar : xk_ar (xk_row (xk_sI K 8 11 ma (nI nw)) (ma + 3) (so (xk_ar K (ma + 3)) (D e) nw)) (md + 3) (i + D d) = xk_ar K (md + 3) (i + D d) := row_ne _ _ _ (fun z' => z (hi.mp (by omega)))
        rw [ar]
        exact z4 i hi1
  · intro d1 d2 md me n1 n2 i j a x1 x2 x3 x4 x5 x6 x7 x8 x9 x10 x11 x12 x13 x14
    have x5' : xk_ar K (5 + B) d1 = some md := (a5 d1).symm.trans x5
    have x6' : xk_ar K (5 + B) d2 = some me := (a5 d2).symm.trans x6
    have look : ∀ {d md' k' x : Nat}, 1 ≤ d → d ≤ 9 → xk_ar K (5 + B) d = some md' → M 30 d = nI k' → k' ≤ 8 → x < k' → xk_ar (xk_row (xk_sI K 8 11 ma (nI nw)) (ma + 3) (so (xk_ar K (ma + 3)) (D e) nw)) (md' + 3) (x + if d = e then 0 else D d) = some a → xk_ar K (md' + 3) (x + D d) = some a := fun {d md' k' x} d1 d9 hd hk' hk8 hx ha => by
      have hi := ma_iff m0 e1 e9 d1 d9 he hd
      by_cases z : d = e
      · subst z
        have em : md' = ma := hi.mpr rfl
        subst em
        rw [if_pos rfl] at ha
        have ek : k' = nw := (nI_eq (by omega) (by omega)).mp (hk'.symm.trans hn)
        exact ((row_ar _ _ _ _).trans (if_pos (by omega))).symm.trans ha
      · rw [if_neg z] at ha
        exact (row_ne _ _ _ (fun z' => z (hi.mp (by omega)))).symm.trans ha
    exact dy d1 d2 md me n1 n2 i j a x1 x2 x3 x4 x5' x6' x7 x8 x9 x10 x11 x12 (look x1 x2 x5' x7 x8 x11 x13) (look x3 x4 x6' x9 x10 x12 x14)
theorem fin_settle {e ma nw k : Nat} (e1 : 1 ≤ e) (e9 : e ≤ 9) (h : iA B fz V E P D c R n K M) (he : xk_ar K (5 + B) e = some ma) (hn : M 30 e = nI nw) (hk : D e = k) (hD : ∀ d, d ≠ e → D d = 0) (h8 : nw + k ≤ 8) (v0 : xk_iv K 4 0 (R 24) = 7) :
    ∃ K', kf_Master_settle_71 K ma (nI k) = some K' ∧ dn B n (R 24) 7 K' M := by
  subst hk
  obtain ⟨x0, o0, c0, l0, t0, u0, b0, L0, T0, U0, m0, q0, y0, dq, dy, s0, g0, e0, n0⟩ := id h
  obtain ⟨k1, k2, k3, k4, k5, k6, k7, k8, k9, k10, k11, k12, k13, k14, k15, k16, k17, k18⟩ := (jM_at m0 e1 e9 he).2
  obtain ⟨n1, z1, z2, z3, z4⟩ := y0 e ma e1 e9 he
  have : n1 = nw := (nI_eq (by omega) (by omega)).mp (z2.symm.trans hn)
  subst this
  have hU := st_un h e1 e9 he hn h8
  have hD0 : (fun d => if d = e then 0 else D d) = fun _ => 0 := by
    funext d
    by_cases z : d = e
    · rw [if_pos z]
    · rw [if_neg z]; exact hD d z
  rw [hD0] at hU
  have hl := ro_loop (K := xk_sI K 8 11 ma (nI n1)) (nw := n1) (k := D e) (by exact k1) (by exact k16) (by exact k17) (by exact k18) (sI_at _ _ _ _ _) h8 (fun j hj => by
    obtain ⟨y, t1, t2, -⟩ := z4 j hj
    show (xk_ar K (ma + 3) (j + D e)).elim (7 + 1) (xk_kd K) = 7 + 1
    rw [t1]
    exact t2) n1 0 1000 (by omega) (by omega)
  rw [so_0, row_self] at hl
  have hsub : nI (n1 + D e) - nI (D e) = nI n1 := by
    rw [← nI_add]
    exact Int32.add_sub_cancel _ _
  have hl' : kf_Master_removeOldestOnWay_12 1000 (xk_sI K 8 11 ma (nI n1)) ma (nI (D e)) 0 = _ := hl
  unfold kf_Master_settle_71 kf_Master_removeOldestOnWay_0
  rw [xO_ok k1, xb_some, xI_at k1 z3, xb_some, hsub, xIs_ok k1, xb_some, hl', xb_some]
  exact ⟨_, rfl, ⟨fz, V, E, P, c, R, hU⟩, r24 hU, v0⟩
end
section
variable {B : Nat} {fz : Nat → Prop} {V : List Int32} {E P : Nat} {c : Nat} {R : Nat → Nat} {n : Nat} {K : xk} {M : xm}
theorem lp_settle {e ma : Nat} (e1 : 1 ≤ e) (e9 : e ≤ 9) : ∀ (nw k m : Nat) (K : xk) (M : xm) (c : Nat) (D : Nat → Nat), iA B fz V E P D c R n K M → xk_ar K (5 + B) e = some ma → M 30 e = nI nw → D e = k → (∀ d, d ≠ e → D d = 0) → nw + k ≤ 8 → nw < m → xk_iv K 4 0 (R 24) = 7 →
    ∃ K' M', kf_Master_settle_2 m K ma (6 + B) (nI k) = some K' ∧ kf_EM_acknowledged_67 m M (nI e) = some M' ∧ dn B n (R 24) 7 K' M' := by
  intro nw
  induction nw with
  | zero =>
    intro k m K M c D h he hn hk hD h8 hm v0
    obtain ⟨m, rfl⟩ : ∃ m', m = m' + 1 := ⟨m - 1, by omega⟩
    obtain ⟨x0, o0, c0, l0, t0, u0, b0, L0, T0, U0, m0, q0, y0, dq, dy, s0, g0, e0, n0⟩ := id h
    have k1 := (jM_at m0 e1 e9 he).2.1
    obtain ⟨n1, z1, z2, z3, z4⟩ := y0 e ma e1 e9 he
    have : n1 = 0 := (nI_eq (by omega) (by omega)).mp (z2.symm.trans hn)
    subst this
    rw [hk, Nat.zero_add] at z3
    obtain ⟨K', w1, w2⟩ := fin_settle e1 e9 h he hn hk hD h8 v0
    refine ⟨K', M, ?_, ?_, w2⟩
    · show kb_Master_settle_2 (kf_Master_settle_2 m) K ma (6 + B) (nI k) = _
      unfold kb_Master_settle_2
      rw [xI_at k1 z3, xb_some, if_pos (nI_le (Nat.le_refl _) (by omega)), w1]
    · show kb_EM_acknowledged_67 (kf_EM_acknowledged_67 m) M (nI e) = _
      unfold kb_EM_acknowledged_67
      rw [xMi_at (by show e < 10; omega) (by decide) hn, xb_some, if_pos (show nI 0 ≤ 0 by decide)]
  | succ nw ih =>
    intro k m K M c D h he hn hk hD h8 hm v0
    obtain ⟨m, rfl⟩ : ∃ m', m = m' + 1 := ⟨m - 1, by omega⟩
    obtain ⟨x0, o0, c0, l0, t0, u0, b0, L0, T0, U0, m0, q0, y0, dq, dy, s0, g0, e0, n0⟩ := id h
    obtain ⟨k1, k2, k3, k4, k5, k6, k7, k8, k9, k10, k11, k12, k13, k14, k15, k16, k17, k18⟩ := (jM_at m0 e1 e9 he).2
    obtain ⟨n1, z1, z2, z3, z4⟩ := y0 e ma e1 e9 he
    have : n1 = nw + 1 := (nI_eq (by omega) (by omega)).mp (z2.symm.trans hn)
    subst this
    rw [hk] at z3
    obtain ⟨y, r1, r2, r3, r4, r5, ⟨cl, r60, r6⟩, r7, a, r8, r9⟩ := z4 0 (by omega)
    rw [hk, Nat.zero_add] at r1
    have hE : 8 * e + 0 = 8 * e := Nat.add_zero _
    rw [hE] at r3 r4 r5 r6 r7 r9
    have b80 : 8 * e < 80 := by omega
    have b10 : e < 10 := by omega
    have i8 : (8 : Int32) * nI e = nI (8 * e) := pk_mul 8 e
    show ∃ K' M', kb_Master_settle_2 (kf_Master_settle_2 m) K ma (6 + B) (nI k) = some K' ∧ kb_EM_acknowledged_67 (kf_EM_acknowledged_67 m) M (nI e) = some M' ∧ _
    unfold kb_Master_settle_2 kb_EM_acknowledged_67
    have ra : xRa K 10 (ma + 3) (nI k) = some (some y) := by rw [xRa_ok k17 k18 (by omega) (by decide), r1]
    have m30 : xMi M 30 (nI e) = some (nI (nw + 1)) := xMi_at b10 (by decide) hn
    have m35 : xMi M 35 (nI (8 * e)) = some (M 35 (8 * e)) := xMi_ok b80 (by decide)
    have m18 : xMi M 18 (nI e) = some (M 18 e) := xMi_ok b10 (by decide)
    have m36 : xMi M 36 (nI (8 * e)) = some (M 36 (8 * e)) := xMi_ok b80 (by decide)
    have hsub := and_sub r7
    rw [xI_at k1 z3, xb_some, if_neg (nI_ge (by omega) (by omega)), xR_at k1 k16, xb_some, xb_some, ra, xb_some, xb_some, xI_at r2 r5, xb_some, xI_at k1 k3, xb_some, m30]
    simp only [xb_some]
    rw [if_neg (nI_nle (by omega) (by omega)), i8, m35, m18]
    simp only [xb_some]
    rw [hsub]
    by_cases hv : M 35 (8 * e) = M 18 e
    · rw [if_pos hv, if_pos hv, m36, xb_some]
      have hM5 := st_m5 (v := M 31 (8 * e)) h e1 e9 he
      have hP := st_pop (k := nw) hM5 e1 e9 (by exact he) (by exact hn) (by omega)
      unfold kf_EM_acknowledged_112 kf_EM_acknowledged_148
      have m37 : xMi M 37 (nI (8 * e)) = some (M 37 (8 * e)) := xMi_ok b80 (by decide)
      have m31 : xMi M 31 (nI (8 * e)) = some (M 31 (8 * e)) := xMi_ok b80 (by decide)
      have m30' : xMi (xm_s M 22 e (M 31 (8 * e))) 30 (nI e) = some (nI (nw + 1)) := xMi_at b10 (by decide) hn
      rw [i8, m37, xb_some, m31, xb_some, xMt_ok b10 (by decide), xb_some, m30', xb_some, nI_pred, xMt_ok b10 (by decide), xb_some]
      have hl := sw_loop (M := xm_s (xm_s M 22 e (M 31 (8 * e))) 30 e (nI nw)) (rec67 := kf_EM_acknowledged_67 m) (x4 := M 36 (8 * e)) (x5 := M 37 (8 * e)) e9 (k := nw) (by omega) (ms_at _ _ _ _) nw 0 1000 (by omega) (by omega)
      rw [hE, sw_0] at hl
      have m22 : xm_s (xm_s M 22 e (M 31 (8 * e))) 30 e (nI nw) 22 e = M 31 (8 * e) := ms_at M 22 e _
      rw [m22] at hl
      rw [hl]
      unfold kf_EM_result_0 kf_Master_sendResult_0
      obtain ⟨b, m', K1, M1, c', s1, s2, mlt, kb, hsf, hM1, hAp⟩ := sd_both hP 8 (M 36 (8 * e)) (nI e) (M 31 (8 * e)) (M 37 (8 * e))
      have S := hsf (fun _ => 0) (fun _ => none) (fun _ => 0) (fun _ => 0)
      have kA : xk_kd K1 ma = 8 + 1 := (congrFun S.1 _).trans k1
      have i85 : xk_iv K1 8 5 ma = M 31 (8 * e) := (S.2.2.1 8 5 _ (by decide) (by decide)).trans (sI_at _ _ _ _ _)
      have t71 : xI (xk_sI K 8 5 ma (M 31 (8 * e))) 7 1 y = some (M 36 (8 * e)) := xI_at r2 r3
      have t72 : xI (xk_sI K 8 5 ma (M 31 (8 * e))) 7 2 y = some (M 37 (8 * e)) := xI_at r2 r4
      have t80 : xI (xk_sI K 8 5 ma (M 31 (8 * e))) 8 0 ma = some (nI e) := xI_at k1 k2
      rw [ra]
      simp only [xb_some]
      rw [xR_at r2 r8, xb_some, xb_some, xI_at r9.1 r9.2.1, xb_some, xIs_ok k1, xb_some, t71, xb_some, t72, xb_some, xO_ok (by exact k1), xb_some, t80, xb_some, xO_ok (by exact s0.1), xb_some, s1, xp_some, xb_some, xIs_ok (by exact kb), xb_some, mg_sI, xIs_ok (by exact kb), xb_some, mg_sI, xp_some, xI_at (by exact kA) (by exact i85), xb_some, xb_some, xIs_ok (by exact kb), xb_some, mg_sI, s2, xp_some, xMt_ok mlt (by decide), xb_some, xb_some, mm_s _ _ _ _ (by omega)]
      unfold kf_Master_settle_65
      generalize hf : (fun j => if j = 3 then M 31 (8 * e) else if j = 6 then 4 else if j = 4 then M 37 (8 * e) else rs_f 8 (M 36 (8 * e)) (nI e) (fun j => xk_iv K1 4 j b) j) = f
      generalize hh : (fun j => if j = 54 then 4 else sd_h 8 (M 36 (8 * e)) (nI e) (M 31 (8 * e)) (M 37 (8 * e)) (fun c => M1 c m') j) = hh'
      have hB := hAp f (rs_g (fun j => xk_rv K1 4 j b)) hh' (fun x => M1 55 (8 * m' + x)) n (by
        rw [← hf, ← hh]
        exact ⟨rfl, rfl, rfl, rfl, ⟨cl, r60, r6⟩, ⟨e, e1, e9, rfl⟩, Or.inr (Or.inr (Or.inr (Or.inr (Or.inr (Or.inr (Or.inr ⟨rfl, rfl, rfl, Or.inl rfl⟩))))))⟩) (by rw [← hh]; exact Nat.le_refl _)
      have S2 := hsf f (rs_g (fun j => xk_rv K1 4 j b)) hh' (fun x => M1 55 (8 * m' + x))
      rw [nI_1]
      refine ih (k + 1) m _ _ c' _ hB ?_ ?_ ?_ ?_ (by omega) (by omega) ?_
      · rw [S2.2.2.2.2.2.1]; exact he
      · refine (congrFun (S2.2.2.2.2.2.2.2.1 30 (by decide)) e).trans ?_
        exact ((if_neg (fun h => by omega)).trans (if_neg (fun h => by omega))).trans (ms_at _ _ _ _)
      · simp only [if_true]
        rw [hk]
      · intro d hd
        simp only [if_neg hd]
        exact hD d hd
      · exact (S2.2.2.2.2.2.2.2.2.1 0).trans v0
    · rw [if_neg hv, if_neg hv]
      obtain ⟨K', w1, w2⟩ := fin_settle e1 e9 h he hn hk hD h8 v0
      exact ⟨K', M, w1, rfl, w2⟩
theorem hd_ack {e i ma : Nat} (hA : iA B fz V E P (fun _ => 0) c R n K M) (e1 : 1 ≤ e) (e9 : e ≤ 9) (he : xk_ar K (5 + B) e = some ma) (hi : i < 3) (v0 : xk_iv K 4 0 (R 24) = 7) (v1 : xk_iv K 4 1 (R 24) = nI i) (v3 : xk_iv K 4 3 (R 24) = M 51 24) (hmb : bt (M 18 e) i = true) :
    ∃ K1 K' M', kf_Master_takeAcknowledgement_0 K ma (R 24) = some K1 ∧ xk_kd K1 ma = 8 + 1 ∧ kf_Master_settle_0 K1 ma (6 + B) = some K' ∧ kf_EM_acknowledged_0 M (nI i) (nI e) (M 51 24) = some M' ∧ dn B n (R 24) 7 K' M' := by
  obtain ⟨x0, o0, c0, l0, t0, u0, b0, L0, T0, U0, m0, q0, y0, dq, dy, s0, g0, e0, n0⟩ := id hA
  obtain ⟨nw, z1, z2, -⟩ := y0 e ma e1 e9 he
  obtain ⟨K1, M1, p1, p2, p3, p4, p5, p6⟩ := lp_ack e1 e9 (nw := nw) z1 hi nw 0 1000 (by omega) (by omega) K M hA he z2 hmb v0 v1 v3
  obtain ⟨K', M', w1, w2, w3⟩ := lp_settle e1 e9 nw 0 1000 K1 M1 c _ p3 p4 p6 rfl (fun _ _ => rfl) z1 (Nat.lt_of_le_of_lt z1 (by decide)) p5
  have i8 : (8 : Int32) * nI e = nI (8 * e + 0) := pk_mul 8 e
  refine ⟨K1, K', M', p1, ?_, w1, ?_, w3⟩
  · obtain ⟨x0', o0', c0', l0', t0', u0', b0', L0', T0', U0', m0', -⟩ := id p3
    exact (jM_at m0' e1 e9 p4).2.1
  · unfold kf_EM_acknowledged_0
    rw [i8, p2, w2]
end
