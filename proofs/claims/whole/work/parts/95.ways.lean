section
variable {B : Nat} {fz : Nat → Prop} {V : List Int32} {E P : Nat} {D : Nat → Nat} {c : Nat} {R : Nat → Nat} {n : Nat} {K : xk} {M : xm}
theorem b_xor (x y : Int32) (i : Nat) : bt (x ^^^ y) i = (bt x i ^^ bt y i) := by unfold bt; rw [Int32.toBitVec_xor, BitVec.getLsbD_xor]
theorem b_m1 : ∀ i, i < 32 → bt (-1) i = true := by decide +kernel
theorem b_not (x y : Int32) {i : Nat} (hi : i < 32) : bt (x &&& (y ^^^ (-1))) i = (bt x i && !bt y i) := by
  rw [b_and, b_xor, b_m1 i hi]
  cases bt x i <;> cases bt y i <;> rfl
theorem po_loop {N : xm} {p q : Nat} {rec5 : xm → Int32 → Int32 → Int32 → Int32 → Option (Int32 × xm)} {x1 x3 x4 : Int32} (hp : p < 80) (hq : q < 25) : ∀ (d i m : Nat), i + d = 8 → d < m → kf_EM_pushOut_87 rec5 m (cb_L N 34 p 55 q i) x1 (nI p) x3 x4 (nI q) (nI i) = rec5 (cb_L N 34 p 55 q 8) x1 (nI p) (x3 + 1) (x4 + 1) := by
  intro d
  induction d with
  | zero =>
    intro i m hi hm
    obtain ⟨m, rfl⟩ : ∃ m', m = m' + 1 := ⟨m - 1, by omega⟩
    have i8 : i = 8 := by omega
    subst i8
    show kb_EM_pushOut_87 rec5 (kf_EM_pushOut_87 rec5 m) _ _ _ _ _ _ (nI 8) = _
    unfold kb_EM_pushOut_87
    rw [if_pos (show (8 : Int32) ≤ nI 8 from nI_le (a := 8) (b := 8) (Nat.le_refl _) (by decide))]
  | succ d ih =>
    intro i m hi hm
    obtain ⟨m, rfl⟩ : ∃ m', m = m' + 1 := ⟨m - 1, by omega⟩
    show kb_EM_pushOut_87 rec5 (kf_EM_pushOut_87 rec5 m) _ _ _ _ _ _ (nI i) = _
    unfold kb_EM_pushOut_87
    rw [if_neg (show ¬ (8 : Int32) ≤ nI i from nI_ge (a := i) (b := 8) (by omega) (by decide)), ix_8, ix_8, xMi_ok (by show 8 * p + i < 640; omega) (by decide), xb_some, xMt_ok (by show 8 * q + i < 200; omega) (by decide), xb_some, nI_1, cb_src (by decide), cb_step]
    exact ih (i + 1) m (by omega) (by omega)
theorem lp_push {e ma nw i y : Nat} (e1 : 1 ≤ e) (e9 : e ≤ 9) (hw8 : nw ≤ 8) (hi : i < nw) : ∀ (d l m : Nat), l + d = 3 → d < m → ∀ (K : xk) (M : xm) (c : Nat) (s : Int32), iA B fz V E P D c R n K M → xk_ar K (5 + B) e = some ma → M 30 e = nI nw → xk_ar K (ma + 3) (i + D e) = some y →
    ∃ K' M' c' s', kf_Master_pushToOthers_5 m K ma y (6 + B) s (nI l) = some (s', K') ∧ kf_EM_pushOut_5 m M (nI e) (nI (8 * e + i)) s (nI l) = some (s', M') ∧ iA B fz V E P D c' R n K' M' ∧ sf (R 24) K K' M M' := by
  intro d
  induction d with
  | zero =>
    intro l m hl hm K M c s h he hw hy
    obtain ⟨m, rfl⟩ : ∃ m', m = m' + 1 := ⟨m - 1, by omega⟩
    have : l = 3 := by omega
    subst this
    refine ⟨K, M, c, s, ?_, ?_, h, sf_rf⟩
    · show kb_Master_pushToOthers_5 (kf_Master_pushToOthers_5 m) K ma y (6 + B) s (nI 3) = _
      unfold kb_Master_pushToOthers_5
      rw [if_pos (show (3 : Int32) ≤ nI 3 from nI_le (a := 3) (b := 3) (Nat.le_refl _) (by decide))]
    · show kb_EM_pushOut_5 (kf_EM_pushOut_5 m) M (nI e) (nI (8 * e + i)) s (nI 3) = _
      unfold kb_EM_pushOut_5 kf_EM_pushOut_134
      rw [if_pos (show (3 : Int32) ≤ nI 3 from nI_le (a := 3) (b := 3) (Nat.le_refl _) (by decide))]
  | succ d ih =>
    intro l m hl hm K M c s h he hw hy
    obtain ⟨m, rfl⟩ : ∃ m', m = m' + 1 := ⟨m - 1, by omega⟩
    have l3 : ¬ (3 : Int32) ≤ nI l := nI_ge (a := l) (b := 3) (by omega) (by decide)
    obtain ⟨x0, o0, c0, l0, t0, u0, b0, L0, T0, U0, m0, q0, y0, dq, dy, s0, g0, e0, n0⟩ := id h
    obtain ⟨k1, k2, k3, k4, k5, k6, k7, k8, -⟩ := (jM_at m0 e1 e9 he).2
    obtain ⟨n1, z1, z2, z3, z4⟩ := y0 e ma e1 e9 he
    have : n1 = nw := (nI_eq (by omega) (by omega)).mp (z2.symm.trans hw)
    subst this
    obtain ⟨y', r1, r2, r3, r4, r5, r6, r7, a, r8, r9⟩ := z4 i hi
    rw [hy] at r1
    cases r1
    obtain ⟨a1, a2, a3, a4, w, a5, a6, a7⟩ := id r9
    show ∃ K' M' c' s', kb_Master_pushToOthers_5 (kf_Master_pushToOthers_5 m) K ma y (6 + B) s (nI l) = some (s', K') ∧ kb_EM_pushOut_5 (kf_EM_pushOut_5 m) M (nI e) (nI (8 * e + i)) s (nI l) = some (s', M') ∧ _
    unfold kb_Master_pushToOthers_5 kb_EM_pushOut_5
    have b10 : e < 10 := by omega
    have b80 : 8 * e + i < 80 := by omega
    have m18 : xMi M 18 (nI e) = some (M 18 e) := xMi_ok b10 (by decide)
    have m35 : xMi M 35 (nI (8 * e + i)) = some (M 35 (8 * e + i)) := xMi_ok b80 (by decide)
    have m31 : xMi M 31 (nI (8 * e + i)) = some (M 31 (8 * e + i)) := xMi_ok b80 (by decide)
    rw [if_neg l3, if_neg l3, xI_at k1 k3, xb_some, xI_at r2 r5, xb_some, m18, xb_some, m35, xb_some, nI_1]
    by_cases hb : bt (M 18 e) l = true
    · rw [if_pos ((bi_m _ (by omega)).mpr hb)]
      by_cases hb2 : bt (M 35 (8 * e + i)) l = true
      · have hc0 : ((M 18 e &&& (M 35 (8 * e + i) ^^^ (-1))) &&& ((1 : Int32) <<< (nI l &&& 31))) = 0 := (bi_c _ (by omega)).mpr (by rw [b_not _ _ (by omega), hb2]; cases bt (M 18 e) l <;> rfl)
        have hd0 : ¬ ((M 35 (8 * e + i) >>> (nI l &&& 31)) &&& (1 : Int32)) = 0 := fun z => by rw [(bi_0 _ (by omega)).mp z] at hb2; cases hb2
        rw [if_pos hc0, if_neg hd0]
        exact ih (l + 1) m (by omega) (by omega) K M c s h he hw hy
      · have hb3 := bt_tf hb2
        have hc0 : ¬ ((M 18 e &&& (M 35 (8 * e + i) ^^^ (-1))) &&& ((1 : Int32) <<< (nI l &&& 31))) = 0 := fun z => by
          have := (bi_c _ (by omega)).mp z
          rw [b_not _ _ (by omega), hb, hb3] at this
          cases this
        have hd0 : ((M 35 (8 * e + i) >>> (nI l &&& 31)) &&& (1 : Int32)) = 0 := (bi_0 _ (by omega)).mpr hb3
        obtain ⟨b, m', K1, M1, c', s1, s2, mlt, kb, hsf, hM1, hAp⟩ := sd_both h 6 (nI l) (nI e) (M 31 (8 * e + i)) 0
        have S := hsf (fun _ => 0) (fun _ => none) (fun _ => 0) (fun _ => 0)
        have kY : xk_kd K1 y = 7 + 1 := (congrFun S.1 _).trans r2
        have kE : xk_kd K1 a = 3 + 1 := (congrFun S.1 _).trans a1
        have r70 : xk_rv K1 7 0 y = some a := (S.2.2.2.1 7 0 _ (by decide)).trans r8
        have i30 : xk_iv K1 3 0 a = M 31 (8 * e + i) := (S.2.2.1 3 0 _ (by decide) (by decide)).trans a2
        rw [if_neg hc0, if_pos hd0, xI_at k1 k2, xb_some, xO_ok s0.1, xb_some, s1, xp_some, xR_at (by exact kY) (by exact r70), xb_some, xb_some, xI_at (by exact kE) (by exact i30), xb_some, xb_some, xIs_ok (by exact kb), xb_some, mg_sI, m31, xb_some, s2, xp_some]
        unfold kf_Master_pushToOthers_56 kf_EM_pushOut_58
        have t32 : ∀ h' ct, xMi (mm M1 m' h' ct) 32 (nI (8 * e + i)) = some (M 32 (8 * e + i)) := fun h' ct => xMi_at b80 (by decide) (congrFun (hM1 32 (by decide)) _)
        have t33 : ∀ h' ct, xMi (mm M1 m' h' ct) 33 (nI (8 * e + i)) = some (M 33 (8 * e + i)) := fun h' ct => xMi_at b80 (by decide) (congrFun (hM1 33 (by decide)) _)
        rw [xR_at (by exact kY) (by exact r70), xb_some, xRs_ok (by exact kb), xb_some, mg_sR, t32, xb_some, xMt_ok mlt (by decide), xb_some, mm_s _ _ _ _ (by omega), t33, xb_some, xMt_ok mlt (by decide), xb_some, mm_s _ _ _ _ (by omega)]
        generalize hf : (fun j => if j = 3 then M 31 (8 * e + i) else rs_f 6 (nI l) (nI e) (fun j => xk_iv K1 4 j b) j) = f
        generalize hg : (fun j => if j = 9 then some a else rs_g (fun j => xk_rv K1 4 j b) j) = g
        generalize hh : (fun j => if j = 54 then M 33 (8 * e + i) else if j = 53 then M 32 (8 * e + i) else sd_h 6 (nI l) (nI e) (M 31 (8 * e + i)) 0 (fun c => M1 c m') j) = hh'
        have hl := po_loop (N := mm M1 m' hh' (fun x => M1 55 (8 * m' + x))) (p := 8 * e + i) (q := m') (rec5 := kf_EM_pushOut_5 m) (x1 := nI e) (x3 := s) (x4 := nI l) b80 mlt 8 0 1000 (by omega) (by omega)
        rw [cb_0, mm_cb _ _ _ _ (by omega), nI_1] at hl
        have hl' : kf_EM_pushOut_87 (kf_EM_pushOut_5 m) 1000 (mm M1 m' hh' (fun x => M1 55 (8 * m' + x))) (nI e) (nI (8 * e + i)) s (nI l) (nI m') 0 = kf_EM_pushOut_5 m (mm M1 m' hh' fun x => M1 34 (8 * (8 * e + i) + x)) (nI e) (nI (8 * e + i)) (s + 1) (nI (l + 1)) := hl
        rw [hl']
        have hB := hAp f g hh' (fun x => M1 34 (8 * (8 * e + i) + x)) n (by
          rw [← hf, ← hg, ← hh, hM1 34 (by decide)]
          exact ⟨rfl, rfl, rfl, rfl, ⟨l, by omega, rfl⟩, ⟨e, e1, e9, rfl⟩, Or.inr (Or.inr (Or.inr (Or.inr (Or.inr (Or.inl ⟨rfl, a, rfl, r9⟩)))))⟩) (by rw [← hh]; exact Nat.le_refl _)
        have S2 := hsf f g hh' (fun x => M1 34 (8 * (8 * e + i) + x))
        obtain ⟨K', M', c2, s', q1, q2, q3, q4⟩ := ih (l + 1) m (by omega) (by omega) _ _ _ (s + 1) hB (by rw [S2.2.2.2.2.2.1]; exact he) ((congrFun (S2.2.2.2.2.2.2.2.1 30 (by decide)) e).trans hw) (by rw [S2.2.2.2.2.2.1]; exact hy)
        exact ⟨K', M', c2, s', by rw [nI_1]; exact q1, q2, q3, sf_tr S2 q4⟩
    · have hc0 : ((M 18 e &&& (M 35 (8 * e + i) ^^^ (-1))) &&& ((1 : Int32) <<< (nI l &&& 31))) = 0 := (bi_c _ (by omega)).mpr (by rw [b_not _ _ (by omega), bt_tf hb]; rfl)
      rw [if_pos hc0, if_neg (fun z => hb ((bi_m _ (by omega)).mp z))]
      exact ih (l + 1) m (by omega) (by omega) K M c s h he hw hy
theorem lp_pushes {e ma nw : Nat} (e1 : 1 ≤ e) (e9 : e ≤ 9) (hw8 : nw ≤ 8) : ∀ (d i m : Nat), i + d = nw → d < m → ∀ (K : xk) (M : xm) (c : Nat) (s : Int32), iA B fz V E P (fun _ => 0) c R n K M → xk_ar K (5 + B) e = some ma → M 30 e = nI nw →
    ∃ K' M' c' s', kf_Master_pushAgain_4 m K ma (6 + B) s (nI i) = some (s', K') ∧ kf_EM_push_17 m M (nI e) s (nI (8 * e + i)) = some (s', M') ∧ iA B fz V E P (fun _ => 0) c' R n K' M' := by
  intro d
  induction d with
  | zero =>
    intro i m hi hm K M c s h he hw
    obtain ⟨m, rfl⟩ : ∃ m', m = m' + 1 := ⟨m - 1, by omega⟩
    have : i = nw := by omega
    subst this
    obtain ⟨x0, o0, c0, l0, t0, u0, b0, L0, T0, U0, m0, q0, y0, dq, dy, s0, g0, e0, n0⟩ := id h
    have k1 := (jM_at m0 e1 e9 he).2.1
    obtain ⟨n1, z1, z2, z3, z4⟩ := y0 e ma e1 e9 he
    have : n1 = i := (nI_eq (by omega) (by omega)).mp (z2.symm.trans hw)
    subst this
    have z3' : xk_iv K 8 11 ma = nI n1 := z3
    refine ⟨K, M, c, s, ?_, ?_, h⟩
    · show kb_Master_pushAgain_4 (kf_Master_pushAgain_4 m) K ma (6 + B) s (nI n1) = _
      unfold kb_Master_pushAgain_4
      rw [xI_at k1 z3', xb_some, if_pos (nI_le (Nat.le_refl _) (by omega))]
    · show kb_EM_push_17 (kf_EM_push_17 m) M (nI e) s (nI (8 * e + n1)) = _
      unfold kb_EM_push_17
      rw [xMi_at (by show e < 10; omega) (by decide) hw, xb_some, ix_8, if_pos (nI_le (Nat.le_refl _) (by omega))]
  | succ d ih =>
    intro i m hi hm K M c s h he hw
    obtain ⟨m, rfl⟩ : ∃ m', m = m' + 1 := ⟨m - 1, by omega⟩
    obtain ⟨x0, o0, c0, l0, t0, u0, b0, L0, T0, U0, m0, q0, y0, dq, dy, s0, g0, e0, n0⟩ := id h
    obtain ⟨k1, k2, k3, k4, k5, k6, k7, k8, k9, k10, k11, k12, k13, k14, k15, k16, k17, k18⟩ := (jM_at m0 e1 e9 he).2
    obtain ⟨n1, z1, z2, z3, z4⟩ := y0 e ma e1 e9 he
    have : n1 = nw := (nI_eq (by omega) (by omega)).mp (z2.symm.trans hw)
    subst this
    have z3' : xk_iv K 8 11 ma = nI n1 := z3
    obtain ⟨y, r1, r2, -⟩ := z4 i (by omega)
    obtain ⟨K', M', c', s', p1, p2, p3, p4⟩ := lp_push (i := i) e1 e9 hw8 (by omega) 3 0 1000 (by omega) (by omega) K M c 0 h he hw r1
    obtain ⟨K2, M2, c2, s2, w1, w2, w3⟩ := ih (i + 1) m (by omega) (by omega) K' M' c' (s + s') p3 (by rw [p4.2.2.2.2.2.1]; exact he) ((congrFun (p4.2.2.2.2.2.2.2.1 30 (by decide)) e).trans hw)
    refine ⟨K2, M2, c2, s2, ?_, ?_, w3⟩
    · show kb_Master_pushAgain_4 (kf_Master_pushAgain_4 m) K ma (6 + B) s (nI i) = _
      unfold kb_Master_pushAgain_4 kf_Master_pushToOthers_0
      have p1' : kf_Master_pushToOthers_5 1000 K ma y (6 + B) 0 0 = some (s', K') := p1
      rw [xI_at k1 z3', xb_some, if_neg (nI_ge (by omega) (by omega)), xR_at k1 k16, xb_some, xb_some, xRa_ok k17 k18 (by omega) (by decide), show xk_ar K (ma + 3) i = some y from r1, xb_some, xb_some, xO_ok k1, xb_some, p1', xp_some, nI_1]
      exact w1
    · show kb_EM_push_17 (kf_EM_push_17 m) M (nI e) s (nI (8 * e + i)) = _
      unfold kb_EM_push_17 kf_EM_pushOut_0
      have p2' : kf_EM_pushOut_5 1000 M (nI e) (nI (8 * e + i)) 0 0 = some (s', M') := p2
      rw [xMi_at (by show e < 10; omega) (by decide) hw, xb_some, ix_8, if_neg (nI_ge (by omega) (by omega)), p2', xp_some, nI_1]
      exact w2
theorem kp_push (B : Nat) : lo_s15 (iV B) B := fun n K M a _ h => by
  obtain ⟨fz, V, E, P, c, R, hA⟩ := id h
  obtain ⟨x0, o0, c0, l0, t0, u0, b0, L0, T0, U0, m0, q0, y0, dq, dy, s0, g0, e0, n0⟩ := id hA
  unfold kf_ES_push_0 kf_EM_push_0
  rw [xO_ok o0.1, xb_some]
  rcases is_master o0 (iN_of hA) a with ⟨h1, h2⟩ | ⟨e, ma, he1, he9, rfl, h1, h2, hx, hn, hk, hz⟩
  · rw [h1, h2, xp_some, xp_some, if_pos rfl, if_pos rfl]
    exact ⟨-1, K, M, rfl, rfl, iV_next h⟩
  · obtain ⟨nw, z1, z2, -⟩ := y0 e ma he1 he9 hn
    obtain ⟨K', M', c', s', p1, p2, p3⟩ := lp_pushes he1 he9 (nw := nw) z1 nw 0 1000 (by omega) (by omega) K M c 0 hA hn z2
    have p1' : kf_Master_pushAgain_4 1000 K ma (6 + B) 0 0 = some (s', K') := p1
    have i8 : (8 : Int32) * nI e = nI (8 * e + 0) := pk_mul 8 e
    unfold kf_Master_pushAgain_0
    rw [h1, h2, xp_some, xp_some, if_neg (by decide), if_neg (by decide), xR_ok o0.1, o0.2.2.2.2.2.1, xb_some, xb_some, hx, xb_some, xR_ok o0.1, o0.2.2.2.2.2.2, xb_some, xb_some, xb_some, xO_ok hk, xb_some, p1', xp_some, i8, p2]
    exact ⟨s', K', M', rfl, rfl, fz, V, E, P, c', R, iA_mono p3 (by omega)⟩
end
