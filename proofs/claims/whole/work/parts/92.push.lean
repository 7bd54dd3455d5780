section
variable {B : Nat} {fz : Nat → Prop} {V : List Int32} {E P : Nat} {D : Nat → Nat} {c : Nat} {R : Nat → Nat} {n : Nat} {K : xk} {M : xm}
theorem cb_get (N : xm) (f p g q i c' j : Nat) : cb_L N f p g q i c' j = if c' = g ∧ 8 * q ≤ j ∧ j < 8 * q + i then N f (8 * p + (j - 8 * q)) else N c' j := rfl
/-- the reference's row of a log: what it holds behind a record -/
def rc_M (M : xm) (i nn : Nat) (v : Int32) : xm := xm_s (cb_L (xm_s (xm_s (xm_s M 5 i (nI (nn + 1))) 6 (100 * i + nn) v) 7 (100 * i + nn) (M 54 24)) 55 24 8 (100 * i + nn) 8) 4 i v
theorem rc_get (M : xm) (i nn : Nat) (v : Int32) {f : Nat} (j : Nat) (h4 : f ≠ 4) (h5 : f ≠ 5) (h6 : f ≠ 6) (h7 : f ≠ 7) (h8 : f ≠ 8) : rc_M M i nn v f j = M f j := by
  unfold rc_M
  rw [ms_get, if_neg (fun z => h4 z.1), cb_get, if_neg (fun z => h8 z.1), ms_get, if_neg (fun z => h7 z.1), ms_get, if_neg (fun z => h6 z.1), ms_get, if_neg (fun z => h5 z.1)]
/-- a log takes a record -/
theorem st_rec {i nn a : Nat} {v b m : Int32} (h : iA B fz V E P D c R n K M) (hi : i < 3) (hn : M 5 i = nI nn) (hlt : nn < 100) (hm : m = M 54 24) (he : en K fz V a v b m (fun x => M 55 (192 + x))) :
    iA B fz V E P D c R n (xk_sI (xk_sI (xk_tR K (39 + 3 * i + B) nn (some a)) 9 6 (37 + 3 * i + B) (nI (nn + 1))) 9 3 (37 + 3 * i + B) v) (rc_M M i nn v) := by
  obtain ⟨x0, o0, c0, l0, t0, u0, b0, L0, T0, U0, m0, q0, y0, dq, dy, s0, g0, e0, n0⟩ := id h
  subst hm
  have k39 : xk_kd K (39 + 3 * i + B) = 108 := (L0 i hi).2.2.2.2.2.1
  have kn : ∀ z, z ≠ 108 → xk_kd K (39 + 3 * i + B) ≠ z := fun z hz => by rw [k39]; exact fun q => hz q.symm
  obtain ⟨w1, w2, w3, w4, w5, w6, w7, w8, w9, w10, w11, w12, w13, w14⟩ := wa_all (b0 := 39 + 3 * i + B) (α := xk_ar (xk_tR K (39 + 3 * i + B) nn (some a))) h (fun b j hb => by rw [tR_get, if_neg (fun z => hb z.1)])
  have l1 := w2 (kn _ (by decide))
  refine ⟨w11, w12, w1 (kn _ (by decide)), ⟨l1.1, l1.2.1, fun j hj => ?_⟩, w3 (kn _ (by decide)), w4 (kn _ (by decide)), b0, fun j hj => ?_, fun j hj => ?_, w13, w7 (kn _ (by decide)), (w8 (kn _ (by decide)) (kn _ (by decide))).1, (w9 (kn _ (by decide)) (kn _ (by decide))).1, (w8 (kn _ (by decide)) (kn _ (by decide))).2, (w9 (kn _ (by decide)) (kn _ (by decide))).2, w10 (kn _ (by decide)), w14, e0, n0⟩
  · obtain ⟨e1, e2, e3, e4, e5, e6, e7⟩ := l1.2.2 j hj
    have e6' : xk_iv (xk_sI (xk_tR K (39 + 3 * i + B) nn (some a)) 9 6 (37 + 3 * i + B) (nI (nn + 1))) 9 3 (37 + 3 * j + B) = cb_L (xm_s (xm_s (xm_s M 5 i (nI (nn + 1))) 6 (100 * i + nn) v) 7 (100 * i + nn) (M 54 24)) 55 24 8 (100 * i + nn) 8 4 j := e6
    have e7' : xk_iv (xk_sI (xk_tR K (39 + 3 * i + B) nn (some a)) 9 6 (37 + 3 * i + B) (nI (nn + 1))) 9 6 (37 + 3 * j + B) = xm_s M 5 i (nI (nn + 1)) 5 j := up_eq (by omega) e7
    exact ⟨e1, e2, e3, e4, e5, up_eq (by omega) e6', e7'⟩
  · obtain ⟨z1, z2, z3, z4, z5, z6, z7, n1, z8, z9, z10⟩ := L0 j hj
    have g6 : ∀ x, rc_M M i nn v 6 x = if x = 100 * i + nn then v else M 6 x := fun x => by
      show xm_s (xm_s M 5 i (nI (nn + 1))) 6 (100 * i + nn) v 6 x = _
      rw [ms_get]
      by_cases q : x = 100 * i + nn
      · rw [if_pos ⟨rfl, q⟩, if_pos q]
      · rw [if_neg (fun z => q z.2), if_neg q]; rfl
    have g7 : ∀ x, rc_M M i nn v 7 x = if x = 100 * i + nn then M 54 24 else M 7 x := fun x => by
      show xm_s (xm_s (xm_s M 5 i (nI (nn + 1))) 6 (100 * i + nn) v) 7 (100 * i + nn) (M 54 24) 7 x = _
      rw [ms_get]
      by_cases q : x = 100 * i + nn
      · rw [if_pos ⟨rfl, q⟩, if_pos q]
      · rw [if_neg (fun z => q z.2), if_neg q]; rfl
    have g8 : ∀ x, rc_M M i nn v 8 x = if 8 * (100 * i + nn) ≤ x ∧ x < 8 * (100 * i + nn) + 8 then M 55 (192 + (x - 8 * (100 * i + nn))) else M 8 x := fun x => by
      show cb_L (xm_s (xm_s (xm_s M 5 i (nI (nn + 1))) 6 (100 * i + nn) v) 7 (100 * i + nn) (M 54 24)) 55 24 8 (100 * i + nn) 8 8 x = _
      rw [cb_get]
      by_cases q : 8 * (100 * i + nn) ≤ x ∧ x < 8 * (100 * i + nn) + 8
      · rw [if_pos ⟨rfl, q⟩, if_pos q]; rfl
      · rw [if_neg (fun z => q z.2), if_neg q]; rfl
    have g5 : rc_M M i nn v 5 j = if j = i then nI (nn + 1) else M 5 j := by
      show xm_s M 5 i (nI (nn + 1)) 5 j = _
      rw [ms_get]
      by_cases q : j = i
      · rw [if_pos ⟨rfl, q⟩, if_pos q]
      · rw [if_neg (fun z => q z.2), if_neg q]
    have oldE : ∀ x a' b', x < n1 → (j = i → x < nn) → xk_ar K (39 + 3 * j + B) x = some a' → en K fz V a' (M 6 (100 * j + x)) b' (M 7 (100 * j + x)) (fun y => M 8 (8 * (100 * j + x) + y)) → xk_ar (xk_tR K (39 + 3 * i + B) nn (some a)) (39 + 3 * j + B) x = some a' ∧ en K fz V a' (rc_M M i nn v 6 (100 * j + x)) b' (rc_M M i nn v 7 (100 * j + x)) (fun y => rc_M M i nn v 8 (8 * (100 * j + x) + y)) := fun x a' b' hx hji ha' he' => by
      have hne : 100 * j + x ≠ 100 * i + nn := by omega
      refine ⟨?_, ?_⟩
      · rw [tR_get, if_neg (fun z => by omega)]; exact ha'
      · rw [g6, if_neg hne, g7, if_neg hne]
        refine en_cg he' (fun y hy => ?_)
        rw [g8, if_neg (by omega)]
    by_cases q : j = i
    · subst q
      have : n1 = nn := (nI_eq (by omega) (by omega)).mp (z9.symm.trans hn)
      subst this
      refine ⟨z1, z2, z3, z4, z5, z6, z7, n1 + 1, by omega, by rw [g5, if_pos rfl], fun x hx => ?_⟩
      by_cases hx' : x = n1
      · subst hx'
        refine ⟨a, b, ?_, ?_⟩
        · show xk_ar (xk_tR K (39 + 3 * j + B) x (some a)) (39 + 3 * j + B) x = some a
          rw [tR_get, if_pos ⟨rfl, rfl⟩]
        · rw [g6, if_pos rfl, g7, if_pos rfl]
          refine en_cg (K := K) (by exact he) (fun y hy => ?_)
          rw [g8, if_pos (by omega), Nat.add_sub_cancel_left]
      · obtain ⟨a', b', y1, y2⟩ := z10 x (by omega)
        exact ⟨a', b', (oldE x a' b' (by omega) (fun _ => by omega) y1 y2)⟩
    · refine ⟨z1, z2, z3, z4, z5, z6, z7, n1, z8, by rw [g5, if_neg q]; exact z9, fun x hx => ?_⟩
      obtain ⟨a', b', y1, y2⟩ := z10 x hx
      exact ⟨a', b', (oldE x a' b' hx (fun z => absurd z q) y1 y2)⟩
  · obtain ⟨z1, z2, z3, z4, n1, z5, z6, z7, z8, z9⟩ := T0 j hj
    refine ⟨z1, z2, z3, z4, n1, z5, z6, z7, fun x hx => ?_, z9⟩
    obtain ⟨a', b', m', y1, y2⟩ := z8 x hx
    refine ⟨a', b', m', ?_, y2⟩
    show xk_ar (xk_tR K (39 + 3 * i + B) nn (some a)) (47 + 2 * j + B) x = some a'
    rw [tR_get, if_neg (fun z => by omega)]
    exact y1
theorem pd_loop {N : xm} {i e : Nat} {v : Int32} {q : Nat} (hq : q < 300) (hi : i < 3) : ∀ (d x m : Nat), x + d = 8 → d < m → kf_EM_pushed_75 m (cb_L N 55 24 8 q x) (nI i) (nI e) v (nI q) (nI x) = kf_EM_pushed_119 (xm_s (cb_L N 55 24 8 q 8) 4 i v) (nI i) (nI e) v := by
  intro d
  induction d with
  | zero =>
    intro x m hx hm
    obtain ⟨m, rfl⟩ : ∃ m', m = m' + 1 := ⟨m - 1, by omega⟩
    have : x = 8 := by omega
    subst this
    show kb_EM_pushed_75 (kf_EM_pushed_75 m) _ _ _ _ _ (nI 8) = _
    unfold kb_EM_pushed_75
    rw [if_pos (show (8 : Int32) ≤ nI 8 from nI_le (a := 8) (b := 8) (Nat.le_refl _) (by decide)), xMt_ok hi (by decide), xb_some]
  | succ d ih =>
    intro x m hx hm
    obtain ⟨m, rfl⟩ : ∃ m', m = m' + 1 := ⟨m - 1, by omega⟩
    show kb_EM_pushed_75 (kf_EM_pushed_75 m) _ _ _ _ _ (nI x) = _
    unfold kb_EM_pushed_75
    have e1 : (192 : Int32) + nI x = nI (8 * 24 + x) := nI_add 192 x
    rw [if_neg (show ¬ (8 : Int32) ≤ nI x from nI_ge (a := x) (b := 8) (by omega) (by decide)), e1, xMi_ok (by show 8 * 24 + x < 200; omega) (by decide), xb_some, ix_8, xMt_ok (by show 8 * q + x < 2400; omega) (by decide), xb_some, nI_1, cb_src (by decide), cb_step]
    exact ih (x + 1) m (by omega) (by omega)
theorem hd_push {e i a : Nat} (hA : iA B fz V E P (fun _ => 0) c R n K M) (hi : i < 3) (he1 : 1 ≤ e) (he9 : e ≤ 9) (v0 : xk_iv K 4 0 (R 24) = 6) (v2 : xk_iv K 4 2 (R 24) = nI e) (v3 : xk_iv K 4 3 (R 24) = M 51 24) (v9 : xk_rv K 4 9 (R 24) = some a) (he : en K fz V a (M 51 24) (M 53 24) (M 54 24) (fun x => M 55 (192 + x))) :
    ∃ K' M', kf_Log_receive_0 K (37 + 3 * i + B) (R 24) (6 + B) = some K' ∧ kf_EM_hand_0 M 6 (nI i) (nI e) = some M' ∧ dn B n (R 24) 6 K' M' := by
  obtain ⟨x0, o0, c0, l0, t0, u0, b0, L0, T0, U0, m0, q0, y0, dq, dy, s0, g0, e0, n0⟩ := id hA
  obtain ⟨f1, f2, f3, f4, f5, f6, f7⟩ := l0.2.2 i hi
  have kr : xk_kd K (R 24) = 4 + 1 := (s0.2.2.2.2.2.2.2.2.1 24 (by decide)).2.1
  have stay : dn B n (R 24) 6 K M := ⟨⟨fz, V, E, P, c, R, hA⟩, kr, v0⟩
  unfold kf_Log_receive_0 kf_EM_hand_0
  have m52 : xMi M 52 24 = some (M 52 24) := xMi_ok (i := 24) (by decide) (by decide)
  have m51 : xMi M 51 24 = some (M 51 24) := xMi_ok (i := 24) (by decide) (by decide)
  rw [m52, m51, xb_some, xb_some, if_neg (show ¬ (6 : Int32) = 2 by decide), if_pos rfl, xMi_ok hi (by decide), xb_some, xI_at f2 f4, xb_some]
  by_cases hu : M 3 i = 0
  · rw [if_pos hu, if_pos hu]
    exact ⟨K, M, rfl, rfl, stay⟩
  · rw [if_neg hu, if_neg hu, xI_at kr v2, xb_some, xI_at f2 f5, xb_some, xMi_ok hi (by decide), xb_some]
    by_cases hq : M 2 i = nI e
    · obtain ⟨le, le1, le2, le3, le4⟩ := e0.2.2.2.2.2.1 i hi
      have e9 := e0.2.1
      have : le = e := (nI_eq (by omega) (by omega)).mp (le3.symm.trans hq)
      subst this
      rw [if_pos hq.symm, if_pos hq, xI_at kr v0, xb_some, if_neg (show ¬ (6 : Int32) = 2 by decide)]
      unfold kf_Log_receive_50 kf_EM_pushed_0 kf_Log_takeRecord_0
      have m53 : xMi M 53 24 = some (M 53 24) := xMi_ok (i := 24) (by decide) (by decide)
      have m4 : xMi M 4 (nI i) = some (M 4 i) := xMi_ok hi (by decide)
      have m5 : xMi M 5 (nI i) = some (M 5 i) := xMi_ok hi (by decide)
      obtain ⟨a1, a2, a3, a4, w, a5, a6, a7⟩ := id he
      obtain ⟨z1, z2, z3, z4, z5, z6, z7, nn, z8, z9, z10⟩ := L0 i hi
      rw [xR_at kr v9, xb_some, xb_some, xO_ok f2, xb_some, xI_at a1 a3, xb_some, xI_at f2 f6, xb_some, m53, m4]
      simp only [xb_some]
      -- the answer: both send an acknowledgement
      have tail : ∀ (K2 : xk) (M2 : xm), iA B fz V E P (fun _ => 0) c R n K2 M2 → xk_iv K2 4 0 (R 24) = 6 → xk_iv K2 4 3 (R 24) = M 51 24 → M2 2 i = nI le →
          ∃ K3 M3, ((xI K2 9 0 (37 + 3 * i + B)).bind fun v6 => (xI K2 9 2 (37 + 3 * i + B)).bind fun v7 => (xO K2 5 (6 + B)).bind fun _ => xp (kf_Line_send_0 K2 (6 + B) (7 : Int32) v6 v7) fun r10 K8 => (xI K8 4 3 (R 24)).bind fun v11 => (r10).bind fun a12 => (xIs K8 4 3 a12 v11).bind fun K13 => some K13) = some K3 ∧ (xp (kf_EM_send_0 M2 (7 : Int32) (nI i) (nI le) (M 51 24) (0 : Int32)) fun r2 M1 => some M1) = some M3 ∧ dn B n (R 24) 6 K3 M3 := fun K2 M2 hA2 u0' u3' hq2 => by
        obtain ⟨x0', o0', c0', l0', t0', u0'', b0', L0', T0', U0', m0', q0', y0', dq', dy', s0', g0', e0', n0'⟩ := id hA2
        obtain ⟨h1, h2, h3, h4, h5, h6, h7⟩ := l0'.2.2 i hi
        have kr' : xk_kd K2 (R 24) = 4 + 1 := (s0'.2.2.2.2.2.2.2.2.1 24 (by decide)).2.1
        obtain ⟨le', le1', le2', le3', le4'⟩ := e0'.2.2.2.2.2.1 i hi
        have : le' = le := (nI_eq (by have := e0'.2.1; omega) (by omega)).mp (le3'.symm.trans hq2)
        subst this
        obtain ⟨b', m, K1, M1, c', k1, k2, mlt, kb, hsf, hM1, hAp⟩ := sd_both hA2 7 (nI i) (nI le') (M 51 24) 0
        have S' := hsf (rs_f 7 (nI i) (nI le') (fun j => xk_iv K1 4 j b')) (rs_g (fun j => xk_rv K1 4 j b')) (fun _ => 0) (fun _ => 0)
        have k24 : ∀ f g, xk_kd (mg K1 b' f g) (R 24) = 4 + 1 := fun f g => (congrFun (hsf f g (fun _ => 0) (fun _ => 0)).1 _).trans kr'
        rw [xI_at h2 h3, xb_some, xI_at h2 (h5.trans hq2), xb_some, xO_ok s0'.1, xb_some, k1, xp_some, xI_at (k24 _ _) ((S'.2.2.2.2.2.2.2.2.1 3).trans u3'), xb_some, xb_some, xIs_ok (by exact kb), xb_some, mg_sI, k2, xp_some]
        refine ⟨_, _, rfl, rfl, ⟨fz, V, E, P, c', R, hAp _ _ _ _ _ ?_ (Nat.le_refl _)⟩, k24 _ _, ?_⟩
        · exact ⟨rfl, rfl, rfl, rfl, ⟨i, hi, rfl⟩, ⟨le', le1', he9, rfl⟩, Or.inr (Or.inr (Or.inr (Or.inr (Or.inr (Or.inr (Or.inl ⟨rfl, i, le', hi, rfl, le1', le2', rfl, le4'⟩))))))⟩
        · exact ((hsf _ _ (fun _ => 0) (fun _ => 0)).2.2.2.2.2.2.2.2.1 0).trans u0'
      have old : ∃ K3 M3, (xp (kf_Log_takeRecord_48 K (37 + 3 * i + B) a) fun r5 K3 => if r5 = 0 then (some K3) else (xI K3 9 0 (37 + 3 * i + B)).bind fun v6 => (xI K3 9 2 (37 + 3 * i + B)).bind fun v7 => (xO K3 5 (6 + B)).bind fun _ => xp (kf_Line_send_0 K3 (6 + B) (7 : Int32) v6 v7) fun r10 K8 => (xI K8 4 3 (R 24)).bind fun v11 => (r10).bind fun a12 => (xIs K8 4 3 a12 v11).bind fun K13 => some K13) = some K3 ∧ kf_EM_pushed_133 M (nI i) (nI le) (M 51 24) = some M3 ∧ dn B n (R 24) 6 K3 M3 := by
        unfold kf_Log_takeRecord_48 kf_EM_pushed_133
        rw [xI_at a1 a2, xb_some, xI_at f2 f6, xb_some, m4, xb_some]
        by_cases hlt : M 4 i < M 51 24
        · rw [if_pos hlt, if_pos hlt, xp_some, if_pos rfl]
          exact ⟨K, M, rfl, rfl, stay⟩
        · rw [if_neg hlt, if_neg hlt, xp_some, if_neg (by decide)]
          exact tail K M hA v0 v3 hq
      by_cases hb : M 53 24 = M 4 i
      · rw [if_pos hb, if_pos hb, xI_at f2 f7, xb_some, m5, xb_some, z9]
        by_cases h100 : nn < 100
        · have c100 : ¬ (100 : Int32) ≤ nI nn := nI_ge (a := nn) (b := 100) h100 (by decide)
          have f7' : xk_iv K 9 6 (37 + 3 * i + B) = nI nn := f7.trans z9
          have i7 : xI (xk_tR K (39 + 3 * i + B) nn (some a)) 9 6 (37 + 3 * i + B) = some (nI nn) := xI_at f2 f7'
          have i30 : xI (xk_sI (xk_tR K (39 + 3 * i + B) nn (some a)) 9 6 (37 + 3 * i + B) (nI (nn + 1))) 3 0 a = some (M 51 24) := xI_at a1 a2
          have hB := st_rec (v := M 51 24) hA hi z9 h100 rfl he
          have ix : (100 : Int32) * nI i + nI nn = nI (100 * i + nn) := by
            show nI 100 * nI i + nI nn = _
            rw [pk_mul, nI_add]
          have m54 : xMi (xm_s (xm_s M 5 i (nI (nn + 1))) 6 (100 * i + nn) (M 51 24)) 54 24 = some (M 54 24) := xMi_ok (i := 24) (by decide) (by decide)
          rw [if_neg c100, if_neg c100, xR_at f2 z2, xb_some, xb_some, xb_some, xRt_ok z6 z7 h100 (by decide) (by exact a1), xb_some, i7, xb_some, nI_1, xIs_ok (by exact f2), xb_some, i30, xb_some, xIs_ok (by exact f2), xb_some, xb_some, ix]
          unfold kf_Log_takeRecord_48 kf_EM_pushed_40
          have j30 : xI (xk_sI (xk_sI (xk_tR K (39 + 3 * i + B) nn (some a)) 9 6 (37 + 3 * i + B) (nI (nn + 1))) 9 3 (37 + 3 * i + B) (M 51 24)) 3 0 a = some (M 51 24) := xI_at a1 a2
          have j93 : xI (xk_sI (xk_sI (xk_tR K (39 + 3 * i + B) nn (some a)) 9 6 (37 + 3 * i + B) (nI (nn + 1))) 9 3 (37 + 3 * i + B) (M 51 24)) 9 3 (37 + 3 * i + B) = some (M 51 24) := xI_at f2 (sI_at _ _ _ _ _)
          have irr : ¬ M 51 24 < M 51 24 := fun z => by rw [Int32.lt_iff_toInt_lt] at z; omega
          rw [j30, xb_some, j93, xb_some, if_neg irr, xp_some, if_neg (by decide), m5, xb_some, z9, nI_1, xMt_ok hi (by decide), xb_some, xMt_ok (by show 100 * i + nn < 300; omega) (by decide), xb_some, m54, xb_some, xMt_ok (by show 100 * i + nn < 300; omega) (by decide), xb_some]
          have hl := pd_loop (N := xm_s (xm_s (xm_s M 5 i (nI (nn + 1))) 6 (100 * i + nn) (M 51 24)) 7 (100 * i + nn) (M 54 24)) (e := le) (v := M 51 24) (q := 100 * i + nn) (by omega) hi 8 0 1000 (by omega) (by omega)
          rw [cb_0] at hl
          have hl' : kf_EM_pushed_75 1000 (xm_s (xm_s (xm_s M 5 i (nI (nn + 1))) 6 (100 * i + nn) (M 51 24)) 7 (100 * i + nn) (M 54 24)) (nI i) (nI le) (M 51 24) (nI (100 * i + nn)) 0 = kf_EM_pushed_119 (rc_M M i nn (M 51 24)) (nI i) (nI le) (M 51 24) := hl
          rw [hl']
          unfold kf_EM_pushed_119 kf_EM_hand_89 kf_EM_hand_222
          obtain ⟨K3, M3, k3, k4, k5⟩ := tail _ _ hB v0 v3 (by rw [rc_get _ _ _ _ _ (by decide) (by decide) (by decide) (by decide) (by decide)]; exact hq)
          exact ⟨K3, M3, k3, by rw [k4]; rfl, k5⟩
        · have c100 : (100 : Int32) ≤ nI nn := nI_le (a := 100) (b := nn) (by omega) (by omega)
          rw [if_pos c100, if_pos c100]
          obtain ⟨K3, M3, k3, k4, k5⟩ := old
          exact ⟨K3, M3, k3, by rw [k4]; rfl, k5⟩
      · rw [if_neg hb, if_neg hb]
        obtain ⟨K3, M3, k3, k4, k5⟩ := old
        exact ⟨K3, M3, k3, by rw [k4]; rfl, k5⟩
    · rw [if_neg (fun z => hq z.symm), if_neg hq]
      exact ⟨K, M, rfl, rfl, stay⟩
end
