section
theorem mg_s8 (K : xk) (a mz : Nat) (f : Nat → Int32) (g : Nat → Option Nat) (v : Int32) : xk_sI (mg K a f g) 8 4 mz v = mg (xk_sI K 8 4 mz v) a f g := by
  refine xk_ext (fun _ => rfl) (fun _ => rfl) (fun c j b => ?_) (fun _ _ _ => rfl) (fun _ _ => rfl) (fun _ _ => rfl) rfl
  rw [sI_get, mg_iv, mg_iv, sI_get]
  by_cases h : c = 8 ∧ j = 4 ∧ b = mz
  · rw [if_pos h, if_neg (fun z => by omega), if_pos h]
  · rw [if_neg h, if_neg h]
variable {B : Nat} {fz : Nat → Prop} {V : List Int32} {E P : Nat} {D : Nat → Nat} {c : Nat} {R : Nat → Nat} {n : Nat} {K : xk} {M : xm}
theorem sd_both2 {mz : Nat} {vz : Int32} (h : iA B fz V E P D c R n (xk_sI K 8 4 mz vz) M) (t w e v x : Int32) : ∃ (a m : Nat) (K1 : xk) (M1 : xm) (c' : Nat),
    kf_Line_send_0 K (6 + B) t w e = some (some a, mg K1 a (rs_f t w e (fun j => xk_iv K1 4 j a)) (rs_g (fun j => xk_rv K1 4 j a))) ∧
    kf_EM_send_0 M t w e v x = some (nI m, mm M1 m (sd_h t w e v x (fun c => M1 c m)) (fun x => M1 55 (8 * m + x))) ∧ m < 25 ∧ xk_kd K1 a = 4 + 1 ∧
    (∀ f g h' ct, sf (R 24) K (mg K1 a f g) M (mm M1 m h' ct)) ∧ (∀ f, f < 47 → M1 f = M f) ∧
    ∀ f g h' ct k, mv K M fz V E f g h' ct → n + (if h' 48 = 5 then 4 else 0) ≤ k → iA B fz V E P D c' R k (xk_sI (mg K1 a f g) 8 4 mz vz) (mm M1 m h' ct) := by
  obtain ⟨x0, o0, c0, l0, t0, u0, b0, L0, T0, U0, m0, q0, y0, dq, dy, ⟨s1, s2, s3, s4, s5, s6, s7, s8, s9, s10⟩, ⟨g1, g2⟩, e0, n0⟩ := id h
  have M47 : ∀ (N : xm) (m : Nat) (h' ct : Nat → Int32) (f : Nat), f < 47 → mm N m h' ct f = N f := fun N m h' ct f hf => funext fun j => by rw [mm_get, if_neg (fun z => by omega), if_neg (fun z => by omega)]
  rcases Nat.lt_or_ge c 24 with hc | hc
  · obtain ⟨r1, r2, r3⟩ := s9 c (by omega)
    have hne : R 24 ≠ R c := fun z => by have := s10 24 c (by omega) (by omega) z; omega
    refine ⟨R c, c, xk_sI K 5 2 (6 + B) (nI (c + 1)), xm_s M xm_l 0 (nI (c + 1)), c + 1, ?_, ?_, by omega, r2, fun f g h' ct => ?_, fun f hf => ?_, fun f g h' ct k hv hk => by rw [mg_s8, sI_comm K (k := 2) (k' := 4) _ _ _ _ (by decide)]; exact ap_room h hc (by exact hv) hk⟩
    · rw [sd_room (by exact s1) (by exact s2) (by exact s3) (by exact s4) (by exact s8) hc (by exact r1) (by exact r2), rs_mg]
    · rw [sm_room g1 hc, sd_mm]
    · refine ⟨rfl, rfl, fun c' j b h4 h5 => ?_, fun c' j b h4 => ?_, rfl, rfl, rfl, fun f' hf => ?_, fun j => ?_, fun j => ?_⟩
      · rw [mg_iv, if_neg (fun z => h4 z.1), sI_get, if_neg (fun z => h5 z.1)]
      · rw [mg_rv, if_neg (fun z => h4 z.1)]; rfl
      · rw [M47 _ _ _ _ _ hf]
        funext j
        rw [ms_get, if_neg (fun z => by rw [show xm_l = 47 from rfl] at z; omega)]
      · rw [mg_iv, if_neg (fun z => hne z.2)]; rfl
      · rw [mg_rv, if_neg (fun z => hne z.2)]; rfl
    · funext j
      rw [ms_get, if_neg (fun z => by rw [show xm_l = 47 from rfl] at z; omega)]
  · have hc : c = 24 := by omega
    have hne : R 24 ≠ 8 + B := (s9 24 (by omega)).2.2
    refine ⟨8 + B, 24, K, M, c, ?_, ?_, by omega, s6, fun f g h' ct => ?_, fun f hf => rfl, fun f g h' ct k hv hk => by rw [mg_s8]; exact iA_mono (ap_full h hc) (Nat.le_trans (Nat.le_add_right _ _) hk)⟩
    · rw [sd_full (by exact s1) (by exact s5) (by exact s6) (by rw [← hc]; exact s8), rs_mg]
    · rw [sm_full (by rw [g1, hc]), sd_mm]
    · refine ⟨rfl, rfl, fun c' j b h4 h5 => ?_, fun c' j b h4 => ?_, rfl, rfl, rfl, fun f' hf => M47 _ _ _ _ _ hf, fun j => ?_, fun j => ?_⟩
      · rw [mg_iv, if_neg (fun z => h4 z.1)]
      · rw [mg_rv, if_neg (fun z => h4 z.1)]
      · rw [mg_iv, if_neg (fun z => hne z.2)]
      · rw [mg_rv, if_neg (fun z => hne z.2)]
theorem lp_push2 {e ma nw i y : Nat} {vz : Int32} (e1 : 1 ≤ e) (e9 : e ≤ 9) (hw8 : nw ≤ 8) (hi : i < nw) : ∀ (d l m : Nat), l + d = 3 → d < m → ∀ (K : xk) (M : xm) (c : Nat) (s : Int32), iA B fz V E P D c R n (xk_sI K 8 4 ma vz) M → xk_ar K (5 + B) e = some ma → M 30 e = nI nw → xk_ar K (ma + 3) (i + D e) = some y →
    ∃ K' M' c' s', kf_Master_pushToOthers_5 m K ma y (6 + B) s (nI l) = some (s', K') ∧ kf_EM_pushOut_5 m M (nI e) (nI (8 * e + i)) s (nI l) = some (s', M') ∧ iA B fz V E P D c' R n (xk_sI K' 8 4 ma vz) M' ∧ sf (R 24) K K' M M' := by
  intro d
  induction d with
  | zero =>
    intro l m hl hm K M c s h he hw hy
    obtain ⟨m, rfl⟩ : ∃ m', m = m' + 1 := ⟨m - 1, by omega⟩
    have : l = 3 := by omega
    subst this
    refine ⟨K, M, c, s, ?_, ?_, h, sf_rf⟩
    · show kb_Master_pushToOthers_5 (kf_Master_pushToOthers_5 m) K ma y (6 + B) s (nI 3) = _
      unfold kb_Master_pushToOthers_5
      rw [if_pos (show (3 : Int32) ≤ nI 3 from nI_le (a := 3) (b := 3) (Nat.le_refl _) (by decide))]
    · show kb_EM_pushOut_5 (kf_EM_pushOut_5 m) M (nI e) (nI (8 * e + i)) s (nI 3) = _
      unfold kb_EM_pushOut_5 kf_EM_pushOut_134
      rw [if_pos (show (3 : Int32) ≤ nI 3 from nI_le (a := 3) (b := 3) (Nat.le_refl _) (by decide))]
  | succ d ih =>
    intro l m hl hm K M c s h he hw hy
    obtain ⟨m, rfl⟩ : ∃ m', m = m' + 1 := ⟨m - 1, by omega⟩
    have l3 : ¬ (3 : Int32) ≤ nI l := nI_ge (a := l) (b := 3) (by omega) (by decide)
    obtain ⟨x0, o0, c0, l0, t0, u0, b0, L0, T0, U0, m0, q0, y0, dq, dy, s0, g0, e0, n0⟩ := id h
    obtain ⟨k1, k2, k3, k4, k5, k6, k7, k8, -⟩ := (jM_at m0 e1 e9 (by exact he)).2
    have k1 : xk_kd K ma = 8 + 1 := k1
    have k2 : xk_iv K 8 0 ma = nI e := k2
    have k3 : xk_iv K 8 1 ma = M 18 e := k3
    obtain ⟨n1, z1, z2, z3, z4⟩ := y0 e ma e1 e9 (by exact he)
    have : n1 = nw := (nI_eq (by omega) (by omega)).mp (z2.symm.trans hw)
    subst this
    obtain ⟨y', r1, r2, r3, r4, r5, r6, r7, a, r8, r9⟩ := z4 i hi
    have r1 : xk_ar K (ma + 3) (i + D e) = some y' := r1
    rw [hy] at r1
    cases r1
    have r2 : xk_kd K y = 7 + 1 := r2
    have r5 : xk_iv K 7 3 y = M 35 (8 * e + i) := r5
    have r8 : xk_rv K 7 0 y = some a := r8
    have r9 : en K fz V a (M 31 (8 * e + i)) (M 32 (8 * e + i)) (M 33 (8 * e + i)) (fun x => M 34 (8 * (8 * e + i) + x)) := r9
    have s01 : xk_kd K (6 + B) = 5 + 1 := s0.1
    obtain ⟨a1, a2, a3, a4, w, a5, a6, a7⟩ := id r9
    show ∃ K' M' c' s', kb_Master_pushToOthers_5 (kf_Master_pushToOthers_5 m) K ma y (6 + B) s (nI l) = some (s', K') ∧ kb_EM_pushOut_5 (kf_EM_pushOut_5 m) M (nI e) (nI (8 * e + i)) s (nI l) = some (s', M') ∧ _
    unfold kb_Master_pushToOthers_5 kb_EM_pushOut_5
    have b10 : e < 10 := by omega
    have b80 : 8 * e + i < 80 := by omega
    have m18 : xMi M 18 (nI e) = some (M 18 e) := xMi_ok b10 (by decide)
    have m35 : xMi M 35 (nI (8 * e + i)) = some (M 35 (8 * e + i)) := xMi_ok b80 (by decide)
    have m31 : xMi M 31 (nI (8 * e + i)) = some (M 31 (8 * e + i)) := xMi_ok b80 (by decide)
    rw [if_neg l3, if_neg l3, xI_at k1 k3, xb_some, xI_at r2 r5, xb_some, m18, xb_some, m35, xb_some, nI_1]
    by_cases hb : bt (M 18 e) l = true
    · rw [if_pos ((bi_m _ (by omega)).mpr hb)]
      by_cases hb2 : bt (M 35 (8 * e + i)) l = true
      · have hc0 : ((M 18 e &&& (M 35 (8 * e + i) ^^^ (-1))) &&& ((1 : Int32) <<< (nI l &&& 31))) = 0 := (bi_c _ (by omega)).mpr (by rw [b_not _ _ (by omega), hb2]; cases bt (M 18 e) l <;> rfl)
        have hd0 : ¬ ((M 35 (8 * e + i) >>> (nI l &&& 31)) &&& (1 : Int32)) = 0 := fun z => by rw [(bi_0 _ (by omega)).mp z] at hb2; cases hb2
        rw [if_pos hc0, if_neg hd0]
        exact ih (l + 1) m (by omega) (by omega) K M c s h he hw hy
      · have hb3 := bt_tf hb2
        have hc0 : ¬ ((M 18 e &&& (M 35 (8 * e + i) ^^^ (-1))) &&& ((1 : Int32) <<< (nI l &&& 31))) = 0 := fun z => by
          have := (bi_c _ (by omega)).mp z
          rw [b_not _ _ (by omega), hb, hb3] at this
          cases this
        have hd0 : ((M 35 (8 * e + i) >>> (nI l &&& 31)) &&& (1 : Int32)) = 0 := (bi_0 _ (by omega)).mpr hb3
        obtain ⟨b, m', K1, M1, c', s1, s2, mlt, kb, hsf, hM1, hAp⟩ := sd_both2 h 6 (nI l) (nI e) (M 31 (8 * e + i)) 0
        have S := hsf (fun _ => 0) (fun _ => none) (fun _ => 0) (fun _ => 0)
        have kY : xk_kd K1 y = 7 + 1 := (congrFun S.1 _).trans r2
        have kE : xk_kd K1 a = 3 + 1 := (congrFun S.1 _).trans a1
        have r70 : xk_rv K1 7 0 y = some a := (S.2.2.2.1 7 0 _ (by decide)).trans r8
        have i30 : xk_iv K1 3 0 a = M 31 (8 * e + i) := (S.2.2.1 3 0 _ (by decide) (by decide)).trans a2
        rw [if_neg hc0, if_pos hd0, xI_at k1 k2, xb_some, xO_ok s01, xb_some, s1, xp_some, xR_at (by exact kY) (by exact r70), xb_some, xb_some, xI_at (by exact kE) (by exact i30), xb_some, xb_some, xIs_ok (by exact kb), xb_some, mg_sI, m31, xb_some, s2, xp_some]
        unfold kf_Master_pushToOthers_56 kf_EM_pushOut_58
        have t32 : ∀ h' ct, xMi (mm M1 m' h' ct) 32 (nI (8 * e + i)) = some (M 32 (8 * e + i)) := fun h' ct => xMi_at b80 (by decide) (congrFun (hM1 32 (by decide)) _)
        have t33 : ∀ h' ct, xMi (mm M1 m' h' ct) 33 (nI (8 * e + i)) = some (M 33 (8 * e + i)) := fun h' ct => xMi_at b80 (by decide) (congrFun (hM1 33 (by decide)) _)
        rw [xR_at (by exact kY) (by exact r70), xb_some, xRs_ok (by exact kb), xb_some, mg_sR, t32, xb_some, xMt_ok mlt (by decide), xb_some, mm_s _ _ _ _ (by omega), t33, xb_some, xMt_ok mlt (by decide), xb_some, mm_s _ _ _ _ (by omega)]
        generalize hf : (fun j => if j = 3 then M 31 (8 * e + i) else rs_f 6 (nI l) (nI e) (fun j => xk_iv K1 4 j b) j) = f
        generalize hg : (fun j => if j = 9 then some a else rs_g (fun j => xk_rv K1 4 j b) j) = g
        generalize hh : (fun j => if j = 54 then M 33 (8 * e + i) else if j = 53 then M 32 (8 * e + i) else sd_h 6 (nI l) (nI e) (M 31 (8 * e + i)) 0 (fun c => M1 c m') j) = hh'
        have hl := po_loop (N := mm M1 m' hh' (fun x => M1 55 (8 * m' + x))) (p := 8 * e + i) (q := m') (rec5 := kf_EM_pushOut_5 m) (x1 := nI e) (x3 := s) (x4 := nI l) b80 mlt 8 0 1000 (by omega) (by omega)
        rw [cb_0, mm_cb _ _ _ _ (by omega), nI_1] at hl
        have hl' : kf_EM_pushOut_87 (kf_EM_pushOut_5 m) 1000 (mm M1 m' hh' (fun x => M1 55 (8 * m' + x))) (nI e) (nI (8 * e + i)) s (nI l) (nI m') 0 = kf_EM_pushOut_5 m (mm M1 m' hh' fun x => M1 34 (8 * (8 * e + i) + x)) (nI e) (nI (8 * e + i)) (s + 1) (nI (l + 1)) := hl
        rw [hl']
        have hB := hAp f g hh' (fun x => M1 34 (8 * (8 * e + i) + x)) n (by
          rw [← hf, ← hg, ← hh, hM1 34 (by decide)]
          exact ⟨rfl, rfl, rfl, rfl, ⟨l, by omega, rfl⟩, ⟨e, e1, e9, rfl⟩, Or.inr (Or.inr (Or.inr (Or.inr (Or.inr (Or.inl ⟨rfl, a, rfl, r9⟩)))))⟩) (by rw [← hh]; exact Nat.le_refl _)
        have S2 := hsf f g hh' (fun x => M1 34 (8 * (8 * e + i) + x))
        obtain ⟨K', M', c2, s', q1, q2, q3, q4⟩ := ih (l + 1) m (by omega) (by omega) _ _ _ (s + 1) hB (by rw [S2.2.2.2.2.2.1]; exact he) ((congrFun (S2.2.2.2.2.2.2.2.1 30 (by decide)) e).trans hw) (by rw [S2.2.2.2.2.2.1]; exact hy)
        exact ⟨K', M', c2, s', by rw [nI_1]; exact q1, q2, q3, sf_tr S2 q4⟩
    · have hc0 : ((M 18 e &&& (M 35 (8 * e + i) ^^^ (-1))) &&& ((1 : Int32) <<< (nI l &&& 31))) = 0 := (bi_c _ (by omega)).mpr (by rw [b_not _ _ (by omega), bt_tf hb]; rfl)
      rw [if_pos hc0, if_neg (fun z => hb ((bi_m _ (by omega)).mp z))]
      exact ih (l + 1) m (by omega) (by omega) K M c s h he hw hy
end
section
variable {B : Nat} {fz : Nat → Prop} {V : List Int32} {E P : Nat} {c : Nat} {R : Nat → Nat} {n : Nat} {K : xk} {M : xm}
def ws_M (M : xm) (e nw : Nat) (x b cl tr : Int32) : xm := cb_L (xm_s (xm_s (xm_s (xm_s (xm_s (xm_s (xm_s M 30 e (nI (nw + 1))) 31 (8 * e + nw) x) 32 (8 * e + nw) b) 33 (8 * e + nw) (M 54 24)) 35 (8 * e + nw) 0) 36 (8 * e + nw) cl) 37 (8 * e + nw) tr) 55 24 34 (8 * e + nw) 8
theorem ms_at' (M : xm) (k i j : Nat) (v : Int32) : xm_s M k i v k j = if j = i then v else M k j := by
  rw [ms_get]
  by_cases z : j = i
  · rw [if_pos ⟨rfl, z⟩, if_pos z]
  · rw [if_neg (fun y => z y.2), if_neg z]
/-- a record is put on its way behind the others -/
theorem st_w {e ma nw y a : Nat} {x b : Int32} (h : iA B fz V E P (fun _ => 0) c R n K M) (e1 : 1 ≤ e) (e9 : e ≤ 9) (he : xk_ar K (5 + B) e = some ma) (hn : M 30 e = nI nw) (hlt : nw < 8) (ky : xk_kd K y = 7 + 1)
    (hf : ∀ d md k j z, 1 ≤ d → d ≤ 9 → xk_ar K (5 + B) d = some md → M 30 d = nI k → k ≤ 8 → j < k → xk_ar K (md + 3) j = some z → z ≠ y) (hc : ∃ i : Nat, i < 3 ∧ xk_iv K 7 1 y = nI i) (h3 : xk_iv K 7 3 y = 0) (hr : xk_rv K 7 0 y = some a) (hen : en K fz V a x b (M 54 24) (fun z => M 55 (192 + z))) :
    iA B fz V E P (fun _ => 0) c R n (xk_sI (xk_tR K (ma + 3) nw (some y)) 8 11 ma (nI (nw + 1))) (ws_M M e nw x b (xk_iv K 7 1 y) (xk_iv K 7 2 y)) := by
  have hE := le_E h e1 e9 he
  obtain ⟨x0, o0, c0, l0, t0, u0, b0, L0, T0, U0, m0, q0, y0, dq, dy, s0, g0, ⟨p1, p2, p3, p4, p5, p6⟩, n0⟩ := id h
  have k3 : xk_kd K (ma + 3) = 110 := (jM_at m0 e1 e9 he).2.2.2.2.2.2.2.2.2.2.2.2.2.2.2.2.2.1
  have kn : ∀ z, z ≠ 110 → xk_kd K (ma + 3) ≠ z := fun z hz => by rw [k3]; exact fun q => hz q.symm
  obtain ⟨w1, w2, w3, w4, w5, w6, w7, w8, w9, w10, w11, w12, w13, w14⟩ := wa_all (b0 := ma + 3) (α := xk_ar (xk_tR K (ma + 3) nw (some y))) h (fun b j hb => by rw [tR_get, if_neg (fun z => hb z.1)])
  have a5 : ∀ d, xk_ar (xk_tR K (ma + 3) nw (some y)) (5 + B) d = xk_ar K (5 + B) d := fun d => by rw [tR_get, if_neg (fun z => kn 106 (by decide) (by rw [← z.1]; exact m0.1))]
  generalize hcl : xk_iv K 7 1 y = cl at hc
  generalize htr : xk_iv K 7 2 y = tr
  have g0' : ∀ d, ws_M M e nw x b cl tr 30 d = if d = e then nI (nw + 1) else M 30 d := fun d => ms_at' M 30 e d _
  have g1 : ∀ z, ws_M M e nw x b cl tr 31 z = if z = 8 * e + nw then x else M 31 z := fun z => ms_at' _ 31 _ z _
  have g2 : ∀ z, ws_M M e nw x b cl tr 32 z = if z = 8 * e + nw then b else M 32 z := fun z => ms_at' _ 32 _ z _
  have g3 : ∀ z, ws_M M e nw x b cl tr 33 z = if z = 8 * e + nw then M 54 24 else M 33 z := fun z => ms_at' _ 33 _ z _
  have g5 : ∀ z, ws_M M e nw x b cl tr 35 z = if z = 8 * e + nw then 0 else M 35 z := fun z => ms_at' _ 35 _ z _
  have g6 : ∀ z, ws_M M e nw x b cl tr 36 z = if z = 8 * e + nw then cl else M 36 z := fun z => ms_at' _ 36 _ z _
  have g7 : ∀ z, ws_M M e nw x b cl tr 37 z = if z = 8 * e + nw then tr else M 37 z := fun z => ms_at' _ 37 _ z _
  have g4 : ∀ z, ws_M M e nw x b cl tr 34 z = if 8 * (8 * e + nw) ≤ z ∧ z < 8 * (8 * e + nw) + 8 then M 55 (192 + (z - 8 * (8 * e + nw))) else M 34 z := fun z => by
    unfold ws_M
    rw [cb_get]
    by_cases q : 8 * (8 * e + nw) ≤ z ∧ z < 8 * (8 * e + nw) + 8
    · rw [if_pos ⟨rfl, q⟩, if_pos q]; rfl
    · rw [if_neg (fun y => q y.2), if_neg q]; rfl
  refine ⟨w11, w12, w1 (kn _ (by decide)), w2 (kn _ (by decide)), w3 (kn _ (by decide)), w4 (kn _ (by decide)), b0, w5 (kn _ (by decide)), w6 (kn _ (by decide)), w13, w7 (kn _ (by decide)), (w8 (kn _ (by decide)) (kn _ (by decide))).1, fun d md d1 d9 hd => ?_, (w8 (kn _ (by decide)) (kn _ (by decide))).2, ?_, w10 (kn _ (by decide)), w14, ⟨p1, p2, p3, p4, fun d d1 d9 => ?_, p6⟩, n0⟩
  · have hd' : xk_ar K (5 + B) d = some md := (a5 d).symm.trans hd
    have hi := ma_iff m0 e1 e9 d1 d9 he hd'
    obtain ⟨n1, z1, z2, z3, z4⟩ := y0 d md d1 d9 hd'
    have keep : ∀ i, i < n1 → (d = e → i < nw) → ∃ y', xk_ar (xk_tR K (ma + 3) nw (some y)) (md + 3) i = some y' ∧ xk_kd K y' = 7 + 1 ∧ xk_iv K 7 1 y' = ws_M M e nw x b cl tr 36 (8 * d + i) ∧ xk_iv K 7 2 y' = ws_M M e nw x b cl tr 37 (8 * d + i) ∧ xk_iv K 7 3 y' = ws_M M e nw x b cl tr 35 (8 * d + i) ∧ (∃ c' : Nat, c' < 3 ∧ ws_M M e nw x b cl tr 36 (8 * d + i) = nI c') ∧ (∀ b', b' < 32 → bt (ws_M M e nw x b cl tr 35 (8 * d + i)) b' = true → bt (M 18 d) b' = true) ∧ ∃ a', xk_rv K 7 0 y' = some a' ∧ en K fz V a' (ws_M M e nw x b cl tr 31 (8 * d + i)) (ws_M M e nw x b cl tr 32 (8 * d + i)) (ws_M M e nw x b cl tr 33 (8 * d + i)) (fun z => ws_M M e nw x b cl tr 34 (8 * (8 * d + i) + z)) := fun i hi1 hi2 => by
      obtain ⟨y', y1, y2, y3, y4, y5, y6, y7, a', y8, y9⟩ := z4 i hi1
      have z1' : n1 ≤ 8 := z1
      have hne : 8 * d + i ≠ 8 * e + nw := by omega
      have hne2 : ¬ (md + 3 = ma + 3 ∧ i = nw) := fun z => by have := hi.mp (by omega); omega
      rw [g1, g2, g3, g5, g6, g7, if_neg hne, if_neg hne, if_neg hne, if_neg hne, if_neg hne, if_neg hne, tR_get, if_neg hne2]
      refine ⟨y', y1, y2, y3, y4, y5, y6, y7, a', y8, en_cg y9 (fun z hz => ?_)⟩
      rw [g4, if_neg (by omega)]
    by_cases z : d = e
    · subst z
      rw [he] at hd'
      cases hd'
      have : n1 = nw := (nI_eq (by have : n1 ≤ 8 := z1
                                   omega) (by omega)).mp (z2.symm.trans hn)
      subst this
      refine ⟨n1 + 1, by show n1 + 1 ≤ 8; omega, by rw [g0', if_pos rfl], sI_at _ _ _ _ _, fun i hi1 => ?_⟩
      by_cases hi2 : i = n1
      · subst hi2
        refine ⟨y, ?_, ky, ?_, ?_, ?_, ?_, ?_, a, hr, ?_⟩
        · show xk_ar (xk_tR K (ma + 3) i (some y)) (ma + 3) i = some y
          rw [tR_get, if_pos ⟨rfl, rfl⟩]
        · rw [g6, if_pos rfl]; exact hcl
        · rw [g7, if_pos rfl]; exact htr
        · rw [g5, if_pos rfl]; exact h3
        · rw [g6, if_pos rfl]; exact hc
        · rw [g5, if_pos rfl]
          intro b' _ hb
          rw [b_0] at hb
          cases hb
        · rw [g1, if_pos rfl, g2, if_pos rfl, g3, if_pos rfl]
          refine en_cg (K := K) (by exact hen) (fun z hz => ?_)
          rw [g4, if_pos (by omega), Nat.add_sub_cancel_left]
      · exact keep i (by omega) (fun _ => by omega)
    · refine ⟨n1, z1, by rw [g0', if_neg z]; exact z2, ?_, fun i hi1 => keep i hi1 (fun z' => absurd z' z)⟩
      rw [sI_ne (fun z' => z (hi.mp z'))]
      exact z3
  · intro d1 d2 md me n1 n2 i j a' x1 x2 x3 x4 x5 x6 x7 x8 x9 x10 x11 x12 x13 x14
    have x5' : xk_ar K (5 + B) d1 = some md := (a5 d1).symm.trans x5
    have x6' : xk_ar K (5 + B) d2 = some me := (a5 d2).symm.trans x6
    have hi1 := ma_iff m0 e1 e9 x1 x2 he x5'
    have hi2 := ma_iff m0 e1 e9 x3 x4 he x6'
    have x13' : (if md + 3 = ma + 3 ∧ i = nw then some y else xk_ar K (md + 3) i) = some a' := x13
    have x14' : (if me + 3 = ma + 3 ∧ j = nw then some y else xk_ar K (me + 3) j) = some a' := x14
    rw [g0'] at x7 x9
    have c1 : ∀ {d md' k : Nat}, (md' = ma ↔ d = e) → (if d = e then nI (nw + 1) else M 30 d) = nI k → k ≤ 8 → ∀ {x : Nat}, x < k → ¬ (md' + 3 = ma + 3 ∧ x = nw) → ∃ k', M 30 d = nI k' ∧ k' ≤ 8 ∧ x < k' := fun {d md' k} hi hk hk8 {x} hx hz => by
      by_cases z : d = e
      · rw [if_pos z] at hk
        have : k = nw + 1 := (nI_eq (by omega) (by omega)).mp hk.symm
        refine ⟨nw, by rw [z]; exact hn, by omega, ?_⟩
        have : x ≠ nw := fun z' => hz ⟨by have := hi.mpr z; omega, z'⟩
        omega
      · rw [if_neg z] at hk
        exact ⟨k, hk, hk8, hx⟩
    by_cases z1 : md + 3 = ma + 3 ∧ i = nw
    · rw [if_pos z1] at x13'
      cases x13'
      by_cases z2 : me + 3 = ma + 3 ∧ j = nw
      · have h1 := hi1.mp (by omega)
        have h2 := hi2.mp (by omega)
        exact ⟨by omega, by omega⟩
      · rw [if_neg z2] at x14'
        obtain ⟨k', k1, k2', k3'⟩ := c1 hi2 x9 x10 x12 z2
        exact absurd rfl (hf d2 me k' j y x3 x4 x6' k1 k2' k3' x14')
    · rw [if_neg z1] at x13'
      obtain ⟨k', k1, k2', k3'⟩ := c1 hi1 x7 x8 x11 z1
      by_cases z2 : me + 3 = ma + 3 ∧ j = nw
      · rw [if_pos z2] at x14'
        cases x14'
        exact absurd rfl (hf d1 md k' i y x1 x2 x5' k1 k2' k3' x13')
      · rw [if_neg z2] at x14'
        obtain ⟨k2'', k21, k22, k23⟩ := c1 hi2 x9 x10 x12 z2
        exact dy d1 d2 md me k' k2'' i j a' x1 x2 x3 x4 x5' x6' k1 k2' k21 k22 k3' k23 x13' x14'
  · obtain ⟨z1, z2, z3, z4⟩ := p5 d d1 d9
    refine ⟨z1, z2, z3, ?_⟩
    rw [g0', if_neg (by omega)]
    exact z4
-- the resolvers
/-- the latest write of a key -/
theorem st_lw {e ma k : Nat} {v : Int32} {D : Nat → Nat} (h : iA B fz V E P D c R n K M) (e1 : 1 ≤ e) (e9 : e ≤ 9) (he : xk_ar K (5 + B) e = some ma) (hk : k < 8) : iA B fz V E P D c R n (xk_tI K (ma + 1) k v) (xm_s M 23 (8 * e + k) v) := by
  obtain ⟨x0, o0, c0, l0, t0, u0, b0, L0, T0, U0, m0, q0, y0, dq, dy, s0, g0, e0, n0⟩ := id h
  have km := (jM_at m0 e1 e9 he).2.1
  have ai : ∀ b j, b ≠ ma + 1 → xk_ai (xk_tI K (ma + 1) k v) b j = xk_ai K b j := fun b j hb => by rw [tI_get, if_neg (fun z => hb z.1)]
  have hwr : ∀ w m f, wr K w m f → wr (xk_tI K (ma + 1) k v) w m f := fun w m f ⟨r1, r2, r3, r4, r5, r6⟩ => by
    refine ⟨r1, r2, r3, r4, r5, fun x hx hb => ?_⟩
    rw [ai _ _ (fun z => by rw [show w = ma by omega] at r1; omega)]
    exact r6 x hx hb
  have hen : ∀ {a : Nat} {x b m : Int32} {f : Nat → Int32}, en K fz V a x b m f → en (xk_tI K (ma + 1) k v) fz V a x b m f := fun ⟨a1, a2, a3, a4, w, a5, a6, a7⟩ => ⟨a1, a2, a3, a4, w, a5, a6, hwr _ _ _ a7⟩
  have hmv : ∀ {f : Nat → Int32} {g : Nat → Option Nat} {h' ct : Nat → Int32}, mv K M fz V E f g h' ct → mv (xk_tI K (ma + 1) k v) M fz V E f g h' ct := fun H => mv_fr (K := K) (K' := xk_tI K (ma + 1) k v) (fun _ _ => ⟨rfl, rfl, fun _ _ _ => rfl, fun _ _ _ => rfl, fun _ => rfl⟩) (fun w m f _ hw => hwr w m f hw) (fun _ z _ => z) (fun _ z => z) H
  refine ⟨x0, o0, c0, l0, t0, u0, b0, fun i hi => ?_, fun i hi => ?_, ⟨fun i hi => ?_, U0.2⟩, ⟨m0.1, m0.2.1, fun d d1 d9 => ?_⟩, q0, fun d md d1 d9 hd => ?_, dq, dy, s0, ⟨g0.1, fun j hj => ?_⟩, e0, n0⟩
  · obtain ⟨z1, z2, z3, z4, z5, z6, z7, nn, z8, z9, z10⟩ := L0 i hi
    refine ⟨z1, z2, z3, z4, fun x hx => ?_, z6, z7, nn, z8, z9, fun j hj => ?_⟩
    · rw [ai _ _ (fun z => by
        have h1 := (l0.2.2 i hi).2.1
        rw [show 37 + 3 * i + B = ma by omega] at h1
        omega)]
      exact z5 x hx
    · obtain ⟨a, b, y1, y2⟩ := z10 j hj
      exact ⟨a, b, y1, hen y2⟩
  · obtain ⟨z1, z2, z3, z4, nn, z5, z6, z7, z8, z9⟩ := T0 i hi
    refine ⟨z1, z2, z3, z4, nn, z5, z6, z7, fun j hj => ?_, z9⟩
    obtain ⟨a, b, m, y1, y2, y3⟩ := z8 j hj
    exact ⟨a, b, m, y1, y2, hen y3⟩
  · obtain ⟨w, w1, w2, w3⟩ := U0.1 i hi
    exact ⟨w, w1, hwr _ _ _ w2, w3⟩
  · refine (m0.2.2 d d1 d9).imp id (fun ⟨z, md, a1, a2⟩ => ⟨z, md, a1, ?_⟩)
    have hi := ma_iff m0 e1 e9 d1 d9 he a1
    obtain ⟨k1, k2, k3, k4, k5, k6, k7, k8, k9, k10, k11, k12, k13, k14, k15, k16, k17, k18⟩ := a2
    refine ⟨k1, k2, k3, k4, k5, k6, k7, k8, k9, k10, k11, fun j hj => ?_, k13, k14, k15, k16, k17, k18⟩
    rw [tI_get, ms_get]
    by_cases z2 : d = e ∧ j = k
    · rw [if_pos ⟨by have := hi.mpr z2.1; omega, z2.2⟩, if_pos ⟨rfl, by omega⟩]
    · rw [if_neg (fun y => z2 ⟨hi.mp (by omega), y.2⟩), if_neg (fun y => z2 (by omega))]
      exact k12 j hj
  · obtain ⟨n1, z1, z2, z3, z4⟩ := y0 d md d1 d9 hd
    refine ⟨n1, z1, z2, z3, fun i hi => ?_⟩
    obtain ⟨y, y1, y2, y3, y4, y5, y6, y7, a, y8, y9⟩ := z4 i hi
    exact ⟨y, y1, y2, y3, y4, y5, y6, y7, a, y8, hen y9⟩
  · exact hmv (g0.2 j hj)
end
section
variable {B : Nat} {fz : Nat → Prop} {V : List Int32} {E P : Nat} {c : Nat} {R : Nat → Nat} {n : Nat} {K : xk} {M : xm}
def an (H : Nat → Bool) : Nat → Nat → Bool
  | _, 0 => false
  | k, d + 1 => H k || an H (k + 1) d
/-- a noted key that was written behind the transaction's read version -/
def cf (M : xm) (e k : Nat) : Bool := bt (M 53 24) k && !decide (M 23 (8 * e + k) ≤ M 51 24)
theorem fc_loop {e ma r : Nat} (hr : r < 2) (kr : xk_kd K (R 24) = 4 + 1) (n7 : xk_iv K 4 7 (R 24) = M 53 24) (n3 : xk_iv K 4 3 (R 24) = M 51 24) (hm : jMa K M e ma) : ∀ (d k m : Nat), k + d = (r + 1) * 4 → d < m →
    kf_Master_findsConflict_4 m K ma (nI r) (R 24) (nI k) = some (if an (cf M e) k d = true then 1 else 0, K) := by
  obtain ⟨k1, k2, k3, k4, k5, k6, k7, k8, k9, k10, k11, k12, -⟩ := hm
  have h4 : (nI r + 1) * 4 = nI ((r + 1) * 4) := by
    rw [nI_1]
    exact pk_mul (r + 1) 4
  intro d
  induction d with
  | zero =>
    intro k m hk hm
    obtain ⟨m, rfl⟩ : ∃ m', m = m' + 1 := ⟨m - 1, by omega⟩
    show kb_Master_findsConflict_4 (kf_Master_findsConflict_4 m) K ma (nI r) (R 24) (nI k) = _
    unfold kb_Master_findsConflict_4
    rw [h4, if_pos (nI_le (by omega) (by omega))]
    rfl
  | succ d ih =>
    intro k m hk hm
    obtain ⟨m, rfl⟩ : ∃ m', m = m' + 1 := ⟨m - 1, by omega⟩
    show kb_Master_findsConflict_4 (kf_Master_findsConflict_4 m) K ma (nI r) (R 24) (nI k) = some (if (cf M e k || an (cf M e) (k + 1) d) = true then 1 else 0, K)
    unfold kb_Master_findsConflict_4 kf_Master_findsConflict_42
    have ih' := ih (k + 1) m (by omega) (by omega)
    rw [h4, if_neg (nI_ge (by omega) (by omega)), xI_at kr n7, xb_some, nI_1]
    unfold cf at *
    cases hb : bt (M 53 24) k
    · rw [if_pos ((bi_c _ (by omega)).mpr hb), ih']
      rfl
    · rw [if_neg (fun z => by rw [(bi_c _ (by omega)).mp z] at hb; cases hb), xR_at k1 k9, xb_some, xb_some, xIa_ok k10 k11 (by omega) (by decide), xb_some, k12 k (by omega), xI_at kr n3, xb_some]
      by_cases hl : M 23 (8 * e + k) ≤ M 51 24
      · rw [if_pos hl, ih', decide_eq_true hl]
        rfl
      · rw [if_neg hl, decide_eq_false hl]
        rfl
theorem fr_loop {e : Nat} {keys : Int32} (e9 : e ≤ 9) : ∀ (d k m : Nat) (z : Bool), k + d = 8 → d < m →
    kf_EM_finds_6 m M (nI e) keys (M 51 24) (if z = true then 1 else 0) (nI k) = kf_EM_finds_67 1000 M (nI e) keys (if (z || an (fun j => bt keys j && cf M e j) k d) = true then 1 else 0) 0 := by
  have m53 : xMi M 53 24 = some (M 53 24) := xMi_ok (i := 24) (by decide) (by decide)
  intro d
  induction d with
  | zero =>
    intro k m z hk hm
    obtain ⟨m, rfl⟩ : ∃ m', m = m' + 1 := ⟨m - 1, by omega⟩
    have : k = 8 := by omega
    subst this
    show kb_EM_finds_6 (kf_EM_finds_6 m) M (nI e) keys (M 51 24) (if z = true then 1 else 0) (nI 8) = _
    unfold kb_EM_finds_6
    rw [if_pos (show (8 : Int32) ≤ nI 8 from nI_le (a := 8) (b := 8) (Nat.le_refl _) (by decide))]
    cases z <;> rfl
  | succ d ih =>
    intro k m z hk hm
    obtain ⟨m, rfl⟩ : ∃ m', m = m' + 1 := ⟨m - 1, by omega⟩
    show kb_EM_finds_6 (kf_EM_finds_6 m) M (nI e) keys (M 51 24) (if z = true then 1 else 0) (nI k) = kf_EM_finds_67 1000 M (nI e) keys (if (z || ((bt keys k && cf M e k) || an (fun j => bt keys j && cf M e j) (k + 1) d)) = true then 1 else 0) 0
    unfold kb_EM_finds_6 kf_EM_finds_51
    have m23 : xMi M 23 (nI (8 * e + k)) = some (M 23 (8 * e + k)) := xMi_ok (by show 8 * e + k < 80; omega) (by decide)
    have ihF := ih (k + 1) m false (by omega) (by omega)
    have ihT := ih (k + 1) m true (by omega) (by omega)
    simp only [Bool.false_or, if_false, Bool.true_or, if_true, Bool.false_eq_true] at ihF ihT
    rw [if_neg (show ¬ (8 : Int32) ≤ nI k from nI_ge (a := k) (b := 8) (by omega) (by decide)), nI_1]
    cases z
    · rw [if_pos (by decide), m53, xb_some]
      cases hb : (bt keys k && bt (M 53 24) k)
      · rw [if_pos ((bi_c _ (by omega)).mpr (by rw [b_and]; exact hb)), ihF]
        have : (bt keys k && cf M e k) = false := by
          unfold cf
          rw [← Bool.and_assoc, hb]
          rfl
        rw [this]
        rfl
      · rw [if_neg (fun y => by
          have := (bi_c _ (by omega)).mp y
          rw [b_and, hb] at this
          cases this), ix_8, m23, xb_some]
        by_cases hl : M 23 (8 * e + k) ≤ M 51 24
        · have : (bt keys k && cf M e k) = false := by
            unfold cf
            rw [← Bool.and_assoc, hb, decide_eq_true hl]
            rfl
          rw [if_pos hl, ihF, this]
          rfl
        · have : (bt keys k && cf M e k) = true := by
            unfold cf
            rw [← Bool.and_assoc, hb, decide_eq_false hl]
            rfl
          rw [if_neg hl, ihT, this]
          rfl
    · rw [if_neg (show ¬ (if true = true then (1 : Int32) else 0) = 0 by decide), ihT]
      rfl
def gM (e : Nat) (keys : Int32) : xm → Nat → Nat → xm
  | M, _, 0 => M
  | M, k, d + 1 => gM e keys (if (bt keys k && bt (M 54 24) k) = true then xm_s M 23 (8 * e + k) (M 20 e) else M) (k + 1) d
def lM (e : Nat) : xm → Nat → Nat → xm
  | M, _, 0 => M
  | M, k, d + 1 => lM e (if bt (M 54 24) k = true then xm_s M 23 (8 * e + k) (M 20 e) else M) (k + 1) d
theorem fl_loop {e : Nat} {keys : Int32} (e9 : e ≤ 9) : ∀ (d k m : Nat) (M : xm), k + d = 8 → d < m → kf_EM_finds_67 m M (nI e) keys 0 (nI k) = some (0, gM e keys M k d) := by
  intro d
  induction d with
  | zero =>
    intro k m M hk hm
    obtain ⟨m, rfl⟩ : ∃ m', m = m' + 1 := ⟨m - 1, by omega⟩
    have : k = 8 := by omega
    subst this
    show kb_EM_finds_67 (kf_EM_finds_67 m) M (nI e) keys 0 (nI 8) = _
    unfold kb_EM_finds_67
    rw [if_pos (show (8 : Int32) ≤ nI 8 from nI_le (a := 8) (b := 8) (Nat.le_refl _) (by decide)), xZ_ok (Or.inl rfl), xb_some]
    rfl
  | succ d ih =>
    intro k m M hk hm
    obtain ⟨m, rfl⟩ : ∃ m', m = m' + 1 := ⟨m - 1, by omega⟩
    show kb_EM_finds_67 (kf_EM_finds_67 m) M (nI e) keys 0 (nI k) = some (0, gM e keys (if (bt keys k && bt (M 54 24) k) = true then xm_s M 23 (8 * e + k) (M 20 e) else M) (k + 1) d)
    unfold kb_EM_finds_67 kf_EM_finds_114
    have m54 : xMi M 54 24 = some (M 54 24) := xMi_ok (i := 24) (by decide) (by decide)
    rw [if_neg (show ¬ (8 : Int32) ≤ nI k from nI_ge (a := k) (b := 8) (by omega) (by decide)), if_pos rfl, m54, xb_some, nI_1]
    cases hb : (bt keys k && bt (M 54 24) k)
    · rw [if_pos ((bi_c _ (by omega)).mpr (by rw [b_and]; exact hb))]
      exact ih (k + 1) m M (by omega) (by omega)
    · rw [if_neg (fun y => by
        have := (bi_c _ (by omega)).mp y
        rw [b_and, hb] at this
        cases this), xMi_ok (by show e < 10; omega) (by decide), xb_some, ix_8, xMt_ok (by show 8 * e + k < 80; omega) (by decide), xb_some]
      exact ih (k + 1) m _ (by omega) (by omega)
theorem k15 : bt 15 0 = true ∧ bt 15 1 = true ∧ bt 15 2 = true ∧ bt 15 3 = true ∧ bt 15 4 = false ∧ bt 15 5 = false ∧ bt 15 6 = false ∧ bt 15 7 = false := by decide +kernel
theorem k240 : bt 240 0 = false ∧ bt 240 1 = false ∧ bt 240 2 = false ∧ bt 240 3 = false ∧ bt 240 4 = true ∧ bt 240 5 = true ∧ bt 240 6 = true ∧ bt 240 7 = true := by decide +kernel
theorem gM_15 (e : Nat) (M : xm) : gM e 15 M 0 8 = lM e M 0 4 := by
  obtain ⟨h0, h1, h2, h3, h4, h5, h6, h7⟩ := k15
  simp only [gM, lM, h0, h1, h2, h3, h4, h5, h6, h7, Bool.true_and, Bool.false_and, Bool.false_eq_true, if_false, Nat.zero_add, Nat.reduceAdd]
theorem gM_240 (e : Nat) (M : xm) : gM e 240 M 0 8 = lM e M 4 4 := by
  obtain ⟨h0, h1, h2, h3, h4, h5, h6, h7⟩ := k240
  simp only [gM, lM, h0, h1, h2, h3, h4, h5, h6, h7, Bool.true_and, Bool.false_and, Bool.false_eq_true, if_false, Nat.zero_add, Nat.reduceAdd]
theorem an_15 (H : Nat → Bool) : an (fun j => bt 15 j && H j) 0 8 = an H 0 4 := by
  obtain ⟨h0, h1, h2, h3, h4, h5, h6, h7⟩ := k15
  simp only [an, h0, h1, h2, h3, h4, h5, h6, h7, Bool.true_and, Bool.false_and, Bool.or_false, Nat.zero_add, Nat.reduceAdd]
theorem an_240 (H : Nat → Bool) : an (fun j => bt 240 j && H j) 0 8 = an H 4 4 := by
  obtain ⟨h0, h1, h2, h3, h4, h5, h6, h7⟩ := k240
  simp only [an, h0, h1, h2, h3, h4, h5, h6, h7, Bool.true_and, Bool.false_and, Bool.false_or, Bool.or_false, Nat.zero_add, Nat.reduceAdd]
/-- only int arrays have changed -/
def sa (K K' : xk) : Prop := xk_kd K' = xk_kd K ∧ xk_ln K' = xk_ln K ∧ xk_iv K' = xk_iv K ∧ xk_rv K' = xk_rv K ∧ xk_ar K' = xk_ar K ∧ xk_nx K' = xk_nx K
theorem lM_ne (e : Nat) {f : Nat} (hf : f ≠ 23) : ∀ (d k : Nat) (M : xm), lM e M k d f = M f := by
  intro d
  induction d with
  | zero => intro k M; rfl
  | succ d ih =>
    intro k M
    show lM e (if bt (M 54 24) k = true then xm_s M 23 (8 * e + k) (M 20 e) else M) (k + 1) d f = M f
    rw [ih]
    split
    · funext j
      rw [ms_get, if_neg (fun z => hf z.1)]
    · rfl
theorem lw_wr {ma k w : Nat} {v m : Int32} {f : Nat → Int32} (km : xk_kd K ma = 8 + 1) (h : wr K w m f) : wr (xk_tI K (ma + 1) k v) w m f := by
  obtain ⟨r1, r2, r3, r4, r5, r6⟩ := h
  refine ⟨r1, r2, r3, r4, r5, fun x hx hb => ?_⟩
  rw [tI_get, if_neg (fun z => by
    rw [show w = ma by omega] at r1
    omega)]
  exact r6 x hx hb
theorem lp_pass {e ma r w : Nat} (hr : r < 2) (e1 : 1 ≤ e) (e9 : e ≤ 9) : ∀ (d k m : Nat) (K : xk) (M : xm), k + d = (r + 1) * 4 → d < m → iA B fz V E P (fun _ => 0) c R n K M → xk_ar K (5 + B) e = some ma → xk_kd K w = 2 + 1 → xk_iv K 2 0 w = M 54 24 →
    ∃ K', kf_Master_letPass_4 m K ma (nI r) w (nI k) = some K' ∧ iA B fz V E P (fun _ => 0) c R n K' (lM e M k d) ∧ sa K K' ∧ ∀ w m f, wr K w m f → wr K' w m f := by
  have h4 : (nI r + 1) * 4 = nI ((r + 1) * 4) := by
    rw [nI_1]
    exact pk_mul (r + 1) 4
  intro d
  induction d with
  | zero =>
    intro k m K M hk hm h he w1 w2
    obtain ⟨m, rfl⟩ : ∃ m', m = m' + 1 := ⟨m - 1, by omega⟩
    refine ⟨K, ?_, h, ⟨rfl, rfl, rfl, rfl, rfl, rfl⟩, fun _ _ _ z => z⟩
    show kb_Master_letPass_4 (kf_Master_letPass_4 m) K ma (nI r) w (nI k) = _
    unfold kb_Master_letPass_4
    rw [h4, if_pos (nI_le (by omega) (by omega))]
  | succ d ih =>
    intro k m K M hk hm h he w1 w2
    obtain ⟨m, rfl⟩ : ∃ m', m = m' + 1 := ⟨m - 1, by omega⟩
    obtain ⟨x0, o0, c0, l0, t0, u0, b0, L0, T0, U0, m0, q0, y0, dq, dy, s0, g0, e0, n0⟩ := id h
    obtain ⟨k1, k2, k3, k4, k5, k6, k7, k8, k9, k10, k11, k12, -⟩ := (jM_at m0 e1 e9 he).2
    show ∃ K', kb_Master_letPass_4 (kf_Master_letPass_4 m) K ma (nI r) w (nI k) = some K' ∧ iA B fz V E P (fun _ => 0) c R n K' (lM e (if bt (M 54 24) k = true then xm_s M 23 (8 * e + k) (M 20 e) else M) (k + 1) d) ∧ sa K K' ∧ ∀ w m f, wr K w m f → wr K' w m f
    unfold kb_Master_letPass_4 kf_Writes_has_0
    rw [h4, if_neg (nI_ge (by omega) (by omega)), xO_ok w1, xb_some, xI_at w1 w2, xb_some, nI_1]
    cases hb : bt (M 54 24) k
    · rw [if_pos ((bi_c _ (by omega)).mpr hb), xp_some, if_pos rfl]
      exact ih (k + 1) m K M (by omega) (by omega) h he w1 w2
    · rw [if_neg (fun z => by rw [(bi_c _ (by omega)).mp z] at hb; cases hb), xp_some, if_neg (by decide), xR_at k1 k9, xb_some, xI_at k1 k5, xb_some, xb_some, xIt_ok k10 k11 (by omega) (by decide), xb_some]
      have hB := st_lw (k := k) (v := M 20 e) h e1 e9 he (by omega)
      obtain ⟨K', p1, p2, p3, p4⟩ := ih (k + 1) m _ _ (by omega) (by omega) hB he w1 w2
      exact ⟨K', p1, p2, p3, fun w m f hw => p4 w m f (lw_wr k1 hw)⟩
theorem lp_res {e ma r w : Nat} {keys : Int32} (hr : r = 0 ∧ keys = 15 ∨ r = 1 ∧ keys = 240) (e1 : 1 ≤ e) (e9 : e ≤ 9) (h : iA B fz V E P (fun _ => 0) c R n K M) (he : xk_ar K (5 + B) e = some ma) (w1 : xk_kd K w = 2 + 1) (w2 : xk_iv K 2 0 w = M 54 24) (n7 : xk_iv K 4 7 (R 24) = M 53 24) (n3 : xk_iv K 4 3 (R 24) = M 51 24) :
    ∃ (z : Bool) (K' : xk) (M' : xm), kf_Master_findsConflict_0 K ma (nI r) (R 24) = some (if z = true then 1 else 0, K) ∧ kf_EM_finds_0 M (nI e) keys (M 51 24) = some (if z = true then 1 else 0, M') ∧ (z = true → K' = K) ∧ (z = false → kf_Master_letPass_0 K ma (nI r) w = some K') ∧ iA B fz V E P (fun _ => 0) c R n K' M' ∧ sa K K' ∧ (∀ f, f ≠ 23 → M' f = M f) ∧ ∀ w m f, wr K w m f → wr K' w m f := by
  have hr2 : r < 2 := by omega
  obtain ⟨x0, o0, c0, l0, t0, u0, b0, L0, T0, U0, m0, q0, y0, dq, dy, s0, g0, e0, n0⟩ := id h
  have hm := (jM_at m0 e1 e9 he).2
  have kr := r24 h
  have i4 : nI r * 4 = nI (4 * r) := by rw [Nat.mul_comm]; exact pk_mul r 4
  have F1 := fc_loop hr2 kr n7 n3 hm 4 (4 * r) 1000 (by omega) (by omega)
  have F2 := fr_loop (M := M) (keys := keys) e9 8 0 1000 false (by omega) (by omega)
  have an_eq : an (fun j => bt keys j && cf M e j) 0 8 = an (cf M e) (4 * r) 4 := by
    rcases hr with ⟨rfl, rfl⟩ | ⟨rfl, rfl⟩
    · exact an_15 _
    · exact an_240 _
  have gM_eq : gM e keys M 0 8 = lM e M (4 * r) 4 := by
    rcases hr with ⟨rfl, rfl⟩ | ⟨rfl, rfl⟩
    · exact gM_15 _ _
    · exact gM_240 _ _
  rw [an_eq] at F2
  have F2' : kf_EM_finds_6 1000 M (nI e) keys (M 51 24) 0 0 = kf_EM_finds_67 1000 M (nI e) keys (if (false || an (cf M e) (4 * r) 4) = true then 1 else 0) 0 := F2
  unfold kf_Master_findsConflict_0 kf_EM_finds_0 kf_Master_letPass_0
  rw [i4, F1, F2', Bool.false_or]
  cases hz : an (cf M e) (4 * r) 4
  · obtain ⟨K', p1, p2, p3, p4⟩ := lp_pass (w := w) hr2 e1 e9 4 (4 * r) 1000 K M (by omega) (by omega) h he w1 w2
    refine ⟨false, K', lM e M (4 * r) 4, rfl, ?_, fun z => (by cases z), fun _ => p1, p2, p3, fun f hf => lM_ne e hf _ _ _, p4⟩
    have := fl_loop (e := e) (keys := keys) e9 8 0 1000 M (by omega) (by omega)
    rw [gM_eq] at this
    exact this
  · refine ⟨true, K, M, rfl, ?_, fun _ => rfl, fun z => (by cases z), h, ⟨rfl, rfl, rfl, rfl, rfl, rfl⟩, fun _ _ => rfl, fun _ _ _ z => z⟩
    show kb_EM_finds_67 (kf_EM_finds_67 999) M (nI e) keys 1 0 = _
    unfold kb_EM_finds_67
    rw [if_neg (by decide), if_neg (by decide), xZ_ok (Or.inr rfl), xb_some]
    rfl
end
section
variable {B : Nat} {fz : Nat → Prop} {V : List Int32} {E P : Nat} {c : Nat} {R : Nat → Nat} {n : Nat} {K : xk} {M : xm}
theorem sd_res {e i ma : Nat} {D : Nat → Nat} {t : Int32} (ht : t = 5 ∨ t = 6) (h : iA B fz V E P D c R n K M) (e1 : 1 ≤ e) (e9 : e ≤ 9) (he : xk_ar K (5 + B) e = some ma) (hi : i < 3) (x : Int32) :
    ∃ a K' M' c', kf_Master_sendResult_0 K ma (nI i) x t (6 + B) = some (some a, K') ∧ kf_EM_result_0 M (nI i) (nI e) 0 x t = some M' ∧ iA B fz V E P D c' R n K' M' ∧ sf (R 24) K K' M M' := by
  obtain ⟨x0, o0, c0, l0, t0, u0, b0, L0, T0, U0, m0, q0, y0, dq, dy, s0, g0, e0, n0⟩ := id h
  obtain ⟨k1, k2, -⟩ := (jM_at m0 e1 e9 he).2
  obtain ⟨b, m', K1, M1, c', s1, s2, mlt, kb, hsf, hM1, hAp⟩ := sd_both h 8 (nI i) (nI e) 0 x
  unfold kf_Master_sendResult_0 kf_EM_result_0
  rw [xI_at k1 k2, xb_some, xO_ok s0.1, xb_some, s1, xp_some, xb_some, xIs_ok (by exact kb), xb_some, mg_sI, xIs_ok (by exact kb), xb_some, mg_sI, s2, xp_some, xMt_ok mlt (by decide), xb_some, mm_s _ _ _ _ (by omega)]
  refine ⟨_, _, _, c', rfl, rfl, hAp _ _ _ _ _ ?_ (Nat.le_refl _), hsf _ _ _ _⟩
  refine ⟨rfl, rfl, rfl, rfl, ⟨i, hi, rfl⟩, ⟨e, e1, e9, rfl⟩, Or.inr (Or.inr (Or.inr (Or.inr (Or.inr (Or.inr (Or.inr ⟨rfl, rfl, rfl, ?_⟩))))))⟩
  rcases ht with rfl | rfl
  · exact Or.inr (Or.inl ⟨rfl, rfl⟩)
  · exact Or.inr (Or.inr ⟨rfl, rfl⟩)
theorem jd_loop {N : xm} {e q : Nat} (e9 : e ≤ 9) (hq : q < 80) : ∀ (d x m : Nat), x + d = 8 → d < m → kf_EM_judge_190 m (cb_L N 55 24 34 q x) (nI e) (nI q) (nI x) = kf_EM_judge_239 (xm_s (cb_L N 55 24 34 q 8) 21 e (N 20 e)) (nI e) (nI q) := by
  intro d
  induction d with
  | zero =>
    intro x m hx hm
    obtain ⟨m, rfl⟩ : ∃ m', m = m' + 1 := ⟨m - 1, by omega⟩
    have : x = 8 := by omega
    subst this
    show kb_EM_judge_190 (kf_EM_judge_190 m) _ _ _ (nI 8) = _
    unfold kb_EM_judge_190
    have e20 : cb_L N 55 24 34 q 8 20 e = N 20 e := if_neg (fun z => by omega)
    rw [if_pos (show (8 : Int32) ≤ nI 8 from nI_le (a := 8) (b := 8) (Nat.le_refl _) (by decide)), xMi_at (by show e < 10; omega) (by decide) e20, xb_some, xMt_ok (by show e < 10; omega) (by decide), xb_some]
  | succ d ih =>
    intro x m hx hm
    obtain ⟨m, rfl⟩ : ∃ m', m = m' + 1 := ⟨m - 1, by omega⟩
    show kb_EM_judge_190 (kf_EM_judge_190 m) _ _ _ (nI x) = _
    unfold kb_EM_judge_190
    have e1 : (192 : Int32) + nI x = nI (8 * 24 + x) := nI_add 192 x
    rw [if_neg (show ¬ (8 : Int32) ≤ nI x from nI_ge (a := x) (b := 8) (by omega) (by decide)), e1, xMi_ok (by show 8 * 24 + x < 200; omega) (by decide), xb_some, ix_8, xMt_ok (by show 8 * q + x < 640; omega) (by decide), xb_some, nI_1, cb_src (by decide), cb_step]
    exact ih (x + 1) m (by omega) (by omega)
/-- a transaction that passed both resolvers is put on its way -/
theorem pt_way {e i ma w nw : Nat} (h : iA B fz V E P (fun _ => 0) c R n K M) (e1 : 1 ≤ e) (e9 : e ≤ 9) (he : xk_ar K (5 + B) e = some ma) (hi : i < 3) (hn : M 30 e = nI nw) (hlt : nw < 8) (v0 : xk_iv K 4 0 (R 24) = 5) (v1 : xk_iv K 4 1 (R 24) = nI i) (v4 : xk_iv K 4 4 (R 24) = M 52 24) (v8 : xk_rv K 4 8 (R 24) = some w) (hz : fz w) (hw : wr K w (M 54 24) (fun x => M 55 (192 + x))) :
    ∃ K' M', kf_Master_putOnWay_0 K ma (R 24) (6 + B) = some K' ∧ kf_EM_judge_78 M (nI i) (nI e) (M 52 24) 0 0 = some M' ∧ dn B (n + 5) (R 24) 5 K' M' := by
  obtain ⟨x0, o0, c0, l0, t0, u0, b0, L0, T0, U0, m0, q0, y0, dq, dy, s0, g0, e0, n0⟩ := id h
  have kr := r24 h
  obtain ⟨k1, k2, k3, k4, k5, k6, k7, k8, k9, k10, k11, k12, k13, k14, k15, k16, k17, k18⟩ := (jM_at m0 e1 e9 he).2
  obtain ⟨nw', z1, z2, z3, z4⟩ := y0 e ma e1 e9 he
  have : nw' = nw := (nI_eq (by have : nw' ≤ 8 := z1
                                omega) (by omega)).mp (z2.symm.trans hn)
  subst this
  have z3' : xk_iv K 8 11 ma = nI nw' := z3
  have q1k : xk_kd K (xk_nx K) = 0 := x0.2 _ (Nat.le_refl _)
  have q3k : xk_kd K (xk_nx K + 1) = 0 := x0.2 _ (Nat.le_succ _)
  have ag4 : ag K (xk_new (xk_new K 8 0) 4 0) := ag_tr (ag_new x0 8 0) (ag_new (iX_new x0 8 0) 4 0)
  have AG : ag K (xk_sI (xk_sI (xk_sR (xk_sR (xk_sI (xk_sI (xk_new (xk_new K 8 0) 4 0) 3 0 (xk_nx K + 1) (M 20 e)) 3 1 (xk_nx K + 1) (M 21 e)) 3 2 (xk_nx K + 1) (some w)) 7 0 (xk_nx K) (some (xk_nx K + 1))) 7 1 (xk_nx K) (nI i)) 7 2 (xk_nx K) (M 52 24)) :=
    ag_sI (ag_sI (ag_sR (ag_sR (ag_sI (ag_sI ag4 q3k _ _ _) q3k _ _ _) q3k _ _ _) q1k _ _ _) q1k _ _ _) q1k _ _ _
  have hB := iA_ag h AG (iX_new (iX_new x0 8 0) 4 0)
  have kd1 : xk_kd (xk_new (xk_new K 8 0) 4 0) (xk_nx K) = 7 + 1 := ((nw_at (xk_new K 8 0) 4 0 (a := xk_nx K) (by show xk_nx K ≠ xk_nx K + 1; omega)).1).trans (nw_kd K 8 0)
  have kd3 : xk_kd (xk_new (xk_new K 8 0) 4 0) (xk_nx K + 1) = 3 + 1 := nw_kd (xk_new K 8 0) 4 0
  have iv13 : xk_iv (xk_new (xk_new K 8 0) 4 0) 7 3 (xk_nx K) = 0 := ((nw_at (xk_new K 8 0) 4 0 (a := xk_nx K) (by show xk_nx K ≠ xk_nx K + 1; omega)).2.2.1 7 3).trans (nw_iv K 8 0 7 3)
  have am := ag4 ma (by rw [k1]; decide)
  have ar := ag4 (R 24) (by rw [kr]; decide)
  have b1 : xI (xk_new (xk_new K 8 0) 4 0) 8 3 ma = some (M 20 e) := xI_at (am.1.trans k1) ((am.2.2.1 8 3).trans k5)
  have b2 : xI (xk_new (xk_new K 8 0) 4 0) 8 4 ma = some (M 21 e) := xI_at (am.1.trans k1) ((am.2.2.1 8 4).trans k6)
  have b3 : xR (xk_new (xk_new K 8 0) 4 0) 4 8 (R 24) = some (some w) := xR_at (ar.1.trans kr) ((ar.2.2.2.1 4 8).trans v8)
  have b4 : xI (xk_sR (xk_sI (xk_sI (xk_new (xk_new K 8 0) 4 0) 3 0 (xk_nx K + 1) (M 20 e)) 3 1 (xk_nx K + 1) (M 21 e)) 3 2 (xk_nx K + 1) (some w)) 4 1 (R 24) = some (nI i) := xI_at (ar.1.trans kr) ((ar.2.2.1 4 1).trans v1)
  have b5 : xI (xk_sR (xk_sI (xk_sI (xk_new (xk_new K 8 0) 4 0) 3 0 (xk_nx K + 1) (M 20 e)) 3 1 (xk_nx K + 1) (M 21 e)) 3 2 (xk_nx K + 1) (some w)) 4 4 (R 24) = some (M 52 24) := xI_at (ar.1.trans kr) ((ar.2.2.1 4 4).trans v4)
  unfold kf_Master_putOnWay_0 xNw kf_Entry_init_0 kf_OnWay_init_0
  rw [xp_some, xp_some]
  show ∃ K' M', ((xI (xk_new (xk_new K 8 0) 4 0) 8 3 ma).bind fun v5 => (xI (xk_new (xk_new K 8 0) 4 0) 8 4 ma).bind fun v6 => (xR (xk_new (xk_new K 8 0) 4 0) 4 8 (R 24)).bind fun v7 => (v7).bind fun a8 => ((xIs (xk_new (xk_new K 8 0) 4 0) 3 0 (xk_nx K + 1) v5).bind fun K1 => (xIs K1 3 1 (xk_nx K + 1) v6).bind fun K2 => (xRs K2 3 2 (xk_nx K + 1) (some a8)).bind fun K3 => some K3).bind fun K9 => (xI K9 4 1 (R 24)).bind fun v10 => (xI K9 4 4 (R 24)).bind fun v11 => ((xRs K9 7 0 (xk_nx K) (some (xk_nx K + 1))).bind fun K1 => (xIs K1 7 1 (xk_nx K) v10).bind fun K2 => (xIs K2 7 2 (xk_nx K) v11).bind fun K3 => some K3).bind fun K12 => (xR K12 8 10 ma).bind fun v13 => (xI K12 8 11 ma).bind fun v14 => (v13).bind fun a16 => (xRt K12 10 7 a16 v14 (some (xk_nx K))).bind fun K15 => (xI K15 8 11 ma).bind fun v17 => (xIs K15 8 11 ma (v17 + (1 : Int32))).bind fun K18 => kf_Master_putOnWay_55 K18 ma (6 + B) (xk_nx K)) = some K' ∧ _
  rw [b1, xb_some, b2, xb_some, b3, xb_some, xb_some, xIs_ok kd3, xb_some, xIs_ok (by exact kd3), xb_some, xRs_ok (by exact kd3), xb_some, xb_some, b4, xb_some, b5, xb_some, xRs_ok (by exact kd1), xb_some, xIs_ok (by exact kd1), xb_some, xIs_ok (by exact kd1), xb_some, xb_some]
  have ky : xk_kd (xk_sI (xk_sI (xk_sR (xk_sR (xk_sI (xk_sI (xk_new (xk_new K 8 0) 4 0) 3 0 (xk_nx K + 1) (M 20 e)) 3 1 (xk_nx K + 1) (M 21 e)) 3 2 (xk_nx K + 1) (some w)) 7 0 (xk_nx K) (some (xk_nx K + 1))) 7 1 (xk_nx K) (nI i)) 7 2 (xk_nx K) (M 52 24)) (xk_nx K) = 7 + 1 := kd1
  have ken : xk_kd (xk_sI (xk_sI (xk_sR (xk_sR (xk_sI (xk_sI (xk_new (xk_new K 8 0) 4 0) 3 0 (xk_nx K + 1) (M 20 e)) 3 1 (xk_nx K + 1) (M 21 e)) 3 2 (xk_nx K + 1) (some w)) 7 0 (xk_nx K) (some (xk_nx K + 1))) 7 1 (xk_nx K) (nI i)) 7 2 (xk_nx K) (M 52 24)) (xk_nx K + 1) = 3 + 1 := kd3
  have f71 : xk_iv (xk_sI (xk_sI (xk_sR (xk_sR (xk_sI (xk_sI (xk_new (xk_new K 8 0) 4 0) 3 0 (xk_nx K + 1) (M 20 e)) 3 1 (xk_nx K + 1) (M 21 e)) 3 2 (xk_nx K + 1) (some w)) 7 0 (xk_nx K) (some (xk_nx K + 1))) 7 1 (xk_nx K) (nI i)) 7 2 (xk_nx K) (M 52 24)) 7 1 (xk_nx K) = nI i := sI_at _ 7 1 _ _
  have f72 : xk_iv (xk_sI (xk_sI (xk_sR (xk_sR (xk_sI (xk_sI (xk_new (xk_new K 8 0) 4 0) 3 0 (xk_nx K + 1) (M 20 e)) 3 1 (xk_nx K + 1) (M 21 e)) 3 2 (xk_nx K + 1) (some w)) 7 0 (xk_nx K) (some (xk_nx K + 1))) 7 1 (xk_nx K) (nI i)) 7 2 (xk_nx K) (M 52 24)) 7 2 (xk_nx K) = M 52 24 := sI_at _ 7 2 _ _
  have f73 : xk_iv (xk_sI (xk_sI (xk_sR (xk_sR (xk_sI (xk_sI (xk_new (xk_new K 8 0) 4 0) 3 0 (xk_nx K + 1) (M 20 e)) 3 1 (xk_nx K + 1) (M 21 e)) 3 2 (xk_nx K + 1) (some w)) 7 0 (xk_nx K) (some (xk_nx K + 1))) 7 1 (xk_nx K) (nI i)) 7 2 (xk_nx K) (M 52 24)) 7 3 (xk_nx K) = 0 := iv13
  have f70 : xk_rv (xk_sI (xk_sI (xk_sR (xk_sR (xk_sI (xk_sI (xk_new (xk_new K 8 0) 4 0) 3 0 (xk_nx K + 1) (M 20 e)) 3 1 (xk_nx K + 1) (M 21 e)) 3 2 (xk_nx K + 1) (some w)) 7 0 (xk_nx K) (some (xk_nx K + 1))) 7 1 (xk_nx K) (nI i)) 7 2 (xk_nx K) (M 52 24)) 7 0 (xk_nx K) = some (xk_nx K + 1) := sR_at _ 7 0 _ _
  have f30 : xk_iv (xk_sI (xk_sI (xk_sR (xk_sR (xk_sI (xk_sI (xk_new (xk_new K 8 0) 4 0) 3 0 (xk_nx K + 1) (M 20 e)) 3 1 (xk_nx K + 1) (M 21 e)) 3 2 (xk_nx K + 1) (some w)) 7 0 (xk_nx K) (some (xk_nx K + 1))) 7 1 (xk_nx K) (nI i)) 7 2 (xk_nx K) (M 52 24)) 3 0 (xk_nx K + 1) = M 20 e := sI_at _ 3 0 _ _
  have f31 : xk_iv (xk_sI (xk_sI (xk_sR (xk_sR (xk_sI (xk_sI (xk_new (xk_new K 8 0) 4 0) 3 0 (xk_nx K + 1) (M 20 e)) 3 1 (xk_nx K + 1) (M 21 e)) 3 2 (xk_nx K + 1) (some w)) 7 0 (xk_nx K) (some (xk_nx K + 1))) 7 1 (xk_nx K) (nI i)) 7 2 (xk_nx K) (M 52 24)) 3 1 (xk_nx K + 1) = M 21 e := sI_at _ 3 1 _ _
  have f32 : xk_rv (xk_sI (xk_sI (xk_sR (xk_sR (xk_sI (xk_sI (xk_new (xk_new K 8 0) 4 0) 3 0 (xk_nx K + 1) (M 20 e)) 3 1 (xk_nx K + 1) (M 21 e)) 3 2 (xk_nx K + 1) (some w)) 7 0 (xk_nx K) (some (xk_nx K + 1))) 7 1 (xk_nx K) (nI i)) 7 2 (xk_nx K) (M 52 24)) 3 2 (xk_nx K + 1) = some w := sR_at _ 3 2 _ _
  generalize xk_sI (xk_sI (xk_sR (xk_sR (xk_sI (xk_sI (xk_new (xk_new K 8 0) 4 0) 3 0 (xk_nx K + 1) (M 20 e)) 3 1 (xk_nx K + 1) (M 21 e)) 3 2 (xk_nx K + 1) (some w)) 7 0 (xk_nx K) (some (xk_nx K + 1))) 7 1 (xk_nx K) (nI i)) 7 2 (xk_nx K) (M 52 24) = K12 at AG hB ky ken f71 f72 f73 f70 f30 f31 f32
  have hC := iA_gz (gz := fz) (U := M 20 e :: V) (m := n + 5) hB (fun _ z _ => z) (fun _ z => List.mem_cons_of_mem _ z) (Nat.le_succ _) (by
    obtain ⟨x0', o0', c0', l0', t0', u0', b0', L0', T0', U0', -⟩ := id hB
    exact U0') (by
    unfold jN at n0 ⊢
    show 5 * (V.length + 1) + P + _ + _ ≤ n + 5
    omega)
  have an := AG ma (by rw [k1]; decide)
  have an3 := AG (ma + 3) (by rw [k17]; decide)
  have a5 := AG (5 + B) (by rw [m0.1]; decide)
  have he12 : xk_ar K12 (5 + B) e = some ma := (a5.2.2.2.2.2 e).trans he
  have hen : en K12 fz (M 20 e :: V) (xk_nx K + 1) (M 20 e) (M 21 e) (M 54 24) (fun z => M 55 (192 + z)) := ⟨ken, f30, f31, List.mem_cons_self, w, f32, hz, wr_ag AG hw⟩
  have hD := st_w (x := M 20 e) (b := M 21 e) hC e1 e9 he12 hn hlt ky (fun d md k j z d1 d9 hd hk hk8 hj hzz => by
    have hd3 : xk_ar K (5 + B) d = some md := (a5.2.2.2.2.2 d).symm.trans hd
    have km := (jM_at m0 d1 d9 hd3).2.2.2.2.2.2.2.2.2.2.2.2.2.2.2.2.2.1
    have hb3 : xk_ar K (md + 3) j = some z := ((AG _ (by rw [km]; decide)).2.2.2.2.2 j).symm.trans hzz
    obtain ⟨n1, y1, y2, y3, y4⟩ := y0 d md d1 d9 hd3
    have : n1 = k := (nI_eq (by have : n1 ≤ 8 := y1
                                omega) (by omega)).mp (y2.symm.trans hk)
    subst this
    obtain ⟨q', r1, r2, -⟩ := y4 j hj
    have r1' : xk_ar K (md + 3) j = some q' := r1
    rw [r1'] at hb3
    cases hb3
    exact iX_ne x0 (by rw [r2]; decide)) ⟨i, hi, f71⟩ f73 f70 hen
  rw [f71, f72] at hD
  have he18 : xk_ar (xk_sI (xk_tR K12 (ma + 3) nw' (some (xk_nx K))) 8 11 ma (nI (nw' + 1))) (5 + B) e = some ma := by
    show xk_ar (xk_tR K12 (ma + 3) nw' (some (xk_nx K))) (5 + B) e = some ma
    rw [tR_get, if_neg (fun z => by
      have : xk_kd K (5 + B) = xk_kd K (ma + 3) := by rw [z.1]
      rw [m0.1, k17] at this
      omega)]
    exact he12
  have hF := st_m4 (v := M 20 e) hD e1 e9 he18
  have hyy : xk_ar (xk_sI (xk_tR K12 (ma + 3) nw' (some (xk_nx K))) 8 11 ma (nI (nw' + 1))) (ma + 3) (nw' + (fun _ => 0) e) = some (xk_nx K) := by
    show (if ma + 3 = ma + 3 ∧ nw' = nw' then some (xk_nx K) else _) = _
    rw [if_pos ⟨rfl, rfl⟩]
  have h30 : xm_s (ws_M M e nw' (M 20 e) (M 21 e) (nI i) (M 52 24)) 21 e (M 20 e) 30 e = nI (nw' + 1) := ms_at M 30 e _
  obtain ⟨K1, M1, c', s', p1, p2, p3, p4⟩ := lp_push2 (i := nw') (nw := nw' + 1) (vz := M 20 e) e1 e9 (by omega) (by omega) 3 0 1000 (by omega) (by omega) _ _ _ 0 hF he18 h30 hyy
  have km18 : xk_kd K12 ma = 8 + 1 := an.1.trans k1
  have i811 : xk_iv K12 8 11 ma = nI nw' := (an.2.2.1 8 11).trans z3'
  have i15 : xI (xk_tR K12 (ma + 3) nw' (some (xk_nx K))) 8 11 ma = some (nI nw') := xI_at km18 i811
  rw [xR_at km18 ((an.2.2.2.1 8 10).trans k16), xb_some, xI_at km18 i811, xb_some, xb_some, xRt_ok (n := 8) (an3.1.trans k17) (an3.2.1.trans k18) hlt (by decide) (by exact ky), xb_some, i15, xb_some, nI_1, xIs_ok (by exact km18), xb_some]
  unfold kf_Master_putOnWay_55 kf_Master_pushToOthers_0
  have p1' : kf_Master_pushToOthers_5 1000 (xk_sI (xk_tR K12 (ma + 3) nw' (some (xk_nx K))) 8 11 ma (nI (nw' + 1))) ma (xk_nx K) (6 + B) 0 0 = some (s', K1) := p1
  have kd1' : xk_kd K1 ma = 8 + 1 := (congrFun p4.1 ma).trans km18
  have i83 : xk_iv K1 8 3 ma = M 20 e := (p4.2.2.1 8 3 ma (by decide) (by decide)).trans ((an.2.2.1 8 3).trans k5)
  rw [xO_ok (by exact km18), xb_some, p1', xp_some, xI_at kd1' i83, xb_some, xIs_ok kd1', xb_some]
  unfold kf_EM_judge_78 kf_EM_judge_122 kf_EM_judge_162
  have b10 : e < 10 := by omega
  have b80 : 8 * e + nw' < 80 := by omega
  have n30 : xMi M 30 (nI e) = some (nI nw') := xMi_at b10 (by decide) hn
  have n20 : xMi (xm_s M 30 e (nI (nw' + 1))) 20 (nI e) = some (M 20 e) := xMi_ok b10 (by decide)
  have n21 : xMi (xm_s (xm_s M 30 e (nI (nw' + 1))) 31 (8 * e + nw') (M 20 e)) 21 (nI e) = some (M 21 e) := xMi_ok b10 (by decide)
  have n54 : xMi (xm_s (xm_s (xm_s M 30 e (nI (nw' + 1))) 31 (8 * e + nw') (M 20 e)) 32 (8 * e + nw') (M 21 e)) 54 24 = some (M 54 24) := xMi_ok (i := 24) (by decide) (by decide)
  have hl := jd_loop (N := xm_s (xm_s (xm_s (xm_s (xm_s (xm_s (xm_s M 30 e (nI (nw' + 1))) 31 (8 * e + nw') (M 20 e)) 32 (8 * e + nw') (M 21 e)) 33 (8 * e + nw') (M 54 24)) 35 (8 * e + nw') 0) 36 (8 * e + nw') (nI i)) 37 (8 * e + nw') (M 52 24)) (e := e) (q := 8 * e + nw') e9 b80 8 0 1000 (by omega) (by omega)
  rw [cb_0] at hl
  have hl' : kf_EM_judge_190 1000 (xm_s (xm_s (xm_s (xm_s (xm_s (xm_s (xm_s M 30 e (nI (nw' + 1))) 31 (8 * e + nw') (M 20 e)) 32 (8 * e + nw') (M 21 e)) 33 (8 * e + nw') (M 54 24)) 35 (8 * e + nw') 0) 36 (8 * e + nw') (nI i)) 37 (8 * e + nw') (M 52 24)) (nI e) (nI (8 * e + nw')) 0 = kf_EM_judge_239 (xm_s (ws_M M e nw' (M 20 e) (M 21 e) (nI i) (M 52 24)) 21 e (M 20 e)) (nI e) (nI (8 * e + nw')) := hl
  rw [if_pos rfl, if_pos rfl, n30]
  simp only [xb_some]
  rw [nI_1, xMt_ok b10 (by decide), xb_some, ix_8, n20, xb_some, xMt_ok b80 (by decide), xb_some, n21, xb_some, xMt_ok b80 (by decide), xb_some, n54, xb_some, xMt_ok b80 (by decide), xb_some, xMt_ok b80 (by decide), xb_some, xMt_ok b80 (by decide), xb_some, xMt_ok b80 (by decide), xb_some, hl']
  unfold kf_EM_judge_239 kf_EM_pushOut_0
  have p2' : kf_EM_pushOut_5 1000 (xm_s (ws_M M e nw' (M 20 e) (M 21 e) (nI i) (M 52 24)) 21 e (M 20 e)) (nI e) (nI (8 * e + nw')) 0 0 = some (s', M1) := p2
  rw [p2', xp_some]
  refine ⟨_, _, rfl, rfl, ⟨fz, _, E, P, c', R, p3⟩, r24 p3, ?_⟩
  show xk_iv K1 4 0 (R 24) = 5
  refine (p4.2.2.2.2.2.2.2.2.1 0).trans ?_
  exact ((AG (R 24) (by rw [kr]; decide)).2.2.1 4 0).trans v0
end
section
variable {B : Nat} {fz : Nat → Prop} {V : List Int32} {E P : Nat} {c : Nat} {R : Nat → Nat} {n : Nat} {K : xk} {M : xm}
theorem ps_all {e ma w : Nat} (e1 : 1 ≤ e) (e9 : e ≤ 9) (h : iA B fz V E P (fun _ => 0) c R n K M) (he : xk_ar K (5 + B) e = some ma) (hw : wr K w (M 54 24) (fun x => M 55 (192 + x))) (v8 : xk_rv K 4 8 (R 24) = some w) (n7 : xk_iv K 4 7 (R 24) = M 53 24) (n3 : xk_iv K 4 3 (R 24) = M 51 24) :
    ∃ (z0 z1 : Bool) (K' : xk) (M6 M' : xm), kf_Master_passesResolvers_0 K ma (R 24) = some (if (z0 || z1) = true then 0 else 1, K') ∧ kf_EM_finds_0 M (nI e) 15 (M 51 24) = some (if z0 = true then 1 else 0, M6) ∧ kf_EM_finds_0 M6 (nI e) 240 (M 51 24) = some (if z1 = true then 1 else 0, M') ∧ iA B fz V E P (fun _ => 0) c R n K' M' ∧ sa K K' ∧ (∀ f, f ≠ 23 → M' f = M f) ∧ ∀ w m f, wr K w m f → wr K' w m f := by
  obtain ⟨z0, K1, M1, a1, a2, a3, a4, a5, a6, a7, a8⟩ := lp_res (r := 0) (keys := 15) (Or.inl ⟨rfl, rfl⟩) e1 e9 h he hw.1 hw.2.1 n7 n3
  have he1 : xk_ar K1 (5 + B) e = some ma := by rw [a6.2.2.2.2.1]; exact he
  have m51 : M1 51 24 = M 51 24 := congrFun (a7 51 (by decide)) 24
  obtain ⟨z1, K2, M2, b1, b2, b3, b4, b5, b6, b7, b8⟩ := lp_res (r := 1) (keys := 240) (w := w) (Or.inr ⟨rfl, rfl⟩) e1 e9 a5 he1 (by rw [a6.1]; exact hw.1) (by rw [a6.2.2.1, a7 54 (by decide)]; exact hw.2.1) (by rw [a6.2.2.1, a7 53 (by decide)]; exact n7) (by rw [a6.2.2.1, a7 51 (by decide)]; exact n3)
  rw [m51] at b2
  obtain ⟨x0, o0, c0, l0, t0, u0, b0, L0, T0, U0, m0, q0, y0, dq, dy, s0, g0, e0, n0⟩ := id h
  have k1 := (jM_at m0 e1 e9 he).2.1
  have kr := r24 h
  have k1' : xk_kd K1 ma = 8 + 1 := by rw [a6.1]; exact k1
  have kr1 : xk_kd K1 (R 24) = 4 + 1 := by rw [a6.1]; exact kr
  have v81 : xk_rv K1 4 8 (R 24) = some w := by rw [a6.2.2.2.1]; exact v8
  refine ⟨z0, z1, K2, M1, M2, ?_, a2, b2, b5, ⟨b6.1.trans a6.1, b6.2.1.trans a6.2.1, b6.2.2.1.trans a6.2.2.1, b6.2.2.2.1.trans a6.2.2.2.1, b6.2.2.2.2.1.trans a6.2.2.2.2.1, b6.2.2.2.2.2.trans a6.2.2.2.2.2⟩, fun f hf => (b7 f hf).trans (a7 f hf), fun w m f hw => b8 w m f (a8 w m f hw)⟩
  unfold kf_Master_passesResolvers_0
  have a1' : kf_Master_findsConflict_0 K ma 0 (R 24) = some (if z0 = true then 1 else 0, K) := a1
  have b1' : kf_Master_findsConflict_0 K1 ma (0 + 1) (R 24) = some (if z1 = true then 1 else 0, K1) := b1
  have last : ∀ (x : Int32) (m : Nat), x = 0 ∨ x = 1 → kf_Master_passesResolvers_4 (m + 2) K1 ma (R 24) x (0 + 1) = some (if z1 = true then 0 else x, K2) := fun x m hx => by
    show kb_Master_passesResolvers_4 (kf_Master_passesResolvers_4 (m + 1)) K1 ma (R 24) x (0 + 1) = _
    unfold kb_Master_passesResolvers_4
    rw [if_neg (by decide), xO_ok k1', xb_some, b1', xp_some]
    cases z1
    · have b4' : kf_Master_letPass_0 K1 ma (0 + 1) w = some K2 := b4 rfl
      rw [if_pos (by decide), xR_at kr1 v81, xb_some, xb_some, xO_ok k1', xb_some, b4', xb_some]
      show kb_Master_passesResolvers_4 (kf_Master_passesResolvers_4 m) K2 ma (R 24) x (0 + 1 + 1) = _
      unfold kb_Master_passesResolvers_4
      rw [if_pos (by decide), xZ_ok hx, xb_some]
      rfl
    · rw [if_neg (by decide), b3 rfl]
      show kb_Master_passesResolvers_4 (kf_Master_passesResolvers_4 m) K1 ma (R 24) 0 (0 + 1 + 1) = _
      unfold kb_Master_passesResolvers_4
      rw [if_pos (by decide), xZ_ok (Or.inl rfl), xb_some]
      rfl
  show kb_Master_passesResolvers_4 (kf_Master_passesResolvers_4 (997 + 2)) K ma (R 24) 1 0 = _
  unfold kb_Master_passesResolvers_4
  rw [if_neg (by decide), xO_ok k1, xb_some, a1', xp_some]
  cases z0
  · have a4' : kf_Master_letPass_0 K ma 0 w = some K1 := a4 rfl
    rw [if_pos (by decide), xR_at kr v8, xb_some, xb_some, xO_ok k1, xb_some, a4', xb_some, last 1 997 (Or.inr rfl)]
    cases z1 <;> rfl
  · have e1' := a3 rfl
    rw [if_neg (by decide), ← e1', last 0 997 (Or.inl rfl)]
    cases z1 <;> rfl
theorem hd_commit {e i ma w : Nat} (hA : iA B fz V E P (fun _ => 0) c R n K M) (e1 : 1 ≤ e) (e9 : e ≤ 9) (he : xk_ar K (5 + B) e = some ma) (hi : i < 3) (v0 : xk_iv K 4 0 (R 24) = 5) (v1 : xk_iv K 4 1 (R 24) = nI i) (v3 : xk_iv K 4 3 (R 24) = M 51 24) (v4 : xk_iv K 4 4 (R 24) = M 52 24) (v7 : xk_iv K 4 7 (R 24) = M 53 24) (v8 : xk_rv K 4 8 (R 24) = some w) (hz : fz w) (hw : wr K w (M 54 24) (fun x => M 55 (192 + x))) :
    ∃ K' M', kf_Master_decide_0 K ma (R 24) (6 + B) = some K' ∧ kf_EM_judge_0 M (nI i) (nI e) (M 51 24) (M 52 24) = some M' ∧ dn B (n + 5) (R 24) 5 K' M' := by
  obtain ⟨x0, o0, c0, l0, t0, u0, b0, L0, T0, U0, m0, q0, y0, dq, dy, s0, g0, e0, n0⟩ := id hA
  have kr := r24 hA
  obtain ⟨k1, k2, k3, k4, k5, k6, k7, k8, k9, k10, k11, k12, k13, k14, k15, k16, k17, k18⟩ := (jM_at m0 e1 e9 he).2
  obtain ⟨nw, z1, z2, z3, z4⟩ := y0 e ma e1 e9 he
  have z1' : nw ≤ 8 := z1
  have z3' : xk_iv K 8 11 ma = nI nw := z3
  have b10 : e < 10 := by omega
  have n30 : xMi M 30 (nI e) = some (nI nw) := xMi_at b10 (by decide) z2
  have n19 : xMi M 19 (nI e) = some (M 19 e) := xMi_ok b10 (by decide)
  have n20 : xMi M 20 (nI e) = some (M 20 e) := xMi_ok b10 (by decide)
  unfold kf_Master_decide_0 kf_EM_judge_0
  rw [xI_at k1 z3', xb_some, n30, xb_some]
  by_cases h8 : nw < 8
  · have c8 : nI nw < (8 : Int32) := nI_lt (a := nw) (b := 8) h8 (by decide)
    have d8 : ¬ nI nw = (8 : Int32) := fun z => by have := (nI_eq (a := nw) (b := 8) (by omega) (by decide)).mp z; omega
    have old : ∃ K' M', kf_Master_decide_35 K ma (R 24) (6 + B) = some K' ∧ kf_EM_judge_35 M (nI i) (nI e) (M 52 24) = some M' ∧ dn B (n + 5) (R 24) 5 K' M' := by
      obtain ⟨a, K', M', c', r1, r2, r3, r4⟩ := sd_res (Or.inr rfl) hA e1 e9 he hi (M 52 24)
      unfold kf_Master_decide_35 kf_EM_judge_35
      rw [xI_at kr v1, xb_some, xI_at kr v4, xb_some, xO_ok k1, xb_some, r1, xp_some, r2, xb_some]
      exact ⟨K', M', rfl, rfl, ⟨fz, V, E, P, c', R, iA_mono r3 (by omega)⟩, r24 r3, (r4.2.2.2.2.2.2.2.2.1 0).trans v0⟩
    rw [if_pos c8, if_neg d8, xI_at kr v3, xI_at k1 k4, n19]
    simp only [xb_some]
    by_cases hs : M 51 24 < M 19 e
    · rw [if_pos hs, if_pos hs]
      exact old
    · rw [if_neg hs, if_neg hs, xI_at k1 k5, n20]
      simp only [xb_some]
      by_cases hl : M 20 e - 12 ≤ M 51 24
      · rw [if_pos hl, if_pos hl, xIs_ok k1, xb_some, xMt_ok b10 (by decide), xb_some, xO_ok (by exact k1), xb_some]
        have hB := st_m3 (v := M 20 e + 1) hA e1 e9 he
        obtain ⟨p0, p1, K8, M6, M8, r1, r2, r3, r4, r5, r6, r7⟩ := ps_all (w := w) e1 e9 hB he hw v8 v7 v3
        have r2' : kf_EM_finds_0 (xm_s M 20 e (M 20 e + 1)) (nI e) 15 (M 51 24) = some (if p0 = true then 1 else 0, M6) := r2
        have r3' : kf_EM_finds_0 M6 (nI e) 240 (M 51 24) = some (if p1 = true then 1 else 0, M8) := r3
        have he8 : xk_ar K8 (5 + B) e = some ma := by rw [r5.2.2.2.2.1]; exact he
        have kr8 := r24 r4
        have km8 : xk_kd K8 ma = 8 + 1 := by rw [r5.1]; exact k1
        have u0 : xk_iv K8 4 0 (R 24) = 5 := by rw [r5.2.2.1]; exact v0
        have u1 : xk_iv K8 4 1 (R 24) = nI i := by rw [r5.2.2.1]; exact v1
        have u4 : xk_iv K8 4 4 (R 24) = M 52 24 := by rw [r5.2.2.1]; exact v4
        have u8 : xk_rv K8 4 8 (R 24) = some w := by rw [r5.2.2.2.1]; exact v8
        have m52 : M8 52 24 = M 52 24 := congrFun (r6 52 (by decide)) 24
        have m54 : M8 54 24 = M 54 24 := congrFun (r6 54 (by decide)) 24
        have m55 : M8 55 = M 55 := r6 55 (by decide)
        have m30 : M8 30 e = nI nw := (congrFun (r6 30 (by decide)) e).trans z2
        rw [r1, r2', xp_some, xp_some, r3', xp_some]
        have conf : ∃ K' M', ((xI K8 4 1 (R 24)).bind fun v11 => (xI K8 4 4 (R 24)).bind fun v12 => (xO K8 8 ma).bind fun _ => xp (kf_Master_sendResult_0 K8 ma v11 v12 (5 : Int32) (6 + B)) fun r15 K13 => some K13) = some K' ∧ kf_EM_judge_88 M8 (nI i) (nI e) (M 52 24) = some M' ∧ dn B (n + 5) (R 24) 5 K' M' := by
          obtain ⟨a, K', M', c', w1, w2, w3, w4⟩ := sd_res (Or.inl rfl) r4 e1 e9 he8 hi (M 52 24)
          unfold kf_EM_judge_88
          rw [xI_at kr8 u1, xb_some, xI_at kr8 u4, xb_some, xO_ok km8, xb_some, w1, xp_some, w2, xb_some]
          exact ⟨K', M', rfl, rfl, ⟨fz, V, E, P, c', R, iA_mono w3 (by omega)⟩, r24 w3, (w4.2.2.2.2.2.2.2.2.1 0).trans u0⟩
        cases p0
        · cases p1
          · obtain ⟨K', M', w1, w2, w3⟩ := pt_way (w := w) r4 e1 e9 he8 hi m30 h8 u0 u1 (u4.trans m52.symm) u8 hz (by
              rw [m54, m55]
              exact r7 _ _ _ hw)
            rw [m52] at w2
            rw [if_neg (by decide), xO_ok km8, xb_some, w1, xb_some]
            exact ⟨K', M', rfl, w2, w3⟩
          · rw [if_pos (by decide)]
            obtain ⟨K', M', w1, w2, w3⟩ := conf
            refine ⟨K', M', w1, ?_, w3⟩
            unfold kf_EM_judge_78
            exact w2
        · rw [if_pos (by cases p1 <;> rfl)]
          obtain ⟨K', M', w1, w2, w3⟩ := conf
          refine ⟨K', M', w1, ?_, w3⟩
          unfold kf_EM_judge_78
          exact w2
      · rw [if_neg hl, if_neg hl]
        exact old
  · have : nw = 8 := by omega
    subst this
    rw [if_neg (show ¬ nI 8 < (8 : Int32) by decide), if_pos (show nI 8 = (8 : Int32) by decide)]
    exact ⟨K, M, rfl, rfl, ⟨fz, V, E, P, c, R, iA_mono hA (by omega)⟩, kr, v0⟩
end
section
variable {B : Nat} {fz : Nat → Prop} {V : List Int32} {E P : Nat} {c : Nat} {R : Nat → Nat} {n : Nat} {K : xk} {M : xm}
theorem dv_master {e m : Nat} {t x2 : Int32} (hA : iA B fz V E P (fun _ => 0) c R n K M) (e1 : 1 ≤ e) (e9 : e ≤ 9) (hnm : n ≤ m) (v0 : xk_iv K 4 0 (R 24) = t) (v2 : xk_iv K 4 2 (R 24) = nI e)
    (hP : ∀ ma, xk_ar K (5 + B) e = some ma → ∃ K' M', kf_Master_receive_0 K ma (R 24) (6 + B) = some K' ∧ kf_EM_toMaster_0 M t x2 (nI e) (M 51 24) (M 52 24) = some M' ∧ dn B m (R 24) t K' M') :
    ∃ K' M', ((xI K 4 2 (R 24)).bind fun v22 => (xO K 0 B).bind fun _ => xp (kf_ES_isMaster_0 K B v22) fun r25 K23 => if r25 = 0 then ((xI K23 4 0 (R 24)).bind fun v26 => some (v26, K23)) else (xR K23 0 4 B).bind fun v27 => (xI K23 4 2 (R 24)).bind fun v28 => (v27).bind fun a30 => (xRa K23 6 a30 v28).bind fun v29 => (xR K23 0 5 B).bind fun v31 => (v29).bind fun a32 => (v31).bind fun a33 => (xO K23 8 a32).bind fun _ => (kf_Master_receive_0 K23 a32 (R 24) a33).bind fun K34 => (xI K34 4 0 (R 24)).bind fun v36 => some (v36, K34)) = some (t, K') ∧
      ((xMi M 17 (nI e)).bind fun v3 => if v3 = 0 then (kf_EM_hand_222 M) else (kf_EM_toMaster_0 M t x2 (nI e) (M 51 24) (M 52 24)).bind fun M4 => kf_EM_hand_222 M4) = some M' ∧ iV B m K' M' := by
  obtain ⟨x0, o0, c0, l0, t0, u0, b0, L0, T0, U0, m0, q0, y0, dq, dy, s0, g0, e0, n0⟩ := id hA
  have kr := r24 hA
  have hx : xRa K 6 (5 + B) (nI e) = some (xk_ar K (5 + B) e) := xRa_ok m0.1 m0.2.1 (by omega) (by decide)
  have hm : xMi M 17 (nI e) = some (M 17 e) := xMi_ok (by show e < 10; omega) (by decide)
  have p1 : ¬ nI e < (1 : Int32) := nI_nlt (a := e) (b := 1) e1 (by omega)
  have p9 : ¬ (9 : Int32) < nI e := nI_nlt (a := 9) (b := e) e9 (by decide)
  unfold kf_ES_isMaster_0 kf_EM_hand_222
  rw [xI_at kr v2, xb_some, xO_ok o0.1, xb_some, if_neg p1, if_neg p9, xR_ok o0.1, o0.2.2.2.2.2.1, xb_some, xb_some, hx, xb_some, hm, xb_some]
  rcases m0.2.2 e e1 e9 with ⟨z, nn⟩ | ⟨z, ma, nn, k1, -⟩
  · rw [nn, if_pos rfl, xp_some, if_pos rfl, xI_at kr v0, xb_some, if_pos z]
    exact ⟨K, M, rfl, rfl, fz, V, E, P, c, R, iA_mono hA hnm⟩
  · obtain ⟨K', M', r1, r2, r3, r4, r5⟩ := hP ma nn
    rw [nn, if_neg (fun q => by cases q), xp_some, if_neg (by decide), xR_ok o0.1, o0.2.2.2.2.2.1, xb_some, xI_at kr v2, xb_some, xb_some, hx, nn, xb_some, xR_ok o0.1, o0.2.2.2.2.2.2, xb_some, xb_some, xb_some, xO_ok k1, xb_some, r1, xb_some, xI_at r4 r5, xb_some, z, if_neg (by decide), r2, xb_some]
    exact ⟨K', M', rfl, rfl, r3⟩
theorem nI_inj {a b : Nat} (ha : a ≤ 100) (hb : b ≤ 100) (h : nI a = nI b) : a = b := (nI_eq (by omega) (by omega)).mp h
theorem kp_deliver (B : Nat) : lo_s10 (iV B) B := fun n K M a _ h => by
  obtain ⟨fz, V, E, P, c, R, hA⟩ := id h
  obtain ⟨x0, o0, c0, l0, t0, u0, b0, L0, T0, U0, m0, q0, y0, dq, dy, s0, g0, e0, n0⟩ := id hA
  have h10 : ¬ (1 : Int32) = 0 := by decide
  unfold kf_ES_deliver_0 kf_EM_deliver_0 kf_Line_has_0
  rw [xR_ok o0.1, o0.2.2.2.2.2.2, xb_some, xb_some, xO_ok s0.1, xb_some, xI_at s0.1 s0.2.2.2.2.2.2.2.1, xb_some, g0.1]
  rcases ix_ln s0.2.2.2.2.2.2.1 a with h | ⟨h1, h2, h3⟩ | ⟨k, hk, rfl, h1, h2, h3⟩
  · rw [if_pos h, if_pos h, xp_some, if_pos rfl]
    exact ⟨-1, K, M, rfl, rfl, fz, V, E, P, c, R, iA_mono hA (by omega)⟩
  · rw [if_neg h1, if_pos h2, if_neg h1, if_neg h3, xp_some, if_pos rfl]
    exact ⟨-1, K, M, rfl, rfl, fz, V, E, P, c, R, iA_mono hA (by omega)⟩
  · obtain ⟨c, rfl⟩ : ∃ d, c = d + 1 := ⟨c - 1, by omega⟩
    obtain ⟨K', M', k1, k2, hB, hR, hV, h48⟩ := st_take (k := k) (m := if M 48 k = 5 then n - 4 else n) hA (by omega) (by split <;> omega)
    rw [if_neg h1, if_neg h2, if_neg h1, if_pos h3, xp_some, if_neg h10, xR_ok o0.1, o0.2.2.2.2.2.2, xb_some, xb_some, xO_ok s0.1, xb_some, k1, k2, xp_some, xb_some, xb_some]
    have n4 : M 48 k = 5 → 4 ≤ n := fun z => by
      have hc := cN_take (t := M 48) (s := fun j => if j < k then M 48 j else M 48 (j + 1)) (k := k) (c := c) (fun j hj => if_pos hj) (fun j j1 _ => if_neg (by omega)) (by omega)
      rw [if_pos z] at hc
      unfold jN at n0
      omega
    generalize hm : (if M 48 k = 5 then n - 4 else n) = m at hB
    rw [← hR] at hV ⊢
    generalize tkR R k = R' at hB hV ⊢
    obtain ⟨f0, f1, f2, f3, ⟨i, hi, hi'⟩, ⟨e, e1, e9, he'⟩, hT⟩ := hV
    have f0 : xk_iv K' 4 0 (R' 24) = M' 48 24 := f0
    have f1 : xk_iv K' 4 1 (R' 24) = M' 49 24 := f1
    have f2 : xk_iv K' 4 2 (R' 24) = M' 50 24 := f2
    have f3 : xk_iv K' 4 3 (R' 24) = M' 51 24 := f3
    have hi' : M' 49 24 = nI i := hi'
    have he' : M' 50 24 = nI e := he'
    rw [hi'] at f1
    rw [he'] at f2
    have kr := r24 hB
    obtain ⟨x0', o0', c0', l0', t0', u0', b0', L0', T0', U0', m0', q0', y0', dq', dy', s0', g0', e0', n0'⟩ := id hB
    have m48 : xMi M' 48 24 = some (M' 48 24) := xMi_ok (i := 24) (by decide) (by decide)
    have m49 : xMi M' 49 24 = some (nI i) := xMi_at (i := 24) (by decide) (by decide) hi'
    have m50 : xMi M' 50 24 = some (nI e) := xMi_at (i := 24) (by decide) (by decide) he'
    have m51 : xMi M' 51 24 = some (M' 51 24) := xMi_ok (i := 24) (by decide) (by decide)
    have m52 : xMi M' 52 24 = some (M' 52 24) := xMi_ok (i := 24) (by decide) (by decide)
    have hlx : xRa K' 3 (2 + B) (nI i) = some (some (37 + 3 * i + B)) := by rw [xRa_ok l0'.1 l0'.2.1 hi (by decide), (l0'.2.2 i hi).1]
    have hcx : xRa K' 5 (4 + B) (nI i) = some (some (50 + 3 * i + B)) := by rw [xRa_ok u0'.1 u0'.2.1 hi (by decide), (u0'.2.2 i hi).1]
    have kl := (l0'.2.2 i hi).2.1
    have kc := (u0'.2.2 i hi).2.1
    have mbE : mb M' E (fun j => M' j 24) → bt (M' 18 e) i = true := fun ⟨c1, d1, q1, q2, q3, q4, q5, q6⟩ => by
      have q2 : M' 49 24 = nI c1 := q2
      have q5 : M' 50 24 = nI d1 := q5
      have e9' := e0'.2.1
      have a1 : c1 = i := nI_inj (by omega) (by omega) (q2.symm.trans hi')
      have a2 : d1 = e := nI_inj (by omega) (by omega) (q5.symm.trans he')
      rw [← a1, ← a2]
      exact q6
    rw [m48, xb_some, m49, xb_some, m50, xb_some, xI_at kr f0, xb_some]
    unfold kf_EM_deliver_46
    rcases hT with ⟨t, z, p4⟩ | ⟨t, z, p5⟩ | ⟨t, z, p5, pm⟩ | ⟨t, p4⟩ | ⟨t, p4, p7, w, p8, p9, p10⟩ | ⟨t, a, p9, p10⟩ | ⟨t, pm⟩ | ⟨t, p4, p6, p7⟩
    -- ASK
    · have t : M' 48 24 = 1 := t
      have hmn : m = n := by rw [← hm, if_neg (fun q => by rw [← h48, t] at q; exact absurd q (by decide))]
      subst hmn
      rw [t] at f0 ⊢
      unfold kf_EM_hand_0
      rw [m52, xb_some, m51, xb_some]
      obtain ⟨K2, M2, r1, r2, r3⟩ := dv_master (x2 := nI i) (m := m) hB e1 e9 (Nat.le_refl _) f0 f2 (fun ma hma => by
        obtain ⟨K3, M3, w1, w2, w3⟩ := hd_ask hB e1 e9 hma hi f0 f1 p4
        unfold kf_Master_receive_0 kf_EM_toMaster_0 kf_Master_receive_77
        rw [xI_at kr f0, xb_some, if_pos rfl, xO_ok (jM_at m0' e1 e9 hma).2.1, xb_some, w1, xb_some, if_pos rfl, w2, xb_some]
        exact ⟨K3, M3, rfl, rfl, w3⟩)
      refine ⟨1, K2, M2, r1, ?_, iV_next r3⟩
      rw [if_neg (by decide), if_neg (by decide), if_neg (by decide), if_neg (by decide), r2, xb_some]
    -- CONFIRM
    · have t : M' 48 24 = 2 := t
      have hmn : m = n := by rw [← hm, if_neg (fun q => by rw [← h48, t] at q; exact absurd q (by decide))]
      subst hmn
      rw [t] at f0 ⊢
      obtain ⟨K2, M2, r1, r2, r3, r4, r5⟩ := hd_confirm hB hi e1 e9 f0 f2 p5
      rw [if_pos rfl, xR_ok o0'.1, o0'.2.2.1, xb_some, xI_at kr f1, xb_some, xb_some, hlx, xb_some, xR_ok o0'.1, o0'.2.2.2.2.2.2, xb_some, xb_some, xb_some, xO_ok kl, xb_some, r1, xb_some, r2, xb_some]
      unfold kf_ES_deliver_85
      rw [xI_at r4 r5, xb_some]
      exact ⟨2, K2, M2, rfl, rfl, iV_next r3⟩
    -- CONFIRMED
    · have t : M' 48 24 = 3 := t
      have hmn : m = n := by rw [← hm, if_neg (fun q => by rw [← h48, t] at q; exact absurd q (by decide))]
      subst hmn
      rw [t] at f0 ⊢
      unfold kf_EM_hand_0
      rw [m52, xb_some, m51, xb_some]
      obtain ⟨K2, M2, r1, r2, r3⟩ := dv_master (x2 := nI i) (m := m) hB e1 e9 (Nat.le_refl _) f0 f2 (fun ma hma => by
        obtain ⟨K3, M3, w1, w2, w3⟩ := hd_confirmed hB e1 e9 hma hi f0 f1 p5 (mbE pm)
        unfold kf_Master_receive_0 kf_EM_toMaster_0 kf_Master_receive_77
        rw [xI_at kr f0, xb_some, if_neg (by decide), if_neg (by decide), if_pos rfl, xO_ok (jM_at m0' e1 e9 hma).2.1, xb_some, w1, xb_some, if_neg (by decide), if_pos rfl, w2, xb_some]
        exact ⟨K3, M3, rfl, rfl, w3⟩)
      refine ⟨3, K2, M2, ?_, ?_, iV_next r3⟩
      · rw [if_neg (by decide), if_pos rfl]
        exact r1
      · rw [if_neg (by decide), if_neg (by decide), if_neg (by decide), if_neg (by decide), r2, xb_some]
    -- READ_VERSION
    · have t : M' 48 24 = 4 := t
      have hmn : m = n := by rw [← hm, if_neg (fun q => by rw [← h48, t] at q; exact absurd q (by decide))]
      subst hmn
      rw [t] at f0 ⊢
      obtain ⟨K2, M2, r1, r2, r3, r4, r5⟩ := hd_version hB hi (nI e) f0 p4 f3
      rw [if_neg (show ¬ (4 : Int32) = 2 by decide), if_neg (show ¬ (4 : Int32) = 3 by decide), if_pos rfl, xR_ok o0'.1, o0'.2.2.2.2.1, xb_some, xI_at kr f1, xb_some, xb_some, hcx, xb_some, xb_some, xO_ok kc, xb_some, r1, xb_some, xI_at r4 r5, xb_some, r2, xb_some]
      exact ⟨4, K2, M2, rfl, rfl, r3⟩
    -- COMMIT
    · have t : M' 48 24 = 5 := t
      have h5 : M 48 k = 5 := h48.symm.trans t
      have n4' := n4 h5
      rw [if_pos h5] at hm
      rw [t] at f0 ⊢
      unfold kf_EM_hand_0
      rw [m52, xb_some, m51, xb_some]
      obtain ⟨K2, M2, r1, r2, r3⟩ := dv_master (x2 := nI i) (m := m + 5) hB e1 e9 (by omega) f0 f2 (fun ma hma => by
        obtain ⟨K3, M3, w1, w2, w3⟩ := hd_commit hB e1 e9 hma hi f0 f1 f3 p4 p7 p8 p9 p10
        unfold kf_Master_receive_0 kf_EM_toMaster_0 kf_Master_receive_77 kf_EM_toMaster_47
        rw [xI_at kr f0, xb_some, if_neg (by decide), if_neg (by decide), if_neg (by decide), if_neg (by decide), if_pos rfl, xO_ok (jM_at m0' e1 e9 hma).2.1, xb_some, w1, xb_some, if_neg (by decide), if_neg (by decide), if_pos rfl, w2, xb_some]
        exact ⟨K3, M3, rfl, rfl, w3⟩)
      refine ⟨5, K2, M2, ?_, ?_, ?_⟩
      · rw [if_neg (by decide), if_neg (by decide), if_neg (by decide), if_pos rfl]
        exact r1
      · rw [if_neg (by decide), if_neg (by decide), if_neg (by decide), if_neg (by decide), r2, xb_some]
      · rw [show n + 1 = m + 5 by omega]
        exact r3
    -- PUSH
    · have t : M' 48 24 = 6 := t
      have hmn : m = n := by rw [← hm, if_neg (fun q => by rw [← h48, t] at q; exact absurd q (by decide))]
      subst hmn
      rw [t] at f0 ⊢
      obtain ⟨K2, M2, r1, r2, r3, r4, r5⟩ := hd_push hB hi e1 e9 f0 f2 f3 p9 p10
      rw [if_neg (show ¬ (6 : Int32) = 2 by decide), if_neg (show ¬ (6 : Int32) = 3 by decide), if_neg (show ¬ (6 : Int32) = 4 by decide), if_neg (show ¬ (6 : Int32) = 5 by decide), if_pos rfl, xR_ok o0'.1, o0'.2.2.1, xb_some, xI_at kr f1, xb_some, xb_some, hlx, xb_some, xR_ok o0'.1, o0'.2.2.2.2.2.2, xb_some, xb_some, xb_some, xO_ok kl, xb_some, r1, xb_some, r2, xb_some]
      unfold kf_ES_deliver_85
      rw [xI_at r4 r5, xb_some]
      exact ⟨6, K2, M2, rfl, rfl, iV_next r3⟩
    -- ACK
    · have t : M' 48 24 = 7 := t
      have hmn : m = n := by rw [← hm, if_neg (fun q => by rw [← h48, t] at q; exact absurd q (by decide))]
      subst hmn
      rw [t] at f0 ⊢
      unfold kf_EM_hand_0
      rw [m52, xb_some, m51, xb_some]
      obtain ⟨K2, M2, r1, r2, r3⟩ := dv_master (x2 := nI i) (m := m) hB e1 e9 (Nat.le_refl _) f0 f2 (fun ma hma => by
        obtain ⟨K1, K3, M3, w1, wk, w2, w3, w4⟩ := hd_ack hB e1 e9 hma hi f0 f1 f3 (mbE pm)
        unfold kf_Master_receive_0 kf_EM_toMaster_0 kf_Master_receive_77
        rw [xI_at kr f0, xb_some, if_neg (by decide), if_neg (by decide), if_neg (by decide), if_neg (by decide), if_neg (by decide), xO_ok (jM_at m0' e1 e9 hma).2.1, xb_some, w1, xb_some, xO_ok wk, xb_some, w2, xb_some, if_neg (by decide), if_neg (by decide), if_neg (by decide), w3, xb_some]
        exact ⟨K3, M3, rfl, rfl, w4⟩)
      refine ⟨7, K2, M2, ?_, ?_, iV_next r3⟩
      · rw [if_neg (by decide), if_neg (by decide), if_neg (by decide), if_neg (by decide), if_neg (by decide), if_pos rfl]
        exact r1
      · rw [if_neg (by decide), if_neg (by decide), if_neg (by decide), if_neg (by decide), r2, xb_some]
    -- RESULT
    · have t : M' 48 24 = 8 := t
      have hmn : m = n := by rw [← hm, if_neg (fun q => by rw [← h48, t] at q; exact absurd q (by decide))]
      subst hmn
      rw [t] at f0 ⊢
      obtain ⟨K2, M2, r1, r2, r3, r4, r5⟩ := hd_result hB hi (nI e) f0 p4 f3 p6 p7
      rw [if_neg (show ¬ (8 : Int32) = 2 by decide), if_neg (show ¬ (8 : Int32) = 3 by decide), if_neg (show ¬ (8 : Int32) = 4 by decide), if_neg (show ¬ (8 : Int32) = 5 by decide), if_neg (show ¬ (8 : Int32) = 6 by decide), if_neg (show ¬ (8 : Int32) = 7 by decide), if_pos rfl, xR_ok o0'.1, o0'.2.2.2.2.1, xb_some, xI_at kr f1, xb_some, xb_some, hcx, xb_some, xb_some, xO_ok kc, xb_some, r1, xb_some, xI_at r4 r5, xb_some, r2, xb_some]
      exact ⟨8, K2, M2, rfl, rfl, iV_next r3⟩
end
