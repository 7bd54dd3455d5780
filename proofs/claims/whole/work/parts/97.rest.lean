section
theorem pig {f : Nat → Int32} : ∀ (n : Nat) (V : List Int32), (∀ j, j < n → f j ∈ V) → (∀ j k, j < k → k < n → f j < f k) → n ≤ V.length := by
  intro n
  induction n with
  | zero => intro V _ _; exact Nat.zero_le _
  | succ n ih =>
    intro V h1 h2
    have hm := h1 n (by omega)
    have hl := List.length_erase_of_mem hm
    have hp := List.length_pos_of_mem hm
    have := ih (V.erase (f n)) (fun j hj => (List.mem_erase_of_ne (fun z => by
      have := h2 j n hj (by omega)
      rw [z, Int32.lt_iff_toInt_lt] at this
      omega)).mpr (h1 j (by omega))) (fun j k hj hk => h2 j k hj (by omega))
    omega
variable {B : Nat} {fz : Nat → Prop} {V : List Int32} {E P : Nat} {D : Nat → Nat} {c : Nat} {R : Nat → Nat} {n : Nat} {K : xk} {M : xm}
/-- how far a storage is -/
theorem st_t3 {i : Nat} {v : Int32} (h : iA B fz V E P D c R n K M) (hi : i < 2) (hv : ∀ k, M 13 i = nI k → k ≤ P → ∀ j, j < k → M 14 (128 * i + j) ≤ v) : iA B fz V E P D c R n (xk_sI K 10 3 (46 + 2 * i + B) v) (xm_s M 12 i v) := by
  obtain ⟨x0, o0, c0, l0, ⟨t1, t2, t3⟩, u0, b0, L0, T0, U0, m0, q0, y0, dq, dy, s0, g0, e0, n0⟩ := h
  refine ⟨x0, o0, c0, l0, ⟨t1, t2, fun j hj => ?_⟩, u0, b0, L0, fun j hj => ?_, U0, m0, q0, y0, dq, dy, s0, g0, e0, n0⟩
  · obtain ⟨e1, e2, e3, e4, e5, e6⟩ := t3 j hj
    exact ⟨e1, e2, e3, e4, up_eq (by omega) e5, e6⟩
  · obtain ⟨z1, z2, z3, z4, n1, z5, z6, z7, z8, z9, z10⟩ := T0 j hj
    refine ⟨z1, z2, z3, z4, n1, z5, z6, z7, z8, ?_, z10⟩
    rw [ms_at']
    by_cases q : j = i
    · subst q
      rw [if_pos rfl]
      exact hv n1 z7 z5
    · rw [if_neg q]
      exact z9
theorem st_t2 {i e : Nat} (h : iA B fz V E P D c R n K M) (hi : i < 2) (e1 : 1 ≤ e) (e9 : e ≤ 9) : iA B fz V E P D c R n (xk_sI K 10 2 (46 + 2 * i + B) (nI e)) (xm_s M 10 i (nI e)) := by
  obtain ⟨x0, o0, c0, l0, ⟨t1, t2, t3⟩, u0, b0, L0, T0, U0, m0, q0, y0, dq, dy, s0, g0, ⟨p1, p2, p3, p4, p5, p6, p7, p8⟩, n0⟩ := h
  refine ⟨x0, o0, c0, l0, ⟨t1, t2, fun j hj => ?_⟩, u0, b0, L0, T0, U0, m0, q0, y0, dq, dy, s0, g0, ⟨p1, p2, p3, p4, p5, p6, fun j hj => ?_, p8⟩, n0⟩
  · obtain ⟨f1, f2, f3, f4, f5, f6⟩ := t3 j hj
    exact ⟨f1, f2, f3, up_eq (by omega) f4, f5, f6⟩
  · rw [ms_at']
    by_cases q : j = i
    · rw [if_pos q]
      exact ⟨e, e1, e9, rfl⟩
    · rw [if_neg q]
      exact p7 j hj
theorem jT_100 {M : xm} {n1 : Nat} (h : jN M V P n c) (hn : n < 512) (h1 : n1 ≤ P) (h2 : n1 ≤ V.length) : n1 < 100 := by
  unfold jN at h
  omega
theorem st_tc {i k : Nat} (h : iA B fz V E P D c R n K M) (hi : i < 2) (hk : M 13 i = nI (k + 1)) (hP : k < 2 ^ 31 - 1) : iA B fz V E P D c R n (xk_sI K 10 5 (46 + 2 * i + B) (nI k)) (xm_s M 13 i (nI k)) := by
  obtain ⟨x0, o0, c0, l0, ⟨t1, t2, t3⟩, u0, b0, L0, T0, U0, m0, q0, y0, dq, dy, s0, g0, e0, n0⟩ := h
  refine ⟨x0, o0, c0, l0, ⟨t1, t2, fun j hj => ?_⟩, u0, b0, L0, fun j hj => ?_, U0, m0, q0, y0, dq, dy, s0, g0, e0, n0⟩
  · obtain ⟨e1, e2, e3, e4, e5, e6⟩ := t3 j hj
    exact ⟨e1, e2, e3, e4, e5, up_eq (by omega) e6⟩
  · obtain ⟨z1, z2, z3, z4, n1, z5, z6, z7, z8, z9, z10⟩ := T0 j hj
    by_cases q : j = i
    · subst q
      by_cases hb : n1 < 2 ^ 31
      · have : n1 = k + 1 := (nI_eq hb (by omega)).mp (z7.symm.trans hk)
        subst this
        exact ⟨z1, z2, z3, z4, k, by omega, by omega, ms_at _ _ _ _, fun x hx => z8 x (by omega), fun x hx => z9 x (by omega), fun x y h1 h2 => z10 x y h1 (by omega)⟩
      · exact ⟨z1, z2, z3, z4, k, by omega, by omega, ms_at _ _ _ _, fun x hx => z8 x (by omega), fun x hx => z9 x (by omega), fun x y h1 h2 => z10 x y h1 (by omega)⟩
    · refine ⟨z1, z2, z3, z4, n1, z5, z6, ?_, z8, z9, z10⟩
      rw [ms_ne q]
      exact z7
def tk_M (M : xm) (i k src : Nat) (v ow : Int32) : xm := xm_s (cb_L (xm_s (xm_s (xm_s M 13 i (nI (k + 1))) 14 (128 * i + k) v) 15 (128 * i + k) ow) 8 src 16 (128 * i + k) 8) 12 i v
theorem i32_le_trans {a b c : Int32} (h : a ≤ b) (g : b < c) : a < c := by
  rw [Int32.le_iff_toInt_le] at h
  rw [Int32.lt_iff_toInt_lt] at g ⊢
  omega
theorem i32_lt_le {a b : Int32} (h : a < b) : a ≤ b := by
  rw [Int32.lt_iff_toInt_lt] at h
  rw [Int32.le_iff_toInt_le]
  omega
theorem i32_le_rf (a : Int32) : a ≤ a := by
  rw [Int32.le_iff_toInt_le]
  omega
/-- a storage keeps a record, and is at its version -/
theorem st_tk {i k src a : Nat} {v b mk : Int32} (h : iA B fz V E P D c R n K M) (hn : n < 512) (hi : i < 2) (hk : M 13 i = nI k) (hk100 : k < 100) (he : en K fz V a v b mk (fun x => M 8 (8 * src + x))) (hv : M 12 i < v) :
    iA B fz V E (P + 1) D c R (n + 1) (xk_sI (xk_sI (xk_tR K (47 + 2 * i + B) k (some a)) 10 5 (46 + 2 * i + B) (nI (k + 1))) 10 3 (46 + 2 * i + B) v) (tk_M M i k src v (mk &&& (if i = 0 then 15 else 240))) := by
  obtain ⟨x0, o0, c0, l0, t0, u0, b0, L0, T0, U0, m0, q0, y0, dq, dy, s0, g0, e0, n0⟩ := id h
  have k47 : xk_kd K (47 + 2 * i + B) = 108 := (T0 i hi).2.2.1
  have kn : ∀ z, z ≠ 108 → xk_kd K (47 + 2 * i + B) ≠ z := fun z hz => by rw [k47]; exact fun q => hz q.symm
  obtain ⟨w1, w2, w3, w4, w5, w6, w7, w8, w9, w10, w11, w12, w13, w14⟩ := wa_all (b0 := 47 + 2 * i + B) (α := xk_ar (xk_tR K (47 + 2 * i + B) k (some a))) h (fun b j hb => by rw [tR_get, if_neg (fun z => hb z.1)])
  have t1 := w3 (kn _ (by decide))
  generalize hw : (mk &&& (if i = 0 then 15 else 240)) = ow
  have g2 : ∀ x, tk_M M i k src v ow 12 x = if x = i then v else M 12 x := fun x => by
    unfold tk_M
    rw [ms_at']
    by_cases z : x = i
    · rw [if_pos z, if_pos z]
    · rw [if_neg z, if_neg z]; rfl
  have g3 : ∀ x, tk_M M i k src v ow 13 x = if x = i then nI (k + 1) else M 13 x := fun x => ms_at' M 13 i x _
  have g4 : ∀ x, tk_M M i k src v ow 14 x = if x = 128 * i + k then v else M 14 x := fun x => ms_at' _ 14 _ x _
  have g5 : ∀ x, tk_M M i k src v ow 15 x = if x = 128 * i + k then ow else M 15 x := fun x => ms_at' _ 15 _ x _
  have g6 : ∀ x, tk_M M i k src v ow 16 x = if 8 * (128 * i + k) ≤ x ∧ x < 8 * (128 * i + k) + 8 then M 8 (8 * src + (x - 8 * (128 * i + k))) else M 16 x := fun x => by
    show cb_L (xm_s (xm_s (xm_s M 13 i (nI (k + 1))) 14 (128 * i + k) v) 15 (128 * i + k) ow) 8 src 16 (128 * i + k) 8 16 x = _
    rw [cb_get]
    by_cases q : 8 * (128 * i + k) ≤ x ∧ x < 8 * (128 * i + k) + 8
    · rw [if_pos ⟨rfl, q⟩, if_pos q]; rfl
    · rw [if_neg (fun y => q y.2), if_neg q]; rfl
  refine ⟨w11, w12, w1 (kn _ (by decide)), w2 (kn _ (by decide)), ⟨t1.1, t1.2.1, fun j hj => ?_⟩, w4 (kn _ (by decide)), b0, fun j hj => ?_, fun j hj => ?_, w13, w7 (kn _ (by decide)), (w8 (kn _ (by decide)) (kn _ (by decide))).1, (w9 (kn _ (by decide)) (kn _ (by decide))).1, (w8 (kn _ (by decide)) (kn _ (by decide))).2, (w9 (kn _ (by decide)) (kn _ (by decide))).2, w10 (kn _ (by decide)), w14, e0, ?_⟩
  · obtain ⟨e1, e2, e3, e4, e5, e6⟩ := t1.2.2 j hj
    have e5' : xk_iv (xk_sI (xk_tR K (47 + 2 * i + B) k (some a)) 10 5 (46 + 2 * i + B) (nI (k + 1))) 10 3 (46 + 2 * j + B) = cb_L (xm_s (xm_s (xm_s M 13 i (nI (k + 1))) 14 (128 * i + k) v) 15 (128 * i + k) ow) 8 src 16 (128 * i + k) 8 12 j := e5
    have e6' : xk_iv (xk_sI (xk_tR K (47 + 2 * i + B) k (some a)) 10 5 (46 + 2 * i + B) (nI (k + 1))) 10 5 (46 + 2 * j + B) = xm_s M 13 i (nI (k + 1)) 13 j := up_eq (by omega) e6
    exact ⟨e1, e2, e3, e4, up_eq (by omega) e5', e6'⟩
  · obtain ⟨z1, z2, z3, z4, z5, z6, z7, n1, z8, z9, z10⟩ := L0 j hj
    refine ⟨z1, z2, z3, z4, z5, z6, z7, n1, z8, z9, fun x hx => ?_⟩
    obtain ⟨a', b', y1, y2⟩ := z10 x hx
    refine ⟨a', b', ?_, y2⟩
    show xk_ar (xk_tR K (47 + 2 * i + B) k (some a)) (39 + 3 * j + B) x = some a'
    rw [tR_get, if_neg (fun z => by omega)]
    exact y1
  · obtain ⟨z1, z2, z3, z4, n1, z5, z6, z7, z8, z9, z10⟩ := T0 j hj
    by_cases q : j = i
    · subst q
      have hV : n1 < 2 ^ 31 := by
        have := jT_100 n0 hn z5 z6
        omega
      have : n1 = k := (nI_eq hV (by omega)).mp (z7.symm.trans hk)
      subst this
      have f14 : ∀ x, x < n1 → tk_M M j n1 src v ow 14 (128 * j + x) = M 14 (128 * j + x) := fun x hx => by rw [g4, if_neg (by omega)]
      have f14n : tk_M M j n1 src v ow 14 (128 * j + n1) = v := by rw [g4, if_pos rfl]
      have inc : ∀ x y, x < y → y < n1 + 1 → tk_M M j n1 src v ow 14 (128 * j + x) < tk_M M j n1 src v ow 14 (128 * j + y) := fun x y hxy hy => by
        rw [f14 x (by omega)]
        by_cases hy' : y = n1
        · subst hy'
          rw [f14n]
          exact i32_le_trans (z9 x hxy) hv
        · rw [f14 y (by omega)]
          exact z10 x y hxy (by omega)
      have ent : ∀ x, x < n1 + 1 → ∃ a' b' m', xk_ar (xk_tR K (47 + 2 * j + B) n1 (some a)) (47 + 2 * j + B) x = some a' ∧ tk_M M j n1 src v ow 15 (128 * j + x) = (m' &&& (if j = 0 then 15 else 240)) ∧ en K fz V a' (tk_M M j n1 src v ow 14 (128 * j + x)) b' m' (fun y => tk_M M j n1 src v ow 16 (8 * (128 * j + x) + y)) := fun x hx => by
        by_cases hx' : x = n1
        · subst hx'
          refine ⟨a, b, mk, ?_, ?_, ?_⟩
          · rw [tR_get, if_pos ⟨rfl, rfl⟩]
          · rw [g5, if_pos rfl]; exact hw.symm
          · rw [f14n]
            refine en_cg he (fun y hy => ?_)
            rw [g6, if_pos (by omega), Nat.add_sub_cancel_left]
        · obtain ⟨a', b', m', y1, y2, y3⟩ := z8 x (by omega)
          refine ⟨a', b', m', ?_, ?_, ?_⟩
          · rw [tR_get, if_neg (fun z => hx' z.2)]; exact y1
          · rw [g5, if_neg (by omega)]; exact y2
          · rw [f14 x (by omega)]
            refine en_cg y3 (fun y hy => ?_)
            rw [g6, if_neg (by omega)]
      refine ⟨z1, z2, z3, z4, n1 + 1, by omega, pig (f := fun x => tk_M M j n1 src v ow 14 (128 * j + x)) (n1 + 1) V (fun x hx => ?_) inc, by rw [g3, if_pos rfl], ent, fun x hx => ?_, inc⟩
      · obtain ⟨a', b', m', -, -, y3⟩ := ent x hx
        exact y3.2.2.2.1
      · rw [g2, if_pos rfl]
        by_cases hx' : x = n1
        · subst hx'
          rw [f14n]
          exact i32_le_rf _
        · rw [f14 x (by omega)]
          exact i32_lt_le (i32_le_trans (z9 x (by omega)) hv)
    · have hn1 : n1 < 100 := jT_100 n0 hn z5 z6
      have f14 : ∀ x, x < n1 → tk_M M i k src v ow 14 (128 * j + x) = M 14 (128 * j + x) := fun x hx => by rw [g4, if_neg (by omega)]
      refine ⟨z1, z2, z3, z4, n1, by omega, z6, by rw [g3, if_neg q]; exact z7, fun x hx => ?_, fun x hx => ?_, fun x y hxy hy => ?_⟩
      · obtain ⟨a', b', m', y1, y2, y3⟩ := z8 x hx
        refine ⟨a', b', m', ?_, ?_, ?_⟩
        · show xk_ar (xk_tR K (47 + 2 * i + B) k (some a)) (47 + 2 * j + B) x = some a'
          rw [tR_get, if_neg (fun z => by omega)]; exact y1
        · rw [g5, if_neg (by omega)]; exact y2
        · rw [f14 x hx]
          refine en_cg (K := K) (by exact y3) (fun y hy => ?_)
          rw [g6, if_neg (by omega)]
      · rw [f14 x hx, g2, if_neg q]
        exact z9 x hx
      · rw [f14 x (by omega), f14 y hy]
        exact z10 x y hxy hy
  · unfold jN at n0 ⊢
    show 5 * V.length + (P + 1) + (ph (M 40 0) (M 44 0) + ph (M 40 1) (M 44 1) + ph (M 40 2) (M 44 2)) + 4 * cN (M 48) c ≤ n + 1
    omega
end
section
variable {B : Nat} {fz : Nat → Prop} {V : List Int32} {E P : Nat} {c : Nat} {R : Nat → Nat} {n : Nat} {K : xk} {M : xm}
theorem i32_nle {a b : Int32} (h : ¬ a ≤ b) : b < a := by
  rw [Int32.le_iff_toInt_le] at h
  rw [Int32.lt_iff_toInt_lt]
  omega
theorem i32_nlt {a b : Int32} (h : ¬ a < b) : b ≤ a := by
  rw [Int32.lt_iff_toInt_lt] at h
  rw [Int32.le_iff_toInt_le]
  omega
theorem i32_lt_nle {a b : Int32} (h : a < b) : ¬ b ≤ a := by
  rw [Int32.lt_iff_toInt_lt] at h
  rw [Int32.le_iff_toInt_le]
  omega
theorem i32_ltle {a b c : Int32} (h : a < b) (g : b ≤ c) : a ≤ c := by
  rw [Int32.le_iff_toInt_le] at g ⊢
  rw [Int32.lt_iff_toInt_lt] at h
  omega
theorem jT_cnt (h : iA B fz V E P (fun _ => 0) c R n K M) (hn : n < 512) {i : Nat} (hi : i < 2) : ∃ k, k < 100 ∧ M 13 i = nI k ∧ ∀ k', M 13 i = nI k' → k' ≤ P → k' = k := by
  obtain ⟨x0, o0, c0, l0, t0, u0, b0, L0, T0, U0, m0, q0, y0, dq, dy, s0, g0, e0, n0⟩ := h
  obtain ⟨z1, z2, z3, z4, n1, z5, z6, z7, -⟩ := T0 i hi
  have h1 := jT_100 n0 hn z5 z6
  refine ⟨n1, h1, z7, fun k' hk' hP => (nI_eq ?_ (by omega)).mp (hk'.symm.trans z7)⟩
  unfold jN at n0
  omega
theorem gb_loop {s l : Nat} {b : Int32} (hs : s < 2) (hn : n < 512) : ∀ (k m : Nat) (K : xk) (M : xm), iA B fz V E P (fun _ => 0) c R n K M → M 13 s = nI k → k < 100 → k < m →
    ∃ K' M', kf_Storage_goBackTo_90000 m K (46 + 2 * s + B) b = kf_Storage_goBackTo_38 K' (46 + 2 * s + B) b ∧ kf_EM_join_19 m M (nI s) (nI l) b = kf_EM_join_64 M' (nI s) (nI l) b ∧ iA B fz V E P (fun _ => 0) c R n K' M' ∧ (∀ f, f ≠ 13 → M' f = M f) ∧ ∃ k', k' < 100 ∧ M' 13 s = nI k' ∧ ∀ j, j < k' → M' 14 (128 * s + j) ≤ b := by
  intro k
  induction k with
  | zero =>
    intro m K M h hk hk100 hm
    obtain ⟨m, rfl⟩ : ∃ m', m = m' + 1 := ⟨m - 1, by omega⟩
    obtain ⟨x0, o0, c0, l0, t0, u0, b0, L0, T0, U0, m0, q0, y0, dq, dy, s0, g0, e0, n0⟩ := id h
    obtain ⟨f1, f2, f3, f4, f5, f6⟩ := t0.2.2 s hs
    refine ⟨K, M, ?_, ?_, h, fun _ _ => rfl, 0, by omega, hk, fun j hj => by omega⟩
    · show kb_Storage_goBackTo_90000 (kf_Storage_goBackTo_90000 m) K (46 + 2 * s + B) b = _
      unfold kb_Storage_goBackTo_90000
      rw [xI_at f2 (f6.trans hk), xb_some, if_pos (show nI 0 ≤ 0 by decide)]
    · show kb_EM_join_19 (kf_EM_join_19 m) M (nI s) (nI l) b = _
      unfold kb_EM_join_19
      rw [xMi_at hs (by decide) hk, xb_some, if_pos (show nI 0 ≤ 0 by decide)]
  | succ k ih =>
    intro m K M h hk hk100 hm
    obtain ⟨m, rfl⟩ : ∃ m', m = m' + 1 := ⟨m - 1, by omega⟩
    obtain ⟨x0, o0, c0, l0, t0, u0, b0, L0, T0, U0, m0, q0, y0, dq, dy, s0, g0, e0, n0⟩ := id h
    obtain ⟨f1, f2, f3, f4, f5, f6⟩ := t0.2.2 s hs
    obtain ⟨z1, z2, z3, z4, n1, z5, z6, z7, z8, z9, z10⟩ := T0 s hs
    have : n1 = k + 1 := (nI_eq (by have := jT_100 n0 hn z5 z6; omega) (by omega)).mp (z7.symm.trans hk)
    subst this
    obtain ⟨a, b', mk, y1, y2, y3⟩ := z8 k (by omega)
    have ix : (128 : Int32) * nI s + nI (k + 1) - 1 = nI (128 * s + k) := by
      show nI 128 * nI s + nI (k + 1) - 1 = _
      rw [pk_mul, nI_add, show 128 * s + (k + 1) = 128 * s + k + 1 by omega, nI_pred]
    have b256 : 128 * s + k < 256 := by omega
    have f6' : xk_iv K 10 5 (46 + 2 * s + B) = nI (k + 1) := f6.trans hk
    have m13 : xMi M 13 (nI s) = some (nI (k + 1)) := xMi_at hs (by decide) hk
    have ek : kf_Storage_goBackTo_90000 (m + 1) K (46 + 2 * s + B) b = if M 14 (128 * s + k) ≤ b then kf_Storage_goBackTo_38 K (46 + 2 * s + B) b else kf_Storage_goBackTo_90000 m (xk_sI K 10 5 (46 + 2 * s + B) (nI k)) (46 + 2 * s + B) b := by
      show kb_Storage_goBackTo_90000 (kf_Storage_goBackTo_90000 m) K (46 + 2 * s + B) b = _
      unfold kb_Storage_goBackTo_90000
      rw [xI_at f2 f6', xb_some, if_neg (nI_nle (by omega) (by omega)), xR_at f2 z2, xb_some, xb_some, xb_some, nI_pred, xRa_ok z3 z4 (by omega) (by decide), y1, xb_some, xb_some, xI_at y3.1 y3.2.1, xb_some, xb_some, nI_pred, xIs_ok f2, xb_some]
    have em : kf_EM_join_19 (m + 1) M (nI s) (nI l) b = if M 14 (128 * s + k) ≤ b then kf_EM_join_64 M (nI s) (nI l) b else kf_EM_join_19 m (xm_s M 13 s (nI k)) (nI s) (nI l) b := by
      show kb_EM_join_19 (kf_EM_join_19 m) M (nI s) (nI l) b = _
      unfold kb_EM_join_19 kf_EM_join_61
      rw [m13, xb_some, if_neg (nI_nle (by omega) (by omega)), xb_some, ix, xMi_ok b256 (by decide), xb_some, xb_some, nI_pred, xMt_ok hs (by decide), xb_some]
    rw [ek, em]
    by_cases hb : M 14 (128 * s + k) ≤ b
    · rw [if_pos hb, if_pos hb]
      refine ⟨K, M, rfl, rfl, h, fun _ _ => rfl, k + 1, by omega, hk, fun j hj => ?_⟩
      by_cases q : j = k
      · rw [q]; exact hb
      · exact i32_ltle (z10 j k (by omega) (by omega)) hb
    · rw [if_neg hb, if_neg hb]
      obtain ⟨K', M', p1, p2, p3, p4, p5⟩ := ih m _ _ (st_tc h hs hk (by omega)) (ms_at _ _ _ _) (by omega) (by omega)
      refine ⟨K', M', p1, p2, p3, fun f hf => (p4 f hf).trans ?_, p5⟩
      funext j
      rw [ms_get, if_neg (fun z => hf z.1)]
theorem sc_l {s l nn : Nat} {v : Int32} (h : iA B fz V E P (fun _ => 0) c R n K M) (hs : s < 2) (hl : l < 3) (hn : M 5 l = nI nn) (hnn : nn ≤ 100) (hv : M 12 s = v) : ∀ d j m, j + d = nn → d < m →
    (kf_Log_firstAbove_2 m K (37 + 3 * l + B) v (nI j) = some (none, K) ∧ kf_EM_pull_89 m M (nI s) (nI l) (nI (100 * l + j)) (nI (100 * l + nn)) = kf_EM_pull_116 M (nI s) (nI l) (nI (100 * l + nn)) (nI (100 * l + nn))) ∨
    ∃ p a b, p < nn ∧ xk_ar K (39 + 3 * l + B) p = some a ∧ v < M 6 (100 * l + p) ∧ en K fz V a (M 6 (100 * l + p)) b (M 7 (100 * l + p)) (fun x => M 8 (8 * (100 * l + p) + x)) ∧ kf_Log_firstAbove_2 m K (37 + 3 * l + B) v (nI j) = some (some a, K) ∧ kf_EM_pull_89 m M (nI s) (nI l) (nI (100 * l + j)) (nI (100 * l + nn)) = kf_EM_pull_116 M (nI s) (nI l) (nI (100 * l + p)) (nI (100 * l + nn)) := by
  obtain ⟨x0, o0, c0, l0, t0, u0, b0, L0, T0, U0, m0, q0, y0, dq, dy, s0, g0, e0, n0⟩ := id h
  obtain ⟨f1, f2, f3, f4, f5, f6, f7⟩ := l0.2.2 l hl
  obtain ⟨z1, z2, z3, z4, z5, z6, z7, n1, z8, z9, z10⟩ := L0 l hl
  have : n1 = nn := (nI_eq (by omega) (by omega)).mp (z9.symm.trans hn)
  subst this
  have f7' : xk_iv K 9 6 (37 + 3 * l + B) = nI n1 := f7.trans hn
  intro d
  induction d with
  | zero =>
    intro j m hj hm
    obtain ⟨m, rfl⟩ : ∃ m', m = m' + 1 := ⟨m - 1, by omega⟩
    have : j = n1 := by omega
    subst this
    refine Or.inl ⟨?_, ?_⟩
    · show kb_Log_firstAbove_2 (kf_Log_firstAbove_2 m) K (37 + 3 * l + B) v (nI j) = _
      unfold kb_Log_firstAbove_2
      rw [xI_at f2 f7', xb_some, if_pos (nI_le (Nat.le_refl _) (by omega))]
    · show kb_EM_pull_89 (kf_EM_pull_89 m) M (nI s) (nI l) (nI (100 * l + j)) (nI (100 * l + j)) = _
      unfold kb_EM_pull_89
      rw [if_pos (nI_le (Nat.le_refl _) (by omega))]
  | succ d ih =>
    intro j m hj hm
    obtain ⟨m, rfl⟩ : ∃ m', m = m' + 1 := ⟨m - 1, by omega⟩
    obtain ⟨a, b, y1, y2⟩ := z10 j (by omega)
    have b300 : 100 * l + j < 300 := by omega
    have ek : kf_Log_firstAbove_2 (m + 1) K (37 + 3 * l + B) v (nI j) = if M 6 (100 * l + j) ≤ v then kf_Log_firstAbove_2 m K (37 + 3 * l + B) v (nI (j + 1)) else some (some a, K) := by
      show kb_Log_firstAbove_2 (kf_Log_firstAbove_2 m) K (37 + 3 * l + B) v (nI j) = _
      unfold kb_Log_firstAbove_2
      have ra : xRa K 8 (39 + 3 * l + B) (nI j) = some (some a) := by rw [xRa_ok z6 z7 (by omega) (by decide), y1]
      rw [xI_at f2 f7', xb_some, if_neg (nI_ge (by omega) (by omega)), xR_at f2 z2]
      simp only [xb_some, ra]
      rw [xI_at y2.1 y2.2.1, xb_some, nI_1]
    have em : kf_EM_pull_89 (m + 1) M (nI s) (nI l) (nI (100 * l + j)) (nI (100 * l + n1)) = if v < M 6 (100 * l + j) then kf_EM_pull_116 M (nI s) (nI l) (nI (100 * l + j)) (nI (100 * l + n1)) else kf_EM_pull_89 m M (nI s) (nI l) (nI (100 * l + (j + 1))) (nI (100 * l + n1)) := by
      show kb_EM_pull_89 (kf_EM_pull_89 m) M (nI s) (nI l) (nI (100 * l + j)) (nI (100 * l + n1)) = _
      unfold kb_EM_pull_89
      rw [if_neg (nI_ge (by omega) (by omega)), xMi_ok b300 (by decide), xb_some, xMi_at hs (by decide) hv, xb_some, nI_1]
      rfl
    rw [ek, em]
    by_cases hx : M 6 (100 * l + j) ≤ v
    · rw [if_pos hx, if_neg (fun z => i32_lt_nle z hx)]
      exact ih (j + 1) m (by omega) (by omega)
    · rw [if_neg hx, if_pos (i32_nle hx)]
      exact Or.inr ⟨j, a, b, by omega, y1, i32_nle hx, y2, rfl, rfl⟩
theorem kp_loop {N : xm} {src q : Nat} (hs : src < 300) (hq : q < 256) : ∀ (d x m : Nat), x + d = 8 → d < m → kf_EM_keep_72 m (cb_L N 8 src 16 q x) (nI src) (nI q) (nI x) = some (cb_L N 8 src 16 q 8) := by
  intro d
  induction d with
  | zero =>
    intro x m hx hm
    obtain ⟨m, rfl⟩ : ∃ m', m = m' + 1 := ⟨m - 1, by omega⟩
    have : x = 8 := by omega
    subst this
    show kb_EM_keep_72 (kf_EM_keep_72 m) _ _ _ (nI 8) = _
    unfold kb_EM_keep_72
    rw [if_pos (show (8 : Int32) ≤ nI 8 from nI_le (a := 8) (b := 8) (Nat.le_refl _) (by decide))]
  | succ d ih =>
    intro x m hx hm
    obtain ⟨m, rfl⟩ : ∃ m', m = m' + 1 := ⟨m - 1, by omega⟩
    show kb_EM_keep_72 (kf_EM_keep_72 m) _ _ _ (nI x) = _
    unfold kb_EM_keep_72
    rw [if_neg (show ¬ (8 : Int32) ≤ nI x from nI_ge (a := x) (b := 8) (by omega) (by decide)), ix_8, xMi_ok (by show 8 * src + x < 2400; omega) (by decide), xb_some, ix_8, xMt_ok (by show 8 * q + x < 2048; omega) (by decide), xb_some, nI_1, cb_src (by decide), cb_step]
    exact ih (x + 1) m (by omega) (by omega)
theorem adv {s l : Nat} (h : iA B fz V E P (fun _ => 0) c R n K M) (hn : n < 512) (hs : s < 2) (hl : l < 3) :
    ∃ r K' M', kf_Storage_advanceFrom_61 K (46 + 2 * s + B) (37 + 3 * l + B) = some (r, K') ∧ kf_EM_pull_74 M (nI s) (nI l) = some (r, M') ∧ iV B (n + 1) K' M' := by
  obtain ⟨x0, o0, c0, l0, t0, u0, b0, L0, T0, U0, m0, q0, y0, dq, dy, s0, g0, e0, n0⟩ := id h
  obtain ⟨f1, f2, f3, f4, f5, f6⟩ := t0.2.2 s hs
  obtain ⟨h1, h2, h3, h4, h5, h6, h7⟩ := l0.2.2 l hl
  obtain ⟨z1, z2, z3, z4, z5, z6, z7, nn, z8, z9, z10⟩ := L0 l hl
  obtain ⟨t1, t2, t3, t4, k, t5, t6, t7, t8, t9, t10⟩ := T0 s hs
  have k100 := jT_100 n0 hn t5 t6
  have i100 : (100 : Int32) * nI l = nI (100 * l + 0) := pk_mul 100 l
  unfold kf_Storage_advanceFrom_61 kf_EM_pull_74 kf_Log_firstAbove_0
  rw [xI_at f2 f5, xb_some, xO_ok h2, xb_some, xMi_at hl (by decide) z9, xb_some, i100, nI_add, show 100 * l + 0 + nn = 100 * l + nn by omega]
  have hsc := sc_l h hs hl z9 z8 rfl nn 0 1000 (by omega) (by omega)
  have same : ∀ v : Int32, (∀ k', M 13 s = nI k' → k' ≤ P → ∀ j, j < k' → M 14 (128 * s + j) ≤ v) → iA B fz V E P (fun _ => 0) c R n (xk_sI K 10 3 (46 + 2 * s + B) v) (xm_s M 12 s v) := fun v hv => st_t3 h hs hv
  have cnt : ∀ k', M 13 s = nI k' → k' ≤ P → k' = k := fun k' hk' hP => (nI_eq (by unfold jN at n0; omega) (by omega)).mp (hk'.symm.trans t7)
  rcases hsc with ⟨p1, p2⟩ | ⟨p, a, b, hp, pa, pv, pe, p1, p2⟩
  · have p1' : kf_Log_firstAbove_2 1000 K (37 + 3 * l + B) (M 12 s) 0 = some (none, K) := p1
    rw [p1', p2, xp_some, if_pos rfl, xI_at f2 f5, xb_some, xI_at h2 h6, xb_some, xIs_ok f2, xb_some, xI_at (by exact f2) (sI_at _ _ _ _ _), xb_some]
    unfold kf_EM_pull_116 kf_EM_pull_158
    have m4 : xMi M 4 (nI l) = some (M 4 l) := xMi_ok hl (by decide)
    have m12 : xMi M 12 (nI s) = some (M 12 s) := xMi_ok hs (by decide)
    rw [if_pos (nI_le (Nat.le_refl _) (by omega)), m4, m12]
    simp only [xb_some]
    by_cases he : M 4 l ≤ M 12 s
    · rw [if_neg (fun z => i32_lt_nle z he), if_pos he]
      refine ⟨_, _, _, rfl, rfl, fz, V, E, P, c, R, ?_⟩
      have := same (M 12 s) (fun k' hk' hP j hj => by rw [cnt k' hk' hP] at hj; exact t9 j hj)
      rw [xm_same rfl] at this
      exact iA_mono this (by omega)
    · have he' := i32_nle he
      rw [if_pos he', if_neg he, xMt_ok hs (by decide), xb_some, xMi_at hs (by decide) (ms_at _ _ _ _), xb_some]
      refine ⟨_, _, _, rfl, rfl, fz, V, E, P, c, R, ?_⟩
      exact iA_mono (same (M 4 l) (fun k' hk' hP j hj => by rw [cnt k' hk' hP] at hj; exact i32_lt_le (i32_le_trans (t9 j hj) he'))) (by omega)
  · have p1' : kf_Log_firstAbove_2 1000 K (37 + 3 * l + B) (M 12 s) 0 = some (some a, K) := p1
    obtain ⟨a1, a2, a3, a4, w, a5, a6, a7⟩ := id pe
    have b300 : 100 * l + p < 300 := by omega
    have m7 : xMi M 7 (nI (100 * l + p)) = some (M 7 (100 * l + p)) := xMi_ok b300 (by decide)
    have f6' : xk_iv K 10 5 (46 + 2 * s + B) = nI k := f6.trans t7
    rw [p1', p2, xp_some, if_neg (fun z => by cases z), xb_some, xO_ok f2, xb_some]
    unfold kf_Storage_keep_0 kf_EM_pull_116 kf_EM_keep_0
    rw [if_neg (nI_ge (by omega) (by omega)), xR_at a1 a5, xb_some, xb_some, xI_at a7.1 a7.2.1, xb_some, xI_at f2 t1, xb_some, m7, xb_some]
    have hkeep : (if nI s = 0 then kf_EM_keep_18 M (nI s) (nI (100 * l + p)) 15 (M 7 (100 * l + p)) else kf_EM_keep_18 M (nI s) (nI (100 * l + p)) 240 (M 7 (100 * l + p))) = kf_EM_keep_18 M (nI s) (nI (100 * l + p)) (if s = 0 then 15 else 240) (M 7 (100 * l + p)) := by
      by_cases q : s = 0
      · rw [if_pos q, q, if_pos (by decide)]
      · rw [if_neg q, if_neg (show ¬ nI s = (0 : Int32) from fun z => q ((nI_eq (a := s) (b := 0) (by omega) (by decide)).mp z))]
    rw [hkeep]
    unfold kf_EM_keep_18
    by_cases ho : (M 7 (100 * l + p) &&& (if s = 0 then 15 else 240)) = 0
    · have m6 : xMi M 6 (nI (100 * l + p)) = some (M 6 (100 * l + p)) := xMi_ok b300 (by decide)
      rw [if_pos ho, if_pos ho, xb_some, xI_at a1 a2, xb_some, xIs_ok f2, xb_some, xI_at (by exact f2) (sI_at _ _ _ _ _), xb_some, xb_some, m6, xb_some, xMt_ok hs (by decide), xb_some, xMi_at hs (by decide) (ms_at _ _ _ _), xb_some]
      refine ⟨_, _, _, rfl, rfl, fz, V, E, P, c, R, ?_⟩
      exact iA_mono (same _ (fun k' hk' hP j hj => by rw [cnt k' hk' hP] at hj; exact i32_lt_le (i32_le_trans (t9 j hj) pv))) (by omega)
    · have c100 : ¬ (100 : Int32) ≤ nI k := nI_ge (a := k) (b := 100) k100 (by decide)
      have hB := st_tk (src := 100 * l + p) h hn hs t7 k100 pe pv
      have i7 : xI (xk_tR K (47 + 2 * s + B) k (some a)) 10 5 (46 + 2 * s + B) = some (nI k) := xI_at f2 f6'
      have i30 : xI (xk_sI (xk_tR K (47 + 2 * s + B) k (some a)) 10 5 (46 + 2 * s + B) (nI (k + 1))) 3 0 a = some (M 6 (100 * l + p)) := xI_at a1 a2
      have m13 : xMi M 13 (nI s) = some (nI k) := xMi_at hs (by decide) t7
      have m6 : xMi (xm_s M 13 s (nI (k + 1))) 6 (nI (100 * l + p)) = some (M 6 (100 * l + p)) := xMi_ok b300 (by decide)
      have ix : (128 : Int32) * nI s + nI k = nI (128 * s + k) := by
        show nI 128 * nI s + nI k = _
        rw [pk_mul, nI_add]
      have b256 : 128 * s + k < 256 := by omega
      rw [if_neg ho, if_neg ho, xI_at f2 f6', xb_some, if_neg c100, xR_at f2 t2, xb_some, xb_some, xb_some, xRt_ok t3 t4 k100 (by decide) (by exact a1), xb_some, i7, xb_some, nI_1, xIs_ok (by exact f2), xb_some, xb_some, i30, xb_some, xIs_ok (by exact f2), xb_some, xI_at (by exact f2) (sI_at _ _ _ _ _), xb_some, m13]
      simp only [xb_some]
      rw [nI_1, xMt_ok hs (by decide), xb_some, m6, xb_some, ix, xMt_ok b256 (by decide), xb_some]
      unfold kf_EM_keep_61
      rw [xMt_ok b256 (by decide), xb_some]
      have hl' := kp_loop (N := xm_s (xm_s (xm_s M 13 s (nI (k + 1))) 14 (128 * s + k) (M 6 (100 * l + p))) 15 (128 * s + k) (M 7 (100 * l + p) &&& (if s = 0 then 15 else 240))) (src := 100 * l + p) (q := 128 * s + k) b300 b256 8 0 1000 (by omega) (by omega)
      rw [cb_0] at hl'
      have hl2 : kf_EM_keep_72 1000 (xm_s (xm_s (xm_s M 13 s (nI (k + 1))) 14 (128 * s + k) (M 6 (100 * l + p))) 15 (128 * s + k) (M 7 (100 * l + p) &&& (if s = 0 then 15 else 240))) (nI (100 * l + p)) (nI (128 * s + k)) 0 = some (cb_L (xm_s (xm_s (xm_s M 13 s (nI (k + 1))) 14 (128 * s + k) (M 6 (100 * l + p))) 15 (128 * s + k) (M 7 (100 * l + p) &&& (if s = 0 then 15 else 240))) 8 (100 * l + p) 16 (128 * s + k) 8) := hl'
      have g6 : xMi (cb_L (xm_s (xm_s (xm_s M 13 s (nI (k + 1))) 14 (128 * s + k) (M 6 (100 * l + p))) 15 (128 * s + k) (M 7 (100 * l + p) &&& (if s = 0 then 15 else 240))) 8 (100 * l + p) 16 (128 * s + k) 8) 6 (nI (100 * l + p)) = some (M 6 (100 * l + p)) := xMi_ok b300 (by decide)
      rw [hl2, xb_some, g6, xb_some, xMt_ok hs (by decide), xb_some, xMi_at hs (by decide) (ms_at _ _ _ _), xb_some]
      exact ⟨_, _, _, rfl, rfl, fz, V, E, P + 1, c, R, hB⟩
theorem kp_pull (B : Nat) : lo_s14 (iV B) B := fun n K M a b hn h => by
  obtain ⟨fz, V, E, P, c, R, hA⟩ := id h
  obtain ⟨x0, o0, c0, l0, t0, u0, b0, L0, T0, U0, m0, q0, y0, dq, dy, s0, g0, e0, n0⟩ := id hA
  have h10 : ¬ (1 : Int32) = 0 := by decide
  have no : ∀ r : Int32, iV B (n + 1) K M := fun _ => iV_next h
  unfold kf_ES_pull_0 kf_EM_pull_0 kf_ES_isStorage_0 kf_ES_isLog_0 kf_EM_pull_51
  rcases pi_2 a with h | ⟨h1, h2, h3, h4⟩ | ⟨s, hs, rfl, h1, h2, h3, h4⟩
  · exact ⟨-1, K, M, by simp [h, xp_some], by simp [h], no 0⟩
  · exact ⟨-1, K, M, by simp [h1, h2, xp_some], by simp [h1, h3], no 0⟩
  · rcases pi_3 b with h | ⟨g1, g2, g3, g4⟩ | ⟨l, hl, rfl, g1, g2, g3, g4⟩
    · exact ⟨-1, K, M, by simp [h1, h2, h, xp_some], by simp [h1, h3, h], no 0⟩
    · exact ⟨-1, K, M, by simp [h1, h2, g1, g2, xp_some], by simp [h1, h3, g1, g3], no 0⟩
    · obtain ⟨f1, f2, f3, f4, f5, f6⟩ := t0.2.2 s hs
      obtain ⟨k1, k2, k3, k4, k5, k6, k7⟩ := l0.2.2 l hl
      obtain ⟨z1, z2, z3, z4, z5, z6, z7, nn, z8, z9, z10⟩ := L0 l hl
      have m11 : xMi M 11 (nI s) = some (M 11 s) := xMi_ok hs (by decide)
      have m3 : xMi M 3 (nI l) = some (M 3 l) := xMi_ok hl (by decide)
      have m2 : xMi M 2 (nI l) = some (M 2 l) := xMi_ok hl (by decide)
      have m10 : xMi M 10 (nI s) = some (M 10 s) := xMi_ok hs (by decide)
      rw [if_neg h1, if_neg h2, if_neg h1, if_neg h3, xp_some, if_neg h10, if_neg g1, if_neg g2, if_neg g1, if_neg g3, xp_some, if_neg h10, xR_ok o0.1, o0.2.2.2.1, xb_some, xb_some, xRa_ok t0.1 t0.2.1 hs (by decide), f1, xb_some, xR_ok o0.1, o0.2.2.1, xb_some, xb_some, xRa_ok l0.1 l0.2.1 hl (by decide), k1, xb_some, xb_some, xb_some, xO_ok f2, xb_some, m11]
      unfold kf_Storage_advanceFrom_0
      rw [xI_at f2 f3, xb_some, xb_some]
      by_cases hu : M 11 s = 0
      · rw [if_pos hu, if_pos hu, xp_some]
        exact ⟨-1, K, M, rfl, rfl, no 0⟩
      · rw [if_neg hu, if_neg hu, xI_at k2 k4, m3]
        simp only [xb_some]
        by_cases hv : M 3 l = 0
        · rw [if_pos hv, if_pos hv, xp_some]
          exact ⟨-1, K, M, rfl, rfl, no 0⟩
        · rw [if_neg hv, if_neg hv, xI_at k2 k5, xI_at f2 f4, m2, m10]
          simp only [xb_some]
          by_cases hw : M 10 s ≤ M 2 l
          · rw [if_pos hw, if_pos hw]
            by_cases hx : M 2 l ≤ M 10 s
            · rw [if_pos hx, if_pos hx]
              obtain ⟨r, K', M', r1, r2, r3⟩ := adv hA hn hs hl
              rw [r1, r2, xp_some]
              exact ⟨r, K', M', rfl, rfl, r3⟩
            · rw [if_neg hx, if_neg hx]
              obtain ⟨es, es1, es9, es3⟩ := e0.2.2.2.2.2.2.1 s hs
              obtain ⟨el, el1, elE, el3, el4⟩ := e0.2.2.2.2.2.1 l hl
              have E9 := e0.2.1
              have hlt : es < el := by
                have := i32_nle hx
                rw [es3, el3] at this
                exact (nI_ltI (by omega) (by omega)).mp this
              obtain ⟨k, kk, k13, -⟩ := jT_cnt hA hn hs
              obtain ⟨K1, M1, p1, p2, p3, p4, k', pk', p13, ple⟩ := gb_loop (l := l) (b := M 9 (10 * l + (es + 1))) hs hn k 1000 K M hA k13 kk (by omega)
              have ixm : (10 : Int32) * nI l + nI es + 1 = nI (10 * l + (es + 1)) := by
                show nI 10 * nI l + nI es + 1 = _
                rw [pk_mul, nI_add, nI_1]
                rfl
              unfold kf_Storage_goBackTo_0 kf_EM_join_0
              rw [xR_at k2 z1, xb_some, xb_some, es3, nI_1, xIa_ok z3 z4 (by omega) (by decide), xb_some, z5 (es + 1) (by omega), xO_ok f2, xb_some, p1, xMi_at hs (by decide) es3, xb_some, ixm, xMi_ok (by show 10 * l + (es + 1) < 30; omega) (by decide), xb_some, p2]
              obtain ⟨x0', o0', c0', l0', t0', u0', b0', L0', T0', U0', m0', q0', y0', dq', dy', s0', g0', e0', n0'⟩ := id p3
              obtain ⟨v1, v2, v3, v4, v5, v6⟩ := t0'.2.2 s hs
              obtain ⟨w1, w2, w3, w4, w5, w6, w7⟩ := l0'.2.2 l hl
              obtain ⟨t1, t2, t3, t4, kq, t5, t6, t7, t8, t9, t10⟩ := T0' s hs
              have m2' : M1 2 l = nI el := (congrFun (p4 2 (by decide)) l).trans el3
              have kq' : ∀ k2, M1 13 s = nI k2 → k2 ≤ P → k2 = k' := fun k2 h2 hP => (nI_eq (by unfold jN at n0'; omega) (by omega)).mp (h2.symm.trans p13)
              have hkq : kq = k' := kq' kq t7 t5
              generalize M 9 (10 * l + (es + 1)) = bb at ple
              have min_eq : (if bb < M1 12 s then bb else M1 12 s) = if M1 12 s ≤ bb then M1 12 s else bb := by
                by_cases q : M1 12 s ≤ bb
                · rw [if_pos q, if_neg (fun z => i32_lt_nle z q)]
                · rw [if_neg q, if_pos (i32_nle q)]
              have hmin : ∀ k2, M1 13 s = nI k2 → k2 ≤ P → ∀ j, j < k2 → M1 14 (128 * s + j) ≤ (if M1 12 s ≤ bb then M1 12 s else bb) := fun k2 h2 hP j hj => by
                rw [kq' k2 h2 hP] at hj
                by_cases q : M1 12 s ≤ bb
                · rw [if_pos q]; exact t9 j (by omega)
                · rw [if_neg q]; exact ple j hj
              have hB := st_t2 (e := el) (st_t3 (v := if M1 12 s ≤ bb then M1 12 s else bb) p3 hs hmin) hs el1 (by omega)
              have hj89 : kf_EM_join_64 M1 (nI s) (nI l) bb = some (xm_s (xm_s M1 12 s (if M1 12 s ≤ bb then M1 12 s else bb)) 10 s (nI el)) := by
                unfold kf_EM_join_64 kf_EM_join_89
                have n12 : xMi M1 12 (nI s) = some (M1 12 s) := xMi_ok hs (by decide)
                rw [n12]
                simp only [xb_some]
                have n2 : ∀ v, xMi (xm_s M1 12 s v) 2 (nI l) = some (nI el) := fun v => xMi_at hl (by decide) m2'
                by_cases q : M1 12 s ≤ bb
                · rw [if_pos q, if_pos q, xMt_ok hs (by decide), xb_some, n2, xb_some, xMt_ok hs (by decide), xb_some]
                · rw [if_neg q, if_neg q, xMt_ok hs (by decide), xb_some, n2, xb_some, xMt_ok hs (by decide), xb_some]
              rw [hj89, xb_some]
              unfold kf_Storage_goBackTo_38 kf_Storage_advanceFrom_53
              rw [xI_at v2 v5, xb_some, min_eq, xIs_ok v2, xb_some, xb_some, xI_at (v := nI el) (by exact w2) (by exact w5.trans m2'), xb_some, xIs_ok (by exact v2), xb_some]
              obtain ⟨r, K', M', r1, r2, r3⟩ := adv hB hn hs hl
              rw [r1, r2, xp_some]
              exact ⟨r, K', M', rfl, rfl, r3⟩
          · rw [if_neg hw, if_neg hw, xp_some]
            exact ⟨-1, K, M, rfl, rfl, no 0⟩
end
section
variable {B : Nat} {fz : Nat → Prop} {V : List Int32} {E P : Nat} {c : Nat} {R : Nat → Nat} {n : Nat} {K : xk} {M : xm}
/-- what a storage answers: the last of its records that is not too new and has the key -/
def rd (M : xm) (s k : Nat) (v : Int32) : Nat → Int32
  | 0 => 0
  | d + 1 => if ¬ v < M 14 (128 * s + d) ∧ bt (M 15 (128 * s + d)) k = true then M 16 (8 * (128 * s + d) + k) else rd M s k v d
theorem ow_bt : ∀ s, s < 2 → ∀ k, k < 8 → k / 4 = s → bt (if s = 0 then 15 else 240) k = true := by decide +kernel
theorem nI_div : ∀ k, k < 8 → nI k / (4 : Int32) = nI (k / 4) := by decide +kernel
theorem va_loop {s k : Nat} {v : Int32} (h : iA B fz V E P (fun _ => 0) c R n K M) (hn : n < 512) (hs : s < 2) (hk : k < 8) (hks : k / 4 = s) : ∀ (d m : Nat), M 13 s = nI d ∨ (∃ d', M 13 s = nI d' ∧ d' < 100 ∧ d ≤ d') → d < m → d < 100 →
    kf_Storage_valueAt_54 m K (46 + 2 * s + B) (nI k) v (nI d - 1) = some (Int32.toInt64 (rd M s k v d), K) := by
  obtain ⟨x0, o0, c0, l0, t0, u0, b0, L0, T0, U0, m0, q0, y0, dq, dy, s0, g0, e0, n0⟩ := id h
  obtain ⟨f1, f2, f3, f4, f5, f6⟩ := t0.2.2 s hs
  obtain ⟨z1, z2, z3, z4, n1, z5, z6, z7, z8, z9, z10⟩ := T0 s hs
  have n100 := jT_100 n0 hn z5 z6
  intro d
  induction d with
  | zero =>
    intro m _ hm _
    obtain ⟨m, rfl⟩ : ∃ m', m = m' + 1 := ⟨m - 1, by omega⟩
    show kb_Storage_valueAt_54 (kf_Storage_valueAt_54 m) K (46 + 2 * s + B) (nI k) v (nI 0 - 1) = _
    unfold kb_Storage_valueAt_54
    rw [if_pos (show nI 0 - 1 < 0 by decide)]
    rfl
  | succ d ih =>
    intro m hd hm h100
    obtain ⟨m, rfl⟩ : ∃ m', m = m' + 1 := ⟨m - 1, by omega⟩
    have hd1 : d < n1 := by
      rcases hd with q | ⟨d', q, q1, q2⟩
      · have := (nI_eq (by omega) (by omega)).mp (z7.symm.trans q)
        omega
      · have := (nI_eq (by omega) (by omega)).mp (z7.symm.trans q)
        omega
    obtain ⟨a, b, mk, y1, y2, y3⟩ := z8 d hd1
    obtain ⟨a1, a2, a3, a4, w, a5, a6, a7⟩ := y3
    have ra : xRa K 8 (47 + 2 * s + B) (nI d) = some (some a) := by rw [xRa_ok z3 z4 (by omega) (by decide), y1]
    have ih' := ih m (Or.inr ⟨n1, z7, n100, by omega⟩) (by omega) (by omega)
    have hm1 : nI d + -1 = nI d - 1 := by rw [Int32.sub_eq_add_neg]
    show kb_Storage_valueAt_54 (kf_Storage_valueAt_54 m) K (46 + 2 * s + B) (nI k) v (nI (d + 1) - 1) = some (Int32.toInt64 (if ¬ v < M 14 (128 * s + d) ∧ bt (M 15 (128 * s + d)) k = true then M 16 (8 * (128 * s + d) + k) else rd M s k v d), K)
    unfold kb_Storage_valueAt_54 kf_Storage_valueAt_107 kf_Writes_has_0
    have hbit : bt (M 15 (128 * s + d)) k = bt mk k := by rw [y2, b_and, ow_bt s hs k hk hks, Bool.and_true]
    rw [nI_pred, if_neg (nI_pos (by omega)), xR_at f2 z2]
    simp only [xb_some, ra]
    rw [xI_at a1 a2, xb_some]
    by_cases hv : v < M 14 (128 * s + d)
    · rw [if_pos hv, if_neg (fun z => z.1 hv), hm1]
      exact ih'
    · rw [if_neg hv, xR_at a1 a5]
      simp only [xb_some]
      rw [xO_ok a7.1, xb_some, xI_at a7.1 a7.2.1, xb_some]
      cases hb : bt mk k
      · rw [if_pos ((bi_c _ (by omega)).mpr hb), xp_some, if_pos rfl, hm1, if_neg (fun z => by rw [hbit, hb] at z; cases z.2)]
        exact ih'
      · rw [if_neg (fun z => by rw [(bi_c _ (by omega)).mp z] at hb; cases hb), xp_some, if_neg (by decide), xR_at f2 z2]
        simp only [xb_some, ra]
        rw [xR_at a1 a5]
        simp only [xb_some]
        rw [xR_at a7.1 a7.2.2.1, xb_some, xb_some, xIa_ok a7.2.2.2.1 a7.2.2.2.2.1 hk (by decide), xb_some, a7.2.2.2.2.2 k hk hb, if_pos ⟨hv, by rw [hbit]; exact hb⟩]
theorem rd_mono {M : xm} {s k : Nat} {v : Int32} : ∀ (d j : Nat), j ≤ d → (∀ i, j ≤ i → i < d → ¬ (¬ v < M 14 (128 * s + i) ∧ bt (M 15 (128 * s + i)) k = true)) → rd M s k v d = rd M s k v j := by
  intro d
  induction d with
  | zero => intro j hj _; rw [show j = 0 by omega]
  | succ d ih =>
    intro j hj hh
    by_cases q : j = d + 1
    · rw [q]
    · show (if _ then _ else rd M s k v d) = _
      rw [if_neg (hh d (by omega) (by omega))]
      exact ih j (by omega) (fun i h1 h2 => hh i h1 (by omega))
theorem rm_rd {s k d : Nat} {v : Int32} (hs : s < 2) (hk : k < 8) (hd : M 13 s = nI d) (h100 : d < 100) : ∀ (t j m : Nat), j + t = d → t < m →
    kf_EM_reading_83 m M (nI k) (nI s) v (rd M s k v j) (nI (128 * s + j)) = some (Int32.toInt64 (rd M s k v d), M) := by
  have m13 : xMi M 13 (nI s) = some (nI d) := xMi_at hs (by decide) hd
  have i128 : (128 : Int32) * nI s + nI d = nI (128 * s + d) := by
    show nI 128 * nI s + nI d = _
    rw [pk_mul, nI_add]
  intro t
  induction t with
  | zero =>
    intro j m hj hm
    obtain ⟨m, rfl⟩ : ∃ m', m = m' + 1 := ⟨m - 1, by omega⟩
    have : j = d := by omega
    subst this
    show kb_EM_reading_83 (kf_EM_reading_83 m) M (nI k) (nI s) v (rd M s k v j) (nI (128 * s + j)) = _
    unfold kb_EM_reading_83
    rw [m13, xb_some, i128, if_pos (nI_le (Nat.le_refl _) (by omega))]
  | succ t ih =>
    intro j m hj hm
    obtain ⟨m, rfl⟩ : ∃ m', m = m' + 1 := ⟨m - 1, by omega⟩
    have b256 : 128 * s + j < 256 := by omega
    have ih' := ih (j + 1) m (by omega) (by omega)
    have step : rd M s k v (j + 1) = if ¬ v < M 14 (128 * s + j) ∧ bt (M 15 (128 * s + j)) k = true then M 16 (8 * (128 * s + j) + k) else rd M s k v j := rfl
    show kb_EM_reading_83 (kf_EM_reading_83 m) M (nI k) (nI s) v (rd M s k v j) (nI (128 * s + j)) = _
    unfold kb_EM_reading_83 kf_EM_reading_127
    rw [m13, xb_some, i128, if_neg (nI_ge (by omega) (by omega)), xMi_ok b256 (by decide), xb_some, nI_1]
    by_cases hv : v < M 14 (128 * s + j)
    · rw [if_neg (fun z => z.1 hv)] at step
      rw [if_pos hv, ← step]
      exact ih'
    · rw [if_neg hv, xMi_ok b256 (by decide), xb_some]
      by_cases hb : bt (M 15 (128 * s + j)) k = true
      · rw [if_pos ⟨hv, hb⟩] at step
        rw [if_pos ((bi_m _ (by omega)).mpr hb), ix_8, xMi_ok (by show 8 * (128 * s + j) + k < 2048; omega) (by decide), xb_some, ← step]
        exact ih'
      · rw [if_neg (fun z => hb z.2)] at step
        rw [if_neg (fun z => hb ((bi_m _ (by omega)).mp z)), ← step]
        exact ih'
/-- reading a key that the client has not written: the same answer, and nothing changes -/
theorem rd_val {j k : Nat} (h : iA B fz V E P (fun _ => 0) c R n K M) (hn : n < 512) (hj : j < 3) (hk : k < 8) :
    ∃ r : Int64, kf_Storage_valueAt_0 K (46 + 2 * (k / 4) + B) (nI k) (M 41 j) (M 42 j) = some (r, K) ∧ kf_EM_reading_0 M (nI k) (nI j) = some (r, M) := by
  have hs : k / 4 < 2 := by omega
  obtain ⟨x0, o0, c0, l0, t0, u0, b0, L0, T0, U0, m0, q0, y0, dq, dy, s0, g0, e0, n0⟩ := id h
  obtain ⟨f1, f2, f3, f4, f5, f6⟩ := t0.2.2 (k / 4) hs
  obtain ⟨d, d100, hd, -⟩ := jT_cnt h hn hs
  unfold kf_Storage_valueAt_0 kf_EM_reading_0 kf_EM_reading_51
  have m41 : xMi M 41 (nI j) = some (M 41 j) := xMi_ok hj (by decide)
  have m42 : xMi M 42 (nI j) = some (M 42 j) := xMi_ok hj (by decide)
  have m11 : xMi M 11 (nI (k / 4)) = some (M 11 (k / 4)) := xMi_ok hs (by decide)
  have m12 : xMi M 12 (nI (k / 4)) = some (M 12 (k / 4)) := xMi_ok hs (by decide)
  have m10 : xMi M 10 (nI (k / 4)) = some (M 10 (k / 4)) := xMi_ok hs (by decide)
  rw [nI_div k hk, m41, m11, xI_at f2 f3]
  simp only [xb_some]
  by_cases h1 : M 11 (k / 4) = 0
  · rw [if_pos h1, if_pos h1]
    exact ⟨_, rfl, rfl⟩
  · rw [if_neg h1, if_neg h1, m12, xI_at f2 f5]
    simp only [xb_some]
    by_cases h2 : M 12 (k / 4) < M 41 j
    · rw [if_pos h2, if_pos h2]
      exact ⟨_, rfl, rfl⟩
    · rw [if_neg h2, if_neg h2, m10, m42, xI_at f2 f4]
      simp only [xb_some]
      by_cases h3 : M 42 j ≤ M 10 (k / 4)
      · rw [if_pos h3, if_pos h3]
        by_cases h4 : M 12 (k / 4) - 12 ≤ M 41 j
        · rw [if_pos h4, if_pos h4, xI_at f2 (f6.trans hd), xb_some, va_loop h hn hs hk rfl d 1000 (Or.inl hd) (by omega) d100]
          have := rm_rd (M := M) (v := M 41 j) hs hk hd d100 d 0 1000 (by omega) (by omega)
          have i0 : (128 : Int32) * nI (k / 4) = nI (128 * (k / 4) + 0) := pk_mul 128 _
          rw [i0]
          exact ⟨_, rfl, this⟩
        · rw [if_neg h4, if_neg h4]
          exact ⟨_, rfl, rfl⟩
      · rw [if_neg h3, if_neg h3]
        exact ⟨_, rfl, rfl⟩
end
section
variable {B : Nat} {fz : Nat → Prop} {V : List Int32} {E P : Nat} {c : Nat} {R : Nat → Nat} {n : Nat} {K : xk} {M : xm}
theorem lg_int (v : Int32) : ¬ 0 ≤ lg_cmp (Int32.toInt64 v) 1099511627776 := by
  rw [lg_cmp_ge, Int64.le_iff_toInt_le, Int32.toInt_toInt64]
  have h1 := Int32.toInt_lt v
  have h2 : (1099511627776 : Int64).toInt = 1099511627776 := by decide
  rw [h2]
  omega
/-- what a client sees at a key -/
theorem vf {j k : Nat} (h : iA B fz V E P (fun _ => 0) c R n K M) (hn : n < 512) (hj : j < 3) (hs2 : M 40 j = 2) (hk : k < 8) :
    ∃ r : Int64, kf_ES_valueFor_0 K B (50 + 3 * j + B) (nI k) = some (r, K) ∧ ((bt (M 44 j) k = true ∧ r = Int32.toInt64 (M 45 (8 * j + k))) ∨ (bt (M 44 j) k = false ∧ kf_EM_reading_0 M (nI k) (nI j) = some (r, M))) := by
  obtain ⟨x0, o0, c0, l0, t0, ⟨u1, u2, u3⟩, b0, L0, T0, ⟨U1, U2⟩, m0, q0, y0, dq, dy, s0, g0, e0, n0⟩ := id h
  obtain ⟨e1, e2, e3, e4, e5, e6, e7, e8, e9, e10⟩ := u3 j hj
  obtain ⟨w, w1, w2, w3⟩ := U1 j hj
  have e7 : xk_iv K 11 4 (50 + 3 * j + B) = M 42 j := e7.elim (fun z => by rw [hs2] at z; exact absurd z (by decide)) id
  have hs : k / 4 < 2 := by omega
  obtain ⟨f1, f2, -⟩ := t0.2.2 (k / 4) hs
  unfold kf_ES_valueFor_0 kf_Writes_has_0
  rw [xR_at e2 w1, xb_some, xb_some, xO_ok w2.1, xb_some, xI_at w2.1 w2.2.1, xb_some]
  cases hb : bt (M 44 j) k
  · obtain ⟨r, r1, r2⟩ := rd_val h hn hj hk
    rw [if_pos ((bi_c _ (by omega)).mpr hb), xp_some, if_pos rfl, xR_ok o0.1, o0.2.2.2.1, xb_some, xb_some, nI_div k hk, xRa_ok t0.1 t0.2.1 hs (by decide), f1, xb_some, xI_at e2 e8, xb_some, xI_at e2 e7, xb_some, xb_some, xO_ok f2, xb_some, r1, xp_some]
    exact ⟨r, rfl, Or.inr ⟨rfl, r2⟩⟩
  · rw [if_neg (fun z => by rw [(bi_c _ (by omega)).mp z] at hb; cases hb), xp_some, if_neg (by decide), xR_at e2 w1, xb_some, xb_some, xR_at w2.1 w2.2.2.1, xb_some, xb_some, xIa_ok w2.2.2.2.1 w2.2.2.2.2.1 hk (by decide), xb_some, w2.2.2.2.2.2 k hk hb]
    exact ⟨_, rfl, Or.inl ⟨rfl, rfl⟩⟩
theorem nu {j k : Nat} (h : iA B fz V E P (fun _ => 0) c R n K M) (hj : j < 3) (hk : k < 8) :
    kf_Client_noteUnwritten_0 K (50 + 3 * j + B) (nI k) = some (if bt (M 44 j) k = true then K else xk_sI K 11 7 (50 + 3 * j + B) (M 43 j ||| ((1 : Int32) <<< (nI k &&& 31)))) := by
  obtain ⟨x0, o0, c0, l0, t0, ⟨u1, u2, u3⟩, b0, L0, T0, ⟨U1, U2⟩, m0, q0, y0, dq, dy, s0, g0, e0, n0⟩ := id h
  obtain ⟨e1, e2, e3, e4, e5, e6, e7, e8, e9, e10⟩ := u3 j hj
  obtain ⟨w, w1, w2, w3⟩ := U1 j hj
  unfold kf_Client_noteUnwritten_0 kf_Writes_has_0
  rw [xR_at e2 w1, xb_some, xb_some, xO_ok w2.1, xb_some, xI_at w2.1 w2.2.1, xb_some]
  cases hb : bt (M 44 j) k
  · rw [if_pos ((bi_c _ (by omega)).mpr hb), xp_some, if_pos rfl, xI_at e2 e10, xb_some, xIs_ok e2, xb_some]
    rfl
  · rw [if_neg (fun z => by rw [(bi_c _ (by omega)).mp z] at hb; cases hb), xp_some, if_neg (by decide)]
    rfl
theorem wt {j k : Nat} (hj : j < 3) (hk : k < 8) : kf_EM_wrote_0 M (nI j) (nI k) = some (if bt (M 44 j) k = true then 1 else 0, M) := by
  unfold kf_EM_wrote_0
  rw [xMi_ok hj (by decide), xb_some]
  cases hb : bt (M 44 j) k
  · rw [if_neg (fun z => by rw [(bi_m _ (by omega)).mp z] at hb; cases hb)]
    rfl
  · rw [if_pos ((bi_m _ (by omega)).mpr hb)]
    rfl
theorem kp_read (B : Nat) : lo_s2 (iV B) B := fun n K M a b hn h => by
  obtain ⟨fz, V, E, P, c, R, hA⟩ := id h
  obtain ⟨x0, o0, c0, l0, t0, ⟨u1, u2, u3⟩, b0, L0, T0, ⟨U1, U2⟩, m0, q0, y0, dq, dy, s0, g0, e0, n0⟩ := id hA
  have h10 : ¬ (1 : Int32) = 0 := by decide
  unfold kf_ES_read_0 kf_EM_read_0
  rw [xO_ok o0.1, xb_some]
  rcases is_open o0 hA.2.2.2.2.2.1 a with ⟨h1, h2⟩ | ⟨j, hj, rfl, hs, h1, h2⟩
  · rw [h1, h2, xp_some, xp_some, if_pos rfl, if_pos rfl]
    exact ⟨-1, K, M, rfl, rfl, iV_next h⟩
  · rw [h1, h2, xp_some, xp_some, if_neg h10, if_neg h10]
    unfold kf_ES_isKey_0
    rcases pi_8 b with h' | ⟨k1, k2, k3⟩ | ⟨k, hk, rfl, k1, k2, k3⟩
    · rw [if_pos h', if_pos h', xp_some, if_pos rfl]
      exact ⟨-1, K, M, rfl, rfl, iV_next h⟩
    · rw [if_neg k1, if_pos k2, if_neg k1, if_neg k3, xp_some, if_pos rfl]
      exact ⟨-1, K, M, rfl, rfl, iV_next h⟩
    · obtain ⟨e1, e2, e3, e4, e5, e6, e7, e8, e9, e10⟩ := u3 j hj
      obtain ⟨r, r1, r2⟩ := vf hA hn hj hs hk
      have hx : xRa K 5 (4 + B) (nI j) = some (some (50 + 3 * j + B)) := by rw [xRa_ok u1 u2 hj (by decide), e1]
      rw [if_neg k1, if_neg k2, if_neg k1, if_pos k3, xp_some, if_neg h10, xR_ok o0.1, o0.2.2.2.2.1, xb_some, xb_some, hx, xb_some, xb_some, xO_ok o0.1, xb_some, r1, xp_some, wt hj hk, xp_some]
      unfold kf_ES_isValue_0 kf_ES_read_48
      rcases r2 with ⟨hb, rfl⟩ | ⟨hb, r2⟩
      · rw [if_neg (lg_int _), xp_some, if_neg h10, xR_ok o0.1, o0.2.2.2.2.1, xb_some, xb_some, hx, xb_some, xb_some, xO_ok e2, xb_some, nu hA hj hk, xb_some, hb, if_pos rfl, if_pos rfl, if_neg h10, ix_8, xMi_ok (by show 8 * j + k < 24; omega) (by decide), xb_some]
        exact ⟨_, K, M, rfl, rfl, iV_next h⟩
      · rw [hb, if_neg (show ¬ false = true by decide), if_pos rfl]
        unfold kf_EM_read_44 kf_EM_read_84
        rw [r2, xp_some]
        by_cases hv : 0 ≤ lg_cmp r 1099511627776
        · rw [if_pos hv, if_pos hv, xp_some, if_pos rfl, xMi_ok hj (by decide), xb_some, xMt_ok hj (by decide), xb_some, xm_same rfl]
          exact ⟨r, K, M, rfl, rfl, iV_next h⟩
        · rw [if_neg hv, if_neg hv, xp_some, if_neg h10, xR_ok o0.1, o0.2.2.2.2.1, xb_some, xb_some, hx, xb_some, xb_some, xO_ok e2, xb_some, nu hA hj hk, xb_some, hb, if_neg (show ¬ false = true by decide), xMi_ok hj (by decide), xb_some, xMt_ok hj (by decide), xb_some]
          exact ⟨r, _, _, rfl, rfl, fz, V, E, P, c, R, iA_mono (st_c7 hA hj) (by omega)⟩
-- range
def al (M : xm) (j : Nat) : Int32 → Nat → Nat → Int32
  | x, _, 0 => x
  | x, k, d + 1 => al M j (if bt (M 44 j) k = true then x else x ||| ((1 : Int32) <<< (nI k &&& 31))) (k + 1) d
theorem al_or {M : xm} {j : Nat} : ∀ (d k : Nat) (x y : Int32), al M j (x ||| y) k d = x ||| al M j y k d := by
  intro d
  induction d with
  | zero => intro k x y; rfl
  | succ d ih =>
    intro k x y
    show al M j (if bt (M 44 j) k = true then x ||| y else (x ||| y) ||| ((1 : Int32) <<< (nI k &&& 31))) (k + 1) d = x ||| al M j (if bt (M 44 j) k = true then y else y ||| ((1 : Int32) <<< (nI k &&& 31))) (k + 1) d
    split
    · exact ih _ _ _
    · rw [Int32.or_assoc]
      exact ih _ _ _
theorem al_ext {M N : xm} {j : Nat} (h : N 44 = M 44) : ∀ (d k : Nat) (x : Int32), al N j x k d = al M j x k d := by
  intro d
  induction d with
  | zero => intro k x; rfl
  | succ d ih =>
    intro k x
    show al N j (if bt (N 44 j) k = true then x else _) (k + 1) d = al M j (if bt (M 44 j) k = true then x else _) (k + 1) d
    rw [h]
    exact ih _ _
theorem ms_ms (M : xm) (k i : Nat) (v w : Int32) : xm_s (xm_s M k i v) k i w = xm_s M k i w := by
  funext c j
  rw [ms_get, ms_get, ms_get]
  split
  · rfl
  · rfl
theorem lp_nt {j t : Nat} {x4 : Int32} (hj : j < 3) (ht : t < 8) : ∀ (d k m : Nat) (K : xk) (M : xm), k + d = t + 1 → d < m → iA B fz V E P (fun _ => 0) c R n K M →
    ∃ K', kf_ES_range_87 m K B (nI j) (nI t) x4 (nI k) = some (Int32.toInt64 x4, K') ∧ iA B fz V E P (fun _ => 0) c R n K' (xm_s M 43 j (al M j (M 43 j) k d)) := by
  intro d
  induction d with
  | zero =>
    intro k m K M hk hm h
    obtain ⟨m, rfl⟩ : ∃ m', m = m' + 1 := ⟨m - 1, by omega⟩
    refine ⟨K, ?_, ?_⟩
    · show kb_ES_range_87 (kf_ES_range_87 m) K B (nI j) (nI t) x4 (nI k) = _
      unfold kb_ES_range_87
      rw [if_pos (nI_lt (by omega) (by omega))]
    · show iA B fz V E P (fun _ => 0) c R n K (xm_s M 43 j (M 43 j))
      rw [xm_same rfl]
      exact h
  | succ d ih =>
    intro k m K M hk hm h
    obtain ⟨m, rfl⟩ : ∃ m', m = m' + 1 := ⟨m - 1, by omega⟩
    obtain ⟨x0, o0, c0, l0, t0, ⟨u1, u2, u3⟩, b0, L0, T0, ⟨U1, U2⟩, m0, q0, y0, dq, dy, s0, g0, e0, n0⟩ := id h
    obtain ⟨e1, e2, -⟩ := u3 j hj
    show ∃ K', kb_ES_range_87 (kf_ES_range_87 m) K B (nI j) (nI t) x4 (nI k) = some (Int32.toInt64 x4, K') ∧ iA B fz V E P (fun _ => 0) c R n K' (xm_s M 43 j (al M j (if bt (M 44 j) k = true then M 43 j else M 43 j ||| ((1 : Int32) <<< (nI k &&& 31))) (k + 1) d))
    unfold kb_ES_range_87
    rw [if_neg (nI_nlt (by omega) (by omega)), xR_ok o0.1, o0.2.2.2.2.1, xb_some, xb_some, xRa_ok u1 u2 hj (by decide), e1, xb_some, xb_some, xO_ok e2, xb_some, nu h hj (by omega), xb_some, nI_1]
    by_cases hb : bt (M 44 j) k = true
    · rw [if_pos hb, if_pos hb]
      exact ih (k + 1) m K M (by omega) (by omega) h
    · rw [if_neg hb, if_neg hb]
      obtain ⟨K', p1, p2⟩ := ih (k + 1) m _ _ (by omega) (by omega) (st_c7 (v := M 43 j ||| ((1 : Int32) <<< (nI k &&& 31))) h hj)
      refine ⟨K', p1, ?_⟩
      rw [ms_at, ms_ms, al_ext (M := M) (N := xm_s M 43 j (M 43 j ||| ((1 : Int32) <<< (nI k &&& 31)))) rfl] at p2
      exact p2
theorem n64_1 : ∀ p, p < 9 → Int32.toInt64 (nI p) + 1 = Int32.toInt64 (nI (p + 1)) := by decide +kernel
theorem lp_rg {j t : Nat} {x2 : Int32} (h : iA B fz V E P (fun _ => 0) c R n K M) (hn : n < 512) (hj : j < 3) (hs2 : M 40 j = 2) (ht : t < 8) : ∀ (d k m p : Nat) (x : Int32), k + d = t + 1 → d < m → p ≤ k →
    (∃ r : Int64, kf_ES_range_37 m K B (nI j) x2 (nI t) (nI p) (nI k) = some (r, K) ∧ kf_EM_range_36 m M (nI j) (nI t) (Int32.toInt64 (nI p)) x (nI k) = some (r, M)) ∨
    ∃ p', kf_ES_range_37 m K B (nI j) x2 (nI t) (nI p) (nI k) = kf_ES_range_87 1000 K B (nI j) (nI t) (nI p') x2 ∧ kf_EM_range_36 m M (nI j) (nI t) (Int32.toInt64 (nI p)) x (nI k) = some (Int32.toInt64 (nI p'), xm_s M 43 j (M 43 j ||| al M j x k d)) := by
  obtain ⟨x0, o0, c0, l0, t0, ⟨u1, u2, u3⟩, b0, L0, T0, ⟨U1, U2⟩, m0, q0, y0, dq, dy, s0, g0, e0, n0⟩ := id h
  obtain ⟨e1, e2, -⟩ := u3 j hj
  have h10 : ¬ (1 : Int32) = 0 := by decide
  intro d
  induction d with
  | zero =>
    intro k m p x hk hm hp
    obtain ⟨m, rfl⟩ : ∃ m', m = m' + 1 := ⟨m - 1, by omega⟩
    refine Or.inr ⟨p, ?_, ?_⟩
    · show kb_ES_range_37 (kf_ES_range_37 m) K B (nI j) x2 (nI t) (nI p) (nI k) = _
      unfold kb_ES_range_37
      rw [if_pos (nI_lt (by omega) (by omega))]
    · show kb_EM_range_36 (kf_EM_range_36 m) M (nI j) (nI t) (Int32.toInt64 (nI p)) x (nI k) = some (Int32.toInt64 (nI p), xm_s M 43 j (M 43 j ||| x))
      unfold kb_EM_range_36 kf_EM_range_152
      rw [if_pos (nI_lt (by omega) (by omega)), xMi_ok hj (by decide), xb_some, xMt_ok hj (by decide), xb_some]
  | succ d ih =>
    intro k m p x hk hm hp
    obtain ⟨m, rfl⟩ : ∃ m', m = m' + 1 := ⟨m - 1, by omega⟩
    obtain ⟨r, r1, r2⟩ := vf h hn hj hs2 (k := k) (by omega)
    have hx : xRa K 5 (4 + B) (nI j) = some (some (50 + 3 * j + B)) := by rw [xRa_ok u1 u2 hj (by decide), e1]
    have ek : kf_ES_range_37 (m + 1) K B (nI j) x2 (nI t) (nI p) (nI k) = if 0 ≤ lg_cmp r 1099511627776 then some (r, K) else if lg_cmp r 0 = 0 then kf_ES_range_37 m K B (nI j) x2 (nI t) (nI p) (nI (k + 1)) else kf_ES_range_37 m K B (nI j) x2 (nI t) (nI (p + 1)) (nI (k + 1)) := by
      show kb_ES_range_37 (kf_ES_range_37 m) K B (nI j) x2 (nI t) (nI p) (nI k) = _
      unfold kb_ES_range_37 kf_ES_isValue_0
      rw [if_neg (nI_nlt (by omega) (by omega)), xR_ok o0.1, o0.2.2.2.2.1, xb_some, xb_some, hx, xb_some, xb_some, xO_ok o0.1, xb_some, r1, xp_some, nI_1, nI_1]
      by_cases hv : 0 ≤ lg_cmp r 1099511627776
      · rw [if_pos hv, if_pos hv, xp_some, if_pos rfl]
      · rw [if_neg hv, if_neg hv, xp_some, if_neg h10]
    have em : kf_EM_range_36 (m + 1) M (nI j) (nI t) (Int32.toInt64 (nI p)) x (nI k) = kf_EM_range_75 (kf_EM_range_36 m) M (nI j) (nI t) (Int32.toInt64 (nI p)) x (nI k) r := by
      show kb_EM_range_36 (kf_EM_range_36 m) M (nI j) (nI t) (Int32.toInt64 (nI p)) x (nI k) = _
      unfold kb_EM_range_36
      rw [if_neg (nI_nlt (by omega) (by omega)), wt hj (by omega), xp_some]
      rcases r2 with ⟨hb, rfl⟩ | ⟨hb, r2⟩
      · rw [hb, if_pos rfl, if_neg h10, ix_8, xMi_ok (by show 8 * j + k < 24; omega) (by decide), xb_some]
      · rw [hb, if_neg (show ¬ false = true by decide), if_pos rfl, r2, xp_some]
    have e105 : ∀ q, kf_EM_range_105 (kf_EM_range_36 m) M (nI j) (nI t) x (nI k) (Int32.toInt64 (nI q)) = kf_EM_range_36 m M (nI j) (nI t) (Int32.toInt64 (nI q)) (if bt (M 44 j) k = true then x else x ||| ((1 : Int32) <<< (nI k &&& 31))) (nI (k + 1)) := fun q => by
      unfold kf_EM_range_105
      rw [wt hj (by omega), xp_some, nI_1]
      cases bt (M 44 j) k
      · rfl
      · rfl
    rw [ek, em]
    unfold kf_EM_range_75
    by_cases hv : 0 ≤ lg_cmp r 1099511627776
    · rw [if_pos hv, if_neg (fun z => by
        rw [Int32.le_iff_toInt_le] at hv
        rw [Int32.lt_iff_toInt_lt] at z
        omega)]
      exact Or.inl ⟨r, rfl, rfl⟩
    · rw [if_neg hv, if_pos (i32_nle hv)]
      by_cases hz : lg_cmp r 0 = 0
      · rw [if_pos hz, if_pos hz, e105 p]
        exact ih (k + 1) m p _ (by omega) (by omega) (by omega)
      · rw [if_neg hz, if_neg hz, n64_1 p (by omega), e105 (p + 1)]
        exact ih (k + 1) m (p + 1) _ (by omega) (by omega) (by omega)
theorem i32_lt_false {a b : Int32} (h : a < b) (g : b ≤ a) : False := i32_lt_nle h g
theorem kp_range (B : Nat) : lo_s3 (iV B) B := fun n K M a x y hn h => by
  obtain ⟨fz, V, E, P, c, R, hA⟩ := id h
  obtain ⟨x0, o0, c0, l0, t0, u0, b0, L0, T0, U0, m0, q0, y0, dq, dy, s0, g0, e0, n0⟩ := id hA
  have h10 : ¬ (1 : Int32) = 0 := by decide
  have t0' : (0 : Int32).toInt = 0 := by decide
  have t7 : (7 : Int32).toInt = 7 := by decide
  have t8 : (8 : Int32).toInt = 8 := by decide
  unfold kf_ES_range_0 kf_EM_range_0
  rw [xO_ok o0.1, xb_some]
  rcases is_open o0 u0 a with ⟨h1, h2⟩ | ⟨j, hj, rfl, hs, h1, h2⟩
  · rw [h1, h2, xp_some, xp_some, if_pos rfl, if_pos rfl]
    exact ⟨-1, K, M, rfl, rfl, iV_next h⟩
  · rw [h1, h2, xp_some, xp_some, if_neg h10, if_neg h10]
    unfold kf_ES_isKey_0
    rcases pi_8 x with hx | ⟨k1, k2, k3⟩ | ⟨f, hf, rfl, k1, k2, k3⟩
    · rw [if_pos hx, if_pos hx, xp_some, if_pos rfl]
      exact ⟨-1, K, M, rfl, rfl, iV_next h⟩
    · rw [if_neg k1, if_pos k2, if_neg k1, xp_some, if_pos rfl]
      refine ⟨-1, K, M, rfl, ?_, iV_next h⟩
      by_cases h7 : (7 : Int32) < y
      · rw [if_pos h7]
      · rw [if_neg h7, if_neg (fun z => by
          rw [Int32.le_iff_toInt_le] at k2 z
          rw [Int32.lt_iff_toInt_lt] at h7
          omega)]
    · rw [if_neg k1, if_neg k2, if_neg k1, xp_some, if_neg h10]
      rcases pi_8 y with hy | ⟨g1, g2, g3⟩ | ⟨t, ht, rfl, g1, g2, g3⟩
      · rw [if_pos hy, xp_some, if_pos rfl]
        refine ⟨-1, K, M, rfl, ?_, iV_next h⟩
        rw [if_neg (fun z => by
          rw [Int32.lt_iff_toInt_lt] at hy z
          omega), if_neg (fun z => by
          rw [Int32.lt_iff_toInt_lt] at hy k1
          rw [Int32.le_iff_toInt_le] at z
          omega)]
      · rw [if_neg g1, if_pos g2, xp_some, if_pos rfl]
        refine ⟨-1, K, M, rfl, ?_, iV_next h⟩
        rw [if_pos (i32_nle g3)]
      · rw [if_neg g1, if_neg g2, xp_some, if_neg h10, if_neg (fun z => i32_lt_nle z g3)]
        by_cases hft : f ≤ t
        · rw [if_pos (nI_le hft (by omega)), if_pos (nI_le hft (by omega))]
          rcases lp_rg (x2 := nI f) hA hn hj hs ht (t + 1 - f) f 1000 0 0 (by omega) (by omega) (by omega) with ⟨r, r1, r2⟩ | ⟨p', r1, r2⟩
          · have r1' : kf_ES_range_37 1000 K B (nI j) (nI f) (nI t) 0 (nI f) = some (r, K) := r1
            have r2' : kf_EM_range_36 1000 M (nI j) (nI t) 0 0 (nI f) = some (r, M) := r2
            rw [r1', r2']
            exact ⟨r, K, M, rfl, rfl, iV_next h⟩
          · have r1' : kf_ES_range_37 1000 K B (nI j) (nI f) (nI t) 0 (nI f) = _ := r1
            have r2' : kf_EM_range_36 1000 M (nI j) (nI t) 0 0 (nI f) = _ := r2
            obtain ⟨K', p1, p2⟩ := lp_nt (x4 := nI p') hj ht (t + 1 - f) f 1000 K M (by omega) (by omega) hA
            have hal : al M j (M 43 j) f (t + 1 - f) = M 43 j ||| al M j 0 f (t + 1 - f) := by
              have := al_or (M := M) (j := j) (t + 1 - f) f (M 43 j) 0
              rw [Int32.or_zero] at this
              exact this
            rw [hal] at p2
            rw [r1', r2', p1]
            exact ⟨_, K', _, rfl, rfl, fz, V, E, P, c, R, iA_mono p2 (by omega)⟩
        · rw [if_neg (nI_ge (by omega) (by omega)), if_neg (nI_ge (by omega) (by omega))]
          exact ⟨-1, K, M, rfl, rfl, iV_next h⟩
end
section
-- a log becomes a copy of another
def xk_irow (K : xk) (a : Nat) (g : Nat → Int32) : xk := (K.1, K.2.1, K.2.2.1, K.2.2.2.1, fun b j => if b = a then g j else K.2.2.2.2.1 b j, K.2.2.2.2.2)
theorem irow_at (K : xk) (a : Nat) (g : Nat → Int32) (j : Nat) : xk_ai (xk_irow K a g) a j = g j := if_pos rfl
theorem irow_ne (K : xk) {a b : Nat} (g : Nat → Int32) (j : Nat) (h : b ≠ a) : xk_ai (xk_irow K a g) b j = xk_ai K b j := if_neg h
theorem irow_self (K : xk) (a : Nat) : xk_irow K a (xk_ai K a) = K := by
  refine xk_ext (fun _ => rfl) (fun _ => rfl) (fun _ _ _ => rfl) (fun _ _ _ => rfl) (fun b j => ?_) (fun _ _ => rfl) rfl
  by_cases hb : b = a
  · subst hb; rw [irow_at]
  · rw [irow_ne _ _ _ hb]
theorem irow_tI (K : xk) (a i : Nat) (g : Nat → Int32) (v : Int32) : xk_tI (xk_irow K a g) a i v = xk_irow K a (fun j => if j = i then v else g j) := by
  refine xk_ext (fun _ => rfl) (fun _ => rfl) (fun _ _ _ => rfl) (fun _ _ _ => rfl) (fun b j => ?_) (fun _ _ => rfl) rfl
  rw [tI_get]
  by_cases hb : b = a
  · subst hb
    rw [irow_at, irow_at]
    by_cases hj : j = i
    · rw [if_pos ⟨rfl, hj⟩, if_pos hj]
    · rw [if_neg (fun z => hj z.2), if_neg hj]
  · rw [irow_ne _ _ _ hb, irow_ne _ _ _ hb, if_neg (fun z => hb z.1)]
def cpr {α : Type} (g h : Nat → α) (i : Nat) : Nat → α := fun j => if j < i then g j else h j
theorem cpr_0 {α : Type} (g h : Nat → α) : cpr g h 0 = h := by
  funext j
  exact if_neg (by omega)
theorem cpr_step {α : Type} (g h : Nat → α) (i : Nat) : (fun j => if j = i then g i else cpr g h i j) = cpr g h (i + 1) := by
  funext j
  unfold cpr
  by_cases z : j = i
  · subst z
    rw [if_pos rfl, if_pos (by omega)]
  · rw [if_neg z]
    by_cases z2 : j < i
    · rw [if_pos z2, if_pos (by omega)]
    · rw [if_neg z2, if_neg (by omega)]
variable {B : Nat} {K : xk} {M : xm}
theorem cf_loop {k l cnt : Nat} (kA : xk_kd K (37 + 3 * k + B) = 9 + 1) (kL : xk_kd K (37 + 3 * l + B) = 9 + 1) (rA : xk_rv K 9 5 (37 + 3 * k + B) = some (39 + 3 * k + B)) (rL : xk_rv K 9 5 (37 + 3 * l + B) = some (39 + 3 * l + B)) (tA : xk_kd K (39 + 3 * k + B) = 100 + 8) (nA : xk_ln K (39 + 3 * k + B) = 100) (tL : xk_kd K (39 + 3 * l + B) = 100 + 8) (nL : xk_ln K (39 + 3 * l + B) = 100)
    (hc : xk_iv K 9 6 (37 + 3 * l + B) = nI cnt) (h100 : cnt ≤ 100) (hg : ∀ j, j < cnt → (xk_ar K (39 + 3 * l + B) j).elim (3 + 1) (xk_kd K) = 3 + 1) : ∀ (d i m : Nat), i + d = cnt → d < m →
    kf_Log_copyFrom_2 m (xk_row K (39 + 3 * k + B) (cpr (xk_ar K (39 + 3 * l + B)) (xk_ar K (39 + 3 * k + B)) i)) (37 + 3 * k + B) (37 + 3 * l + B) (nI i) = kf_Log_copyFrom_38 1000 (xk_sI (xk_row K (39 + 3 * k + B) (cpr (xk_ar K (39 + 3 * l + B)) (xk_ar K (39 + 3 * k + B)) cnt)) 9 6 (37 + 3 * k + B) (nI cnt)) (37 + 3 * k + B) (37 + 3 * l + B) 0 := by
  intro d
  induction d with
  | zero =>
    intro i m hi hm
    obtain ⟨m, rfl⟩ : ∃ m', m = m' + 1 := ⟨m - 1, by omega⟩
    have : i = cnt := by omega
    subst this
    show kb_Log_copyFrom_2 (kf_Log_copyFrom_2 m) _ _ _ (nI i) = _
    unfold kb_Log_copyFrom_2
    rw [xI_at (v := nI i) (by exact kL) (by exact hc), xb_some, if_pos (nI_le (Nat.le_refl _) (by omega)), xb_some, xIs_ok (by exact kA), xb_some]
  | succ d ih =>
    intro i m hi hm
    obtain ⟨m, rfl⟩ : ∃ m', m = m' + 1 := ⟨m - 1, by omega⟩
    show kb_Log_copyFrom_2 (kf_Log_copyFrom_2 m) _ _ _ (nI i) = _
    unfold kb_Log_copyFrom_2
    have s1 : xk_ar (xk_row K (39 + 3 * k + B) (cpr (xk_ar K (39 + 3 * l + B)) (xk_ar K (39 + 3 * k + B)) i)) (39 + 3 * l + B) i = xk_ar K (39 + 3 * l + B) i := by
      by_cases q : 39 + 3 * l + B = 39 + 3 * k + B
      · rw [q, row_ar]
        unfold cpr
        rw [if_neg (by omega)]
      · rw [row_ne _ _ _ q]
    have e1 : xRa (xk_row K (39 + 3 * k + B) (cpr (xk_ar K (39 + 3 * l + B)) (xk_ar K (39 + 3 * k + B)) i)) 8 (39 + 3 * l + B) (nI i) = some (xk_ar K (39 + 3 * l + B) i) := by rw [xRa_ok (n := 100) (by exact tL) (by exact nL) (by omega) (by decide), s1]
    have e2 : xRt (xk_row K (39 + 3 * k + B) (cpr (xk_ar K (39 + 3 * l + B)) (xk_ar K (39 + 3 * k + B)) i)) 8 3 (39 + 3 * k + B) (nI i) (xk_ar K (39 + 3 * l + B) i) = some (xk_row K (39 + 3 * k + B) (cpr (xk_ar K (39 + 3 * l + B)) (xk_ar K (39 + 3 * k + B)) (i + 1))) := by rw [xRt_ok (n := 100) (by exact tA) (by exact nA) (by omega) (by decide) (by exact hg i (by omega)), row_tR, cpr_step]
    rw [xI_at (v := nI cnt) (by exact kL) (by exact hc), xb_some, if_neg (nI_ge (by omega) (by omega)), xR_at (v := some (39 + 3 * k + B)) (by exact kA) (by exact rA), xb_some, xR_at (v := some (39 + 3 * l + B)) (by exact kL) (by exact rL), xb_some, xb_some, e1, xb_some, xb_some, e2, xb_some, nI_1]
    exact ih (i + 1) m (by omega) (by omega)
theorem ci_loop {k l : Nat} (kA : xk_kd K (37 + 3 * k + B) = 9 + 1) (kL : xk_kd K (37 + 3 * l + B) = 9 + 1) (rA : xk_rv K 9 4 (37 + 3 * k + B) = some (38 + 3 * k + B)) (rL : xk_rv K 9 4 (37 + 3 * l + B) = some (38 + 3 * l + B)) (tA : xk_kd K (38 + 3 * k + B) = 100 + 0) (nA : xk_ln K (38 + 3 * k + B) = 10) (tL : xk_kd K (38 + 3 * l + B) = 100 + 0) (nL : xk_ln K (38 + 3 * l + B) = 10) : ∀ (d i m : Nat), i + d = 10 → d < m →
    kf_Log_copyFrom_38 m (xk_irow K (38 + 3 * k + B) (cpr (xk_ai K (38 + 3 * l + B)) (xk_ai K (38 + 3 * k + B)) i)) (37 + 3 * k + B) (37 + 3 * l + B) (nI i) = some (xk_irow K (38 + 3 * k + B) (cpr (xk_ai K (38 + 3 * l + B)) (xk_ai K (38 + 3 * k + B)) 10)) := by
  intro d
  induction d with
  | zero =>
    intro i m hi hm
    obtain ⟨m, rfl⟩ : ∃ m', m = m' + 1 := ⟨m - 1, by omega⟩
    have : i = 10 := by omega
    subst this
    show kb_Log_copyFrom_38 (kf_Log_copyFrom_38 m) _ _ _ (nI 10) = _
    unfold kb_Log_copyFrom_38
    rw [if_pos (show (9 : Int32) < nI 10 by decide)]
  | succ d ih =>
    intro i m hi hm
    obtain ⟨m, rfl⟩ : ∃ m', m = m' + 1 := ⟨m - 1, by omega⟩
    show kb_Log_copyFrom_38 (kf_Log_copyFrom_38 m) _ _ _ (nI i) = _
    unfold kb_Log_copyFrom_38
    have s1 : xk_ai (xk_irow K (38 + 3 * k + B) (cpr (xk_ai K (38 + 3 * l + B)) (xk_ai K (38 + 3 * k + B)) i)) (38 + 3 * l + B) i = xk_ai K (38 + 3 * l + B) i := by
      by_cases q : 38 + 3 * l + B = 38 + 3 * k + B
      · rw [q, irow_at]
        unfold cpr
        rw [if_neg (by omega)]
      · rw [irow_ne _ _ _ q]
    have e1 : xIa (xk_irow K (38 + 3 * k + B) (cpr (xk_ai K (38 + 3 * l + B)) (xk_ai K (38 + 3 * k + B)) i)) 0 (38 + 3 * l + B) (nI i) = some (xk_ai K (38 + 3 * l + B) i) := by rw [xIa_ok (n := 10) (by exact tL) (by exact nL) (by omega) (by decide), s1]
    have e2 : xIt (xk_irow K (38 + 3 * k + B) (cpr (xk_ai K (38 + 3 * l + B)) (xk_ai K (38 + 3 * k + B)) i)) 0 (38 + 3 * k + B) (nI i) (xk_ai K (38 + 3 * l + B) i) = some (xk_irow K (38 + 3 * k + B) (cpr (xk_ai K (38 + 3 * l + B)) (xk_ai K (38 + 3 * k + B)) (i + 1))) := by rw [xIt_ok (n := 10) (by exact tA) (by exact nA) (by omega) (by decide), irow_tI, cpr_step]
    rw [if_neg (show ¬ (9 : Int32) < nI i from nI_nlt (a := 9) (b := i) (by omega) (by decide)), xR_at (v := some (38 + 3 * k + B)) (by exact kA) (by exact rA), xb_some, xR_at (v := some (38 + 3 * l + B)) (by exact kL) (by exact rL), xb_some, xb_some, e1, xb_some, xb_some, e2, xb_some, nI_1]
    exact ih (i + 1) m (by omega) (by omega)
-- the reference copies a log
def cl_1 (M : xm) (l k i : Nat) : xm := fun c j => if (c = 6 ∨ c = 7) ∧ 100 * k ≤ j ∧ j < 100 * k + i then M c (100 * l + (j - 100 * k)) else if c = 8 ∧ 800 * k ≤ j ∧ j < 800 * k + 8 * i then M 8 (800 * l + (j - 800 * k)) else M c j
def cl_x (N : xm) (l k r x : Nat) : xm := fun c j => if c = 8 ∧ 800 * k + 8 * r ≤ j ∧ j < 800 * k + 8 * r + x then N 8 (800 * l + (j - 800 * k)) else N c j
def cl_b (N : xm) (l k i : Nat) : xm := fun c j => if c = 9 ∧ 10 * k ≤ j ∧ j < 10 * k + i then N 9 (10 * l + (j - 10 * k)) else N c j
theorem cl1_get (M : xm) (l k i c j : Nat) : cl_1 M l k i c j = if (c = 6 ∨ c = 7) ∧ 100 * k ≤ j ∧ j < 100 * k + i then M c (100 * l + (j - 100 * k)) else if c = 8 ∧ 800 * k ≤ j ∧ j < 800 * k + 8 * i then M 8 (800 * l + (j - 800 * k)) else M c j := rfl
theorem clx_get (N : xm) (l k r x c j : Nat) : cl_x N l k r x c j = if c = 8 ∧ 800 * k + 8 * r ≤ j ∧ j < 800 * k + 8 * r + x then N 8 (800 * l + (j - 800 * k)) else N c j := rfl
theorem clb_get (N : xm) (l k i c j : Nat) : cl_b N l k i c j = if c = 9 ∧ 10 * k ≤ j ∧ j < 10 * k + i then N 9 (10 * l + (j - 10 * k)) else N c j := rfl
theorem cx_loop {N : xm} {l k r : Nat} {rec14 : xm → Int32 → Int32 → Int32 → Option xm} (hl : l < 3) (hk : k < 3) (hlk : l ≠ k) (hr : r < 100) : ∀ (d x m : Nat), x + d = 8 → d < m →
    kf_EM_copyLog_71 rec14 m (cl_x N l k r x) (nI l) (nI k) (nI r) (nI x) = rec14 (cl_x N l k r 8) (nI l) (nI k) (nI (r + 1)) := by
  have ix : ∀ a x, ((800 : Int32) * nI a + (8 : Int32) * nI r) + nI x = nI (800 * a + 8 * r + x) := fun a x => by
    show (nI 800 * nI a + nI 8 * nI r) + nI x = _
    rw [pk_mul, pk_mul, nI_add, nI_add]
  intro d
  induction d with
  | zero =>
    intro x m hx hm
    obtain ⟨m, rfl⟩ : ∃ m', m = m' + 1 := ⟨m - 1, by omega⟩
    have : x = 8 := by omega
    subst this
    show kb_EM_copyLog_71 rec14 (kf_EM_copyLog_71 rec14 m) _ _ _ _ (nI 8) = _
    unfold kb_EM_copyLog_71
    rw [if_pos (show (8 : Int32) ≤ nI 8 from nI_le (a := 8) (b := 8) (Nat.le_refl _) (by decide)), nI_1]
  | succ d ih =>
    intro x m hx hm
    obtain ⟨m, rfl⟩ : ∃ m', m = m' + 1 := ⟨m - 1, by omega⟩
    show kb_EM_copyLog_71 rec14 (kf_EM_copyLog_71 rec14 m) _ _ _ _ (nI x) = _
    unfold kb_EM_copyLog_71 kf_EM_copyLog_114
    have g : cl_x N l k r x 8 (800 * l + 8 * r + x) = N 8 (800 * l + 8 * r + x) := by
      rw [clx_get, if_neg (fun z => by omega)]
    have st : xm_s (cl_x N l k r x) 8 (800 * k + 8 * r + x) (N 8 (800 * l + 8 * r + x)) = cl_x N l k r (x + 1) := by
      funext c j
      rw [ms_get, clx_get, clx_get]
      by_cases h1 : c = 8
      · subst h1
        by_cases h2 : j = 800 * k + 8 * r + x
        · rw [if_pos ⟨rfl, h2⟩, if_pos ⟨rfl, by omega, by omega⟩]
          congr 1
          omega
        · rw [if_neg (fun z => h2 z.2)]
          by_cases h3 : 800 * k + 8 * r ≤ j ∧ j < 800 * k + 8 * r + x
          · rw [if_pos ⟨rfl, h3⟩, if_pos ⟨rfl, h3.1, by omega⟩]
          · rw [if_neg (fun z => h3 z.2), if_neg (fun z => h3 ⟨z.2.1, by omega⟩)]
      · rw [if_neg (fun z => h1 z.1), if_neg (fun z => h1 z.1), if_neg (fun z => h1 z.1)]
    rw [if_neg (show ¬ (8 : Int32) ≤ nI x from nI_ge (a := x) (b := 8) (by omega) (by decide)), ix, ix, xMi_at (by show 800 * l + 8 * r + x < 2400; omega) (by decide) g, xb_some, xMt_ok (by show 800 * k + 8 * r + x < 2400; omega) (by decide), xb_some, nI_1, st]
    exact ih (x + 1) m (by omega) (by omega)
theorem cl_step (M : xm) {l k r : Nat} (hl : l < 3) (hk : k < 3) (hlk : l ≠ k) (hr : r < 100) : cl_x (xm_s (xm_s (cl_1 M l k r) 6 (100 * k + r) (M 6 (100 * l + r))) 7 (100 * k + r) (M 7 (100 * l + r))) l k r 8 = cl_1 M l k (r + 1) := by
  funext c j
  rw [clx_get]
  by_cases c8 : c = 8
  · subst c8
    by_cases z : 800 * k + 8 * r ≤ j ∧ j < 800 * k + 8 * r + 8
    · rw [if_pos ⟨rfl, z⟩, ms_get, if_neg (fun y => by omega), ms_get, if_neg (fun y => by omega), cl1_get, if_neg (fun y => by omega), if_neg (fun y => by omega), cl1_get, if_neg (fun y => by omega), if_pos ⟨rfl, by omega, by omega⟩]
    · rw [if_neg (fun y => z y.2), ms_get, if_neg (fun y => by omega), ms_get, if_neg (fun y => by omega), cl1_get, if_neg (fun y => by omega), cl1_get, if_neg (show ¬ ((8 = 6 ∨ 8 = 7) ∧ 100 * k ≤ j ∧ j < 100 * k + (r + 1)) by omega)]
      by_cases z2 : 800 * k ≤ j ∧ j < 800 * k + 8 * r
      · rw [if_pos ⟨rfl, z2⟩, if_pos ⟨rfl, z2.1, by omega⟩]
      · rw [if_neg (fun y => z2 y.2), if_neg (fun y => z ⟨by omega, by omega⟩)]
  · rw [if_neg (fun y => c8 y.1), ms_get, ms_get, cl1_get, cl1_get]
    by_cases c7 : c = 7
    · subst c7
      by_cases z : j = 100 * k + r
      · rw [if_pos ⟨rfl, z⟩, if_pos ⟨Or.inr rfl, by omega, by omega⟩]
        congr 1
        omega
      · rw [if_neg (fun y => z y.2), if_neg (fun y => by omega)]
        by_cases z2 : 100 * k ≤ j ∧ j < 100 * k + r
        · rw [if_pos ⟨Or.inr rfl, z2⟩, if_pos ⟨Or.inr rfl, z2.1, by omega⟩]
        · rw [if_neg (fun y => z2 y.2), if_neg (fun y => by omega), if_neg (fun y => by omega), if_neg (fun y => by omega)]
    · by_cases c6 : c = 6
      · subst c6
        by_cases z : j = 100 * k + r
        · rw [if_neg (fun y => by omega), if_pos ⟨rfl, z⟩, if_pos ⟨Or.inl rfl, by omega, by omega⟩]
          congr 1
          omega
        · rw [if_neg (fun y => by omega), if_neg (fun y => z y.2)]
          by_cases z2 : 100 * k ≤ j ∧ j < 100 * k + r
          · rw [if_pos ⟨Or.inl rfl, z2⟩, if_pos ⟨Or.inl rfl, z2.1, by omega⟩]
          · rw [if_neg (fun y => z2 y.2), if_neg (fun y => by omega), if_neg (fun y => by omega), if_neg (fun y => by omega)]
      · rw [if_neg (fun y => c7 y.1), if_neg (fun y => c6 y.1), if_neg (fun y => y.1.elim c6 c7), if_neg (fun y => c8 y.1), if_neg (fun y => y.1.elim c6 c7), if_neg (fun y => c8 y.1)]
theorem cl1_0 (M : xm) (l k : Nat) : cl_1 M l k 0 = M := by
  funext c j
  rw [cl1_get, if_neg (fun y => by omega), if_neg (fun y => by omega)]
theorem clx_0 (M : xm) (l k r : Nat) : cl_x M l k r 0 = M := by
  funext c j
  rw [clx_get, if_neg (fun y => by omega)]
theorem clb_0 (M : xm) (l k : Nat) : cl_b M l k 0 = M := by
  funext c j
  rw [clb_get, if_neg (fun y => by omega)]
theorem cb_lp {N : xm} {l k : Nat} (hl : l < 3) (hk : k < 3) (hlk : l ≠ k) : ∀ (d i m : Nat), i + d = 10 → d < m → kf_EM_copyLog_128 m (cl_b N l k i) (nI l) (nI k) (nI i) = some (cl_b N l k 10) := by
  have ix : ∀ a x, (10 : Int32) * nI a + nI x = nI (10 * a + x) := fun a x => by
    show nI 10 * nI a + nI x = _
    rw [pk_mul, nI_add]
  intro d
  induction d with
  | zero =>
    intro i m hi hm
    obtain ⟨m, rfl⟩ : ∃ m', m = m' + 1 := ⟨m - 1, by omega⟩
    have : i = 10 := by omega
    subst this
    show kb_EM_copyLog_128 (kf_EM_copyLog_128 m) _ _ _ (nI 10) = _
    unfold kb_EM_copyLog_128
    rw [if_pos (show (10 : Int32) ≤ nI 10 by decide)]
  | succ d ih =>
    intro i m hi hm
    obtain ⟨m, rfl⟩ : ∃ m', m = m' + 1 := ⟨m - 1, by omega⟩
    show kb_EM_copyLog_128 (kf_EM_copyLog_128 m) _ _ _ (nI i) = _
    unfold kb_EM_copyLog_128
    have g : cl_b N l k i 9 (10 * l + i) = N 9 (10 * l + i) := by
      rw [clb_get, if_neg (fun z => by omega)]
    have st : xm_s (cl_b N l k i) 9 (10 * k + i) (N 9 (10 * l + i)) = cl_b N l k (i + 1) := by
      funext c j
      rw [ms_get, clb_get, clb_get]
      by_cases h1 : c = 9
      · subst h1
        by_cases h2 : j = 10 * k + i
        · rw [if_pos ⟨rfl, h2⟩, if_pos ⟨rfl, by omega, by omega⟩]
          congr 1
          omega
        · rw [if_neg (fun z => h2 z.2)]
          by_cases h3 : 10 * k ≤ j ∧ j < 10 * k + i
          · rw [if_pos ⟨rfl, h3⟩, if_pos ⟨rfl, h3.1, by omega⟩]
          · rw [if_neg (fun z => h3 z.2), if_neg (fun z => h3 ⟨z.2.1, by omega⟩)]
      · rw [if_neg (fun z => h1 z.1), if_neg (fun z => h1 z.1), if_neg (fun z => h1 z.1)]
    rw [if_neg (show ¬ (10 : Int32) ≤ nI i from nI_ge (a := i) (b := 10) (by omega) (by decide)), ix, ix, xMi_at (by show 10 * l + i < 30; omega) (by decide) g, xb_some, xMt_ok (by show 10 * k + i < 30; omega) (by decide), xb_some, nI_1, st]
    exact ih (i + 1) m (by omega) (by omega)
theorem ca_loop {l k cnt : Nat} (hl : l < 3) (hk : k < 3) (hlk : l ≠ k) (hc : M 5 l = nI cnt) (h100 : cnt ≤ 100) : ∀ (d i m : Nat), i + d = cnt → d < m → kf_EM_copyLog_14 m (cl_1 M l k i) (nI l) (nI k) (nI i) = some (cl_b (cl_1 M l k cnt) l k 10) := by
  have ix : ∀ a x, (100 : Int32) * nI a + nI x = nI (100 * a + x) := fun a x => by
    show nI 100 * nI a + nI x = _
    rw [pk_mul, nI_add]
  have m5 : ∀ i, xMi (cl_1 M l k i) 5 (nI l) = some (nI cnt) := fun i => xMi_at hl (by decide) (by rw [cl1_get, if_neg (fun y => by omega), if_neg (fun y => by omega)]; exact hc)
  intro d
  induction d with
  | zero =>
    intro i m hi hm
    obtain ⟨m, rfl⟩ : ∃ m', m = m' + 1 := ⟨m - 1, by omega⟩
    have : i = cnt := by omega
    subst this
    show kb_EM_copyLog_14 (kf_EM_copyLog_14 m) _ _ _ (nI i) = _
    unfold kb_EM_copyLog_14
    have := cb_lp (N := cl_1 M l k i) hl hk hlk 10 0 1000 (by omega) (by omega)
    rw [clb_0] at this
    have this' : kf_EM_copyLog_128 1000 (cl_1 M l k i) (nI l) (nI k) 0 = some (cl_b (cl_1 M l k i) l k 10) := this
    rw [m5, xb_some, if_pos (nI_le (Nat.le_refl _) (by omega)), this']
  | succ d ih =>
    intro i m hi hm
    obtain ⟨m, rfl⟩ : ∃ m', m = m' + 1 := ⟨m - 1, by omega⟩
    show kb_EM_copyLog_14 (kf_EM_copyLog_14 m) _ _ _ (nI i) = _
    unfold kb_EM_copyLog_14 kf_EM_copyLog_68
    have g6 : cl_1 M l k i 6 (100 * l + i) = M 6 (100 * l + i) := by rw [cl1_get, if_neg (fun y => by omega), if_neg (fun y => by omega)]
    have g7 : xm_s (cl_1 M l k i) 6 (100 * k + i) (M 6 (100 * l + i)) 7 (100 * l + i) = M 7 (100 * l + i) := by rw [ms_get, if_neg (fun y => by omega), cl1_get, if_neg (fun y => by omega), if_neg (fun y => by omega)]
    have := cx_loop (N := xm_s (xm_s (cl_1 M l k i) 6 (100 * k + i) (M 6 (100 * l + i))) 7 (100 * k + i) (M 7 (100 * l + i))) (r := i) (rec14 := kf_EM_copyLog_14 m) hl hk hlk (by omega) 8 0 1000 (by omega) (by omega)
    rw [clx_0, cl_step M hl hk hlk (by omega)] at this
    have this' : kf_EM_copyLog_71 (kf_EM_copyLog_14 m) 1000 (xm_s (xm_s (cl_1 M l k i) 6 (100 * k + i) (M 6 (100 * l + i))) 7 (100 * k + i) (M 7 (100 * l + i))) (nI l) (nI k) (nI i) 0 = kf_EM_copyLog_14 m (cl_1 M l k (i + 1)) (nI l) (nI k) (nI (i + 1)) := this
    rw [m5, xb_some, if_neg (nI_ge (by omega) (by omega)), ix, ix, xMi_at (by show 100 * l + i < 300; omega) (by decide) g6, xb_some, xMt_ok (by show 100 * k + i < 300; omega) (by decide), xb_some, xMi_at (by show 100 * l + i < 300; omega) (by decide) g7, xb_some, xMt_ok (by show 100 * k + i < 300; omega) (by decide), xb_some, this']
    exact ih (i + 1) m (by omega) (by omega)
def cl_M (M : xm) (l k cnt : Nat) : xm := cl_b (cl_1 (xm_s M 5 k (nI cnt)) l k cnt) l k 10
theorem cl_all {l k cnt : Nat} (hl : l < 3) (hk : k < 3) (hlk : l ≠ k) (hc : M 5 l = nI cnt) (h100 : cnt ≤ 100) : kf_EM_copyLog_0 M (nI l) (nI k) = some (cl_M M l k cnt) := by
  unfold kf_EM_copyLog_0
  have := ca_loop (M := xm_s M 5 k (nI cnt)) hl hk hlk (by rw [ms_ne hlk]; exact hc) h100 cnt 0 1000 (by omega) (by omega)
  rw [cl1_0] at this
  have this' : kf_EM_copyLog_14 1000 (xm_s M 5 k (nI cnt)) (nI l) (nI k) 0 = some (cl_b (cl_1 (xm_s M 5 k (nI cnt)) l k cnt) l k 10) := this
  rw [xMi_at hl (by decide) hc, xb_some, xMt_ok hk (by decide), xb_some, this']
  rfl
end
section
variable {B : Nat} {fz : Nat → Prop} {V : List Int32} {E P : Nat} {D : Nat → Nat} {c : Nat} {R : Nat → Nat} {n : Nat} {K : xk} {M : xm}
theorem clM_5 (M : xm) (l k cnt j : Nat) : cl_M M l k cnt 5 j = if j = k then nI cnt else M 5 j := ms_at' M 5 k j _
theorem clM_67 (M : xm) (l k cnt j : Nat) {f : Nat} (hf : f = 6 ∨ f = 7) : cl_M M l k cnt f j = if 100 * k ≤ j ∧ j < 100 * k + cnt then M f (100 * l + (j - 100 * k)) else M f j := by
  unfold cl_M
  rw [clb_get, if_neg (fun z => by omega), cl1_get]
  by_cases z : 100 * k ≤ j ∧ j < 100 * k + cnt
  · rw [if_pos ⟨hf, z⟩, if_pos z, ms_get, if_neg (fun y => by omega)]
  · rw [if_neg (fun y => z y.2), if_neg (fun y => by omega), if_neg z, ms_get, if_neg (fun y => by omega)]
theorem clM_8 (M : xm) (l k cnt j : Nat) : cl_M M l k cnt 8 j = if 800 * k ≤ j ∧ j < 800 * k + 8 * cnt then M 8 (800 * l + (j - 800 * k)) else M 8 j := by
  unfold cl_M
  rw [clb_get, if_neg (fun z => by omega), cl1_get, if_neg (fun z => by omega)]
  by_cases z : 800 * k ≤ j ∧ j < 800 * k + 8 * cnt
  · rw [if_pos ⟨rfl, z⟩, if_pos z, ms_get, if_neg (fun y => by omega)]
  · rw [if_neg (fun y => z y.2), if_neg z, ms_get, if_neg (fun y => by omega)]
theorem clM_9 (M : xm) (l k cnt j : Nat) : cl_M M l k cnt 9 j = if 10 * k ≤ j ∧ j < 10 * k + 10 then M 9 (10 * l + (j - 10 * k)) else M 9 j := by
  unfold cl_M
  rw [clb_get]
  by_cases z : 10 * k ≤ j ∧ j < 10 * k + 10
  · rw [if_pos ⟨rfl, z⟩, if_pos z]; rfl
  · rw [if_neg (fun y => z y.2), if_neg z]; rfl
theorem clM_ne (M : xm) (l k cnt : Nat) {f : Nat} (h : f < 5 ∨ 9 < f) (j : Nat) : cl_M M l k cnt f j = M f j := by
  unfold cl_M
  rw [clb_get, if_neg (fun z => by omega), cl1_get, if_neg (fun z => by omega), if_neg (fun z => by omega), ms_get, if_neg (fun z => by omega)]
theorem clM_self {l cnt : Nat} (hc : M 5 l = nI cnt) : cl_M M l l cnt = M := by
  funext f j
  by_cases h : f < 5 ∨ 9 < f
  · exact clM_ne M l l cnt h j
  · rcases (show f = 5 ∨ f = 6 ∨ f = 7 ∨ f = 8 ∨ f = 9 by omega) with rfl | rfl | rfl | rfl | rfl
    · rw [clM_5]
      by_cases z : j = l
      · rw [if_pos z, z, hc]
      · rw [if_neg z]
    · rw [clM_67 _ _ _ _ _ (Or.inl rfl)]
      split
      · congr 1; omega
      · rfl
    · rw [clM_67 _ _ _ _ _ (Or.inr rfl)]
      split
      · congr 1; omega
      · rfl
    · rw [clM_8]
      split
      · congr 1; omega
      · rfl
    · rw [clM_9]
      split
      · congr 1; omega
      · rfl
def eK (K : xk) (B k l cnt nn : Nat) (base ed : Int32) : xk := xk_sI (xk_tI (xk_sI (xk_irow (xk_sI (xk_row K (39 + 3 * k + B) (cpr (xk_ar K (39 + 3 * l + B)) (xk_ar K (39 + 3 * k + B)) cnt)) 9 6 (37 + 3 * k + B) (nI cnt)) (38 + 3 * k + B) (cpr (xk_ai K (38 + 3 * l + B)) (xk_ai K (38 + 3 * k + B)) 10)) 9 2 (37 + 3 * k + B) (nI nn)) (38 + 3 * k + B) nn base) 9 3 (37 + 3 * k + B) ed
def eM (M : xm) (k l cnt nn : Nat) (base ed m18 : Int32) : xm := xm_s (xm_s (xm_s (xm_s (cl_M M l k cnt) 2 k (nI nn)) 9 (10 * k + nn) base) 4 k ed) 18 nn m18
/-- a log enters a new epoch as a copy of another -/
theorem st_lg {k l cnt nn : Nat} {base ed m18 : Int32} (h : iA B fz V nn P D c R n K M) (hk : k < 3) (hl : l < 3) (hc : M 5 l = nI cnt) (h100 : cnt ≤ 100) (hn1 : 1 ≤ nn) (hn9 : nn ≤ 9) (ha : xk_ar K (5 + B) nn = none) (hm : ∀ b, b < 32 → bt (M 18 nn) b = true → bt m18 b = true) (hmk : bt m18 k = true) :
    iA B fz V nn P D c R n (eK K B k l cnt nn base ed) (eM M k l cnt nn base ed m18) := by
  obtain ⟨x0, o0, c0, l0, t0, u0, b0, L0, T0, U0, m0, q0, y0, dq, dy, s0, g0, ⟨p1, p2, p3, p4, p5, p6, p7⟩, n0⟩ := id h
  have k39 : xk_kd K (39 + 3 * k + B) = 108 := (L0 k hk).2.2.2.2.2.1
  have k37 : xk_kd K (37 + 3 * k + B) = 9 + 1 := (l0.2.2 k hk).2.1
  have kn : ∀ z, z ≠ 108 → xk_kd K (39 + 3 * k + B) ≠ z := fun z hz => by rw [k39]; exact fun q => hz q.symm
  obtain ⟨w1, w2, w3, w4, w5, w6, w7, w8, w9, w10, w11, w12, w13, w14⟩ := wa_all (b0 := 39 + 3 * k + B) (α := xk_ar (xk_row K (39 + 3 * k + B) (cpr (xk_ar K (39 + 3 * l + B)) (xk_ar K (39 + 3 * k + B)) cnt))) h (fun b j hb => row_ne K _ j hb)
  have ai : ∀ b j, b ≠ 38 + 3 * k + B → xk_ai (eK K B k l cnt nn base ed) b j = xk_ai K b j := fun b j hb => by
    show xk_ai (xk_tI (xk_irow K (38 + 3 * k + B) (cpr (xk_ai K (38 + 3 * l + B)) (xk_ai K (38 + 3 * k + B)) 10)) (38 + 3 * k + B) nn base) b j = _
    rw [tI_get, if_neg (fun z => hb z.1), irow_ne _ _ _ hb]
  have aik : ∀ j, j < 10 → xk_ai (eK K B k l cnt nn base ed) (38 + 3 * k + B) j = if j = nn then base else xk_ai K (38 + 3 * l + B) j := fun j hj => by
    show xk_ai (xk_tI (xk_irow K (38 + 3 * k + B) (cpr (xk_ai K (38 + 3 * l + B)) (xk_ai K (38 + 3 * k + B)) 10)) (38 + 3 * k + B) nn base) (38 + 3 * k + B) j = _
    rw [tI_get]
    by_cases z : j = nn
    · rw [if_pos ⟨rfl, z⟩, if_pos z]
    · rw [if_neg (fun y => z y.2), if_neg z, irow_at]
      exact if_pos hj
  have arr : ∀ b j, xk_ar (eK K B k l cnt nn base ed) b j = xk_ar (xk_row K (39 + 3 * k + B) (cpr (xk_ar K (39 + 3 * l + B)) (xk_ar K (39 + 3 * k + B)) cnt)) b j := fun _ _ => rfl
  have hwr : ∀ {w : Nat} {m : Int32} {f : Nat → Int32}, wr K w m f → wr (eK K B k l cnt nn base ed) w m f := fun {w m f} ⟨r1, r2, r3, r4, r5, r6⟩ => by
    refine ⟨r1, r2, r3, r4, r5, fun x hx hb => ?_⟩
    rw [ai _ _ (fun z => by
      rw [show w = 37 + 3 * k + B by omega] at r1
      omega)]
    exact r6 x hx hb
  have hen : ∀ {a : Nat} {x b m : Int32} {f : Nat → Int32}, en K fz V a x b m f → en (eK K B k l cnt nn base ed) fz V a x b m f := fun ⟨a1, a2, a3, a4, w, a5, a6, a7⟩ => ⟨a1, a2, a3, a4, w, a5, a6, hwr a7⟩
  have a5 : ∀ d, xk_ar (eK K B k l cnt nn base ed) (5 + B) d = xk_ar K (5 + B) d := fun d => row_ne K _ d (fun z => kn 106 (by decide) (by rw [← z]; exact m0.1))
  have dn : ∀ {d ma : Nat}, xk_ar K (5 + B) d = some ma → d ≠ nn := fun {d ma} hd z => by rw [z, ha] at hd; cases hd
  have e18 : ∀ d, eM M k l cnt nn base ed m18 18 d = if d = nn then m18 else M 18 d := fun d => by
    unfold eM
    rw [ms_at']
    by_cases z : d = nn
    · rw [if_pos z, if_pos z]
    · rw [if_neg z, if_neg z]
      exact clM_ne M l k cnt (f := 18) (by omega) d
  have e2 : ∀ j, eM M k l cnt nn base ed m18 2 j = if j = k then nI nn else M 2 j := fun j => by
    show xm_s (cl_M M l k cnt) 2 k (nI nn) 2 j = _
    rw [ms_at']
    by_cases z : j = k
    · rw [if_pos z, if_pos z]
    · rw [if_neg z, if_neg z]
      exact clM_ne M l k cnt (f := 2) (by omega) j
  have e4 : ∀ j, eM M k l cnt nn base ed m18 4 j = if j = k then ed else M 4 j := fun j => by
    show xm_s (xm_s (xm_s (cl_M M l k cnt) 2 k (nI nn)) 9 (10 * k + nn) base) 4 k ed 4 j = _
    rw [ms_at']
    by_cases z : j = k
    · rw [if_pos z, if_pos z]
    · rw [if_neg z, if_neg z]
      exact clM_ne M l k cnt (f := 4) (by omega) j
  have e5 : ∀ j, eM M k l cnt nn base ed m18 5 j = if j = k then nI cnt else M 5 j := fun j => clM_5 M l k cnt j
  have e6 : ∀ j, eM M k l cnt nn base ed m18 6 j = if 100 * k ≤ j ∧ j < 100 * k + cnt then M 6 (100 * l + (j - 100 * k)) else M 6 j := fun j => clM_67 M l k cnt j (Or.inl rfl)
  have e7 : ∀ j, eM M k l cnt nn base ed m18 7 j = if 100 * k ≤ j ∧ j < 100 * k + cnt then M 7 (100 * l + (j - 100 * k)) else M 7 j := fun j => clM_67 M l k cnt j (Or.inr rfl)
  have e8 : ∀ j, eM M k l cnt nn base ed m18 8 j = if 800 * k ≤ j ∧ j < 800 * k + 8 * cnt then M 8 (800 * l + (j - 800 * k)) else M 8 j := fun j => clM_8 M l k cnt j
  have e9 : ∀ j, eM M k l cnt nn base ed m18 9 j = if j = 10 * k + nn then base else if 10 * k ≤ j ∧ j < 10 * k + 10 then M 9 (10 * l + (j - 10 * k)) else M 9 j := fun j => by
    show xm_s (xm_s (cl_M M l k cnt) 2 k (nI nn)) 9 (10 * k + nn) base 9 j = _
    rw [ms_at']
    by_cases z : j = 10 * k + nn
    · rw [if_pos z, if_pos z]
    · rw [if_neg z, if_neg z]
      exact clM_9 M l k cnt j
  have iv : ∀ f j, j < 3 → xk_iv (eK K B k l cnt nn base ed) 9 f (37 + 3 * j + B) = if j = k then (if f = 3 then ed else if f = 2 then nI nn else if f = 6 then nI cnt else xk_iv K 9 f (37 + 3 * j + B)) else xk_iv K 9 f (37 + 3 * j + B) := fun f j hj => by
    unfold eK
    rw [sI_get]
    show (if 9 = 9 ∧ f = 3 ∧ 37 + 3 * j + B = 37 + 3 * k + B then ed else xk_iv (xk_sI (xk_sI K 9 6 (37 + 3 * k + B) (nI cnt)) 9 2 (37 + 3 * k + B) (nI nn)) 9 f (37 + 3 * j + B)) = _
    rw [sI_get, sI_get]
    by_cases z : j = k
    · rw [if_pos z]
      by_cases f3 : f = 3
      · rw [if_pos ⟨rfl, f3, by omega⟩, if_pos f3]
      · rw [if_neg (fun y => f3 y.2.1), if_neg f3]
        by_cases f2 : f = 2
        · rw [if_pos ⟨rfl, f2, by omega⟩, if_pos f2]
        · rw [if_neg (fun y => f2 y.2.1), if_neg f2]
          by_cases f6 : f = 6
          · rw [if_pos ⟨rfl, f6, by omega⟩, if_pos f6]
          · rw [if_neg (fun y => f6 y.2.1), if_neg f6]
    · rw [if_neg z, if_neg (fun y => z (by omega)), if_neg (fun y => z (by omega)), if_neg (fun y => z (by omega))]
  have l1 := w2 (kn _ (by decide))
  refine ⟨w11, w12, w1 (kn _ (by decide)), ⟨l1.1, l1.2.1, fun j hj => ?_⟩, w3 (kn _ (by decide)), w4 (kn _ (by decide)), b0, fun j hj => ?_, fun j hj => ?_, ⟨fun i hi => ?_, U0.2⟩, ⟨m0.1, m0.2.1, fun d d1 d9 => ?_⟩, fun d md d1 d9 hd => ?_, fun d md d1 d9 hd => ?_, (w8 (kn _ (by decide)) (kn _ (by decide))).2, (w9 (kn _ (by decide)) (kn _ (by decide))).2, w10 (kn _ (by decide)), ⟨g0.1, fun j hj => ?_⟩, ⟨p1, p2, p3, p4, p5, fun i hi => ?_, p7⟩, n0⟩
  · obtain ⟨f1, f2, f3, f4, f5, f6, f7⟩ := l0.2.2 j hj
    refine ⟨(l1.2.2 j hj).1, f2, ?_, ?_, ?_, ?_, ?_⟩
    · rw [iv 0 j hj, if_neg (show ¬ 0 = 3 by decide), if_neg (show ¬ 0 = 2 by decide), if_neg (show ¬ 0 = 6 by decide)]
      split <;> exact f3
    · rw [iv 1 j hj, if_neg (show ¬ 1 = 3 by decide), if_neg (show ¬ 1 = 2 by decide), if_neg (show ¬ 1 = 6 by decide)]
      split <;> exact f4
    · rw [iv 2 j hj, e2, if_neg (show ¬ 2 = 3 by decide), if_pos rfl, f5]
    · rw [iv 3 j hj, e4, if_pos rfl, f6]
    · rw [iv 6 j hj, e5, if_neg (show ¬ 6 = 3 by decide), if_neg (show ¬ 6 = 2 by decide), if_pos rfl, f7]
  · obtain ⟨z1, z2, z3, z4, z5, z6, z7, n1, z8, z9, z10⟩ := L0 j hj
    by_cases q : j = k
    · subst q
      obtain ⟨y1, y2, y3, y4, y5, y6, y7, n2, y8, y9, y10⟩ := L0 l hl
      have : n2 = cnt := (nI_eq (by omega) (by omega)).mp (y9.symm.trans hc)
      subst this
      refine ⟨z1, z2, z3, z4, fun e he => ?_, z6, z7, n2, h100, by rw [e5, if_pos rfl], fun x hx => ?_⟩
      · rw [aik e he, e9]
        by_cases z : e = nn
        · rw [if_pos z, if_pos (by omega)]
        · rw [if_neg z, if_neg (by omega), if_pos (by omega), Nat.add_sub_cancel_left]
          exact y5 e he
      · obtain ⟨a, b, r1, r2⟩ := y10 x hx
        refine ⟨a, b, ?_, ?_⟩
        · rw [arr, row_ar]
          exact (if_pos hx).trans r1
        · rw [e6, if_pos (by omega), e7, if_pos (by omega), Nat.add_sub_cancel_left]
          refine en_cg (hen r2) (fun y hy => ?_)
          rw [e8, if_pos (by omega)]
          congr 1
          omega
    · refine ⟨z1, z2, z3, z4, fun e he => ?_, z6, z7, n1, z8, by rw [e5, if_neg q]; exact z9, fun x hx => ?_⟩
      · rw [ai _ _ (by omega), e9, if_neg (by omega), if_neg (by omega)]
        exact z5 e he
      · obtain ⟨a, b, r1, r2⟩ := z10 x hx
        refine ⟨a, b, ?_, ?_⟩
        · rw [arr, row_ne _ _ _ (by omega)]
          exact r1
        · rw [e6, if_neg (by omega), e7, if_neg (by omega)]
          refine en_cg (hen r2) (fun y hy => ?_)
          rw [e8, if_neg (by omega)]
  · obtain ⟨z1, z2, z3, z4, n1, z5, z6, z7, z8, z9⟩ := T0 j hj
    refine ⟨z1, z2, z3, z4, n1, z5, z6, z7, fun x hx => ?_, z9⟩
    obtain ⟨a, b, m, y1, y2, y3⟩ := z8 x hx
    refine ⟨a, b, m, ?_, y2, hen y3⟩
    rw [arr, row_ne _ _ _ (by omega)]
    exact y1
  · obtain ⟨w, v1, v2, v3⟩ := U0.1 i hi
    exact ⟨w, v1, hwr v2, v3⟩
  · rw [a5]
    refine (m0.2.2 d d1 d9).imp id (fun ⟨z, md, a1, a2⟩ => ⟨z, md, a1, ?_⟩)
    obtain ⟨k1, k2, k3, k4, k5, k6, k7, k8, k9, k10, k11, k12, k13, k14, k15, k16, k17, k18⟩ := a2
    refine ⟨k1, k2, ?_, k4, k5, k6, k7, k8, k9, k10, k11, fun x hx => ?_, k13, k14, k15, k16, k17, k18⟩
    · rw [e18, if_neg (dn a1)]; exact k3
    · rw [ai _ _ (fun z => by
        rw [show md = 37 + 3 * k + B by omega] at k1
        omega)]
      exact k12 x hx
  · obtain ⟨n1, z1, z2, z3, z4⟩ := (w8 (kn _ (by decide)) (kn _ (by decide))).1 d md d1 d9 hd
    have hd' : xk_ar K (5 + B) d = some md := (a5 d).symm.trans hd
    refine ⟨n1, z1, z2, z3, fun i hi => ?_⟩
    rw [e18, if_neg (dn hd')]
    exact z4 i hi
  · obtain ⟨n1, z1, z2, z3, z4⟩ := (w9 (kn _ (by decide)) (kn _ (by decide))).1 d md d1 d9 hd
    have hd' : xk_ar K (5 + B) d = some md := (a5 d).symm.trans hd
    refine ⟨n1, z1, z2, z3, fun i hi => ?_⟩
    rw [e18, if_neg (dn hd')]
    obtain ⟨y, y1, y2, y3, y4, y5, y6, y7, a, y8, y9⟩ := z4 i hi
    exact ⟨y, y1, y2, y3, y4, y5, y6, y7, a, y8, hen y9⟩
  · obtain ⟨q1, q2, q3, q4, q5, q6, q7⟩ := g0.2 j hj
    have hmb : ∀ h' : Nat → Int32, mb M nn h' → mb (eM M k l cnt nn base ed m18) nn h' := fun h' ⟨c1, d1, r1, r2, r3, r4, r5, r6⟩ => by
      refine ⟨c1, d1, r1, r2, r3, r4, r5, ?_⟩
      rw [e18]
      by_cases z : d1 = nn
      · rw [if_pos z]
        rw [z] at r6
        exact hm c1 (by omega) r6
      · rw [if_neg z]; exact r6
    refine ⟨q1, q2, q3, q4, q5, q6, ?_⟩
    rcases q7 with t | t | ⟨t1, t2, t3, t4⟩ | t | ⟨t1, t2, t3, w, t4, t5, t6⟩ | ⟨t1, a, t2, t3⟩ | ⟨t1, t2⟩ | t
    · exact Or.inl t
    · exact Or.inr (Or.inl t)
    · exact Or.inr (Or.inr (Or.inl ⟨t1, t2, t3, hmb _ t4⟩))
    · exact Or.inr (Or.inr (Or.inr (Or.inl t)))
    · exact Or.inr (Or.inr (Or.inr (Or.inr (Or.inl ⟨t1, t2, t3, w, t4, t5, hwr t6⟩))))
    · exact Or.inr (Or.inr (Or.inr (Or.inr (Or.inr (Or.inl ⟨t1, a, t2, hen t3⟩)))))
    · exact Or.inr (Or.inr (Or.inr (Or.inr (Or.inr (Or.inr (Or.inl ⟨t1, hmb _ t2⟩))))))
    · exact Or.inr (Or.inr (Or.inr (Or.inr (Or.inr (Or.inr (Or.inr t))))))
  · by_cases q : i = k
    · subst q
      exact ⟨nn, hn1, Nat.le_refl _, by rw [e2, if_pos rfl], by rw [e18, if_pos rfl]; exact hmk⟩
    · obtain ⟨e, r1, r2, r3, r4⟩ := p6 i hi
      refine ⟨e, r1, r2, by rw [e2, if_neg q]; exact r3, ?_⟩
      rw [e18]
      by_cases z : e = nn
      · rw [if_pos z]
        rw [z] at r4
        exact hm i (by omega) r4
      · rw [if_neg z]; exact r4
end
section
variable {B : Nat} {fz : Nat → Prop} {V : List Int32} {E P : Nat} {D : Nat → Nat} {c : Nat} {R : Nat → Nat} {n : Nat} {K : xk} {M : xm}
theorem no_ma (h : iA B fz V E P D c R n K M) {e : Nat} (hE : E < e) (e9 : e ≤ 9) : xk_ar K (5 + B) e = none ∧ M 17 e = 0 ∧ M 24 e = 0 ∧ M 25 e = 0 ∧ M 30 e = 0 := by
  obtain ⟨x0, o0, c0, l0, t0, u0, b0, L0, T0, U0, m0, q0, y0, dq, dy, s0, g0, e0, n0⟩ := h
  have z := e0.2.2.2.2.1 e hE e9
  refine ⟨?_, z⟩
  rcases m0.2.2 e (by have := e0.1; omega) e9 with ⟨-, a⟩ | ⟨a, -⟩
  · exact a
  · rw [z.1] at a
    exact absurd a (by decide)
/-- the members of an epoch that is not yet -/
theorem st_18 {nn : Nat} {v : Int32} (h : iA B fz V E P D c R n K M) (hE : E < nn) (h9 : nn ≤ 9) : iA B fz V E P D c R n K (xm_s M 18 nn v) := by
  have ha := (no_ma h hE h9).1
  obtain ⟨x0, o0, c0, l0, t0, u0, b0, L0, T0, U0, m0, q0, y0, dq, dy, s0, g0, ⟨p1, p2, p3, p4, p5, p6, p7⟩, n0⟩ := id h
  have dn : ∀ {d ma : Nat}, xk_ar K (5 + B) d = some ma → d ≠ nn := fun {d ma} hd z => by rw [z, ha] at hd; cases hd
  refine ⟨x0, o0, c0, l0, t0, u0, b0, L0, T0, U0, ⟨m0.1, m0.2.1, fun d d1 d9 => ?_⟩, fun d md d1 d9 hd => ?_, fun d md d1 d9 hd => ?_, dq, dy, s0, ⟨g0.1, fun j hj => ?_⟩, ⟨p1, p2, p3, p4, p5, fun i hi => ?_, p7⟩, n0⟩
  · refine (m0.2.2 d d1 d9).imp id (fun ⟨z, md, a1, a2⟩ => ⟨z, md, a1, ?_⟩)
    obtain ⟨k1, k2, k3, k4⟩ := a2
    refine ⟨k1, k2, ?_, k4⟩
    rw [ms_ne (dn a1)]
    exact k3
  · obtain ⟨n1, z1, z2, z3, z4⟩ := q0 d md d1 d9 hd
    refine ⟨n1, z1, z2, z3, fun i hi => ?_⟩
    rw [ms_ne (dn hd)]
    exact z4 i hi
  · obtain ⟨n1, z1, z2, z3, z4⟩ := y0 d md d1 d9 hd
    refine ⟨n1, z1, z2, z3, fun i hi => ?_⟩
    rw [ms_ne (dn hd)]
    exact z4 i hi
  · obtain ⟨q1, q2, q3, q4, q5, q6, q7⟩ := g0.2 j hj
    have hmb : ∀ h' : Nat → Int32, mb M E h' → mb (xm_s M 18 nn v) E h' := fun h' ⟨c1, d1, r1, r2, r3, r4, r5, r6⟩ => by
      refine ⟨c1, d1, r1, r2, r3, r4, r5, ?_⟩
      rw [ms_ne (by omega)]
      exact r6
    refine ⟨q1, q2, q3, q4, q5, q6, ?_⟩
    rcases q7 with t | t | ⟨t1, t2, t3, t4⟩ | t | t | t | ⟨t1, t2⟩ | t
    · exact Or.inl t
    · exact Or.inr (Or.inl t)
    · exact Or.inr (Or.inr (Or.inl ⟨t1, t2, t3, hmb _ t4⟩))
    · exact Or.inr (Or.inr (Or.inr (Or.inl t)))
    · exact Or.inr (Or.inr (Or.inr (Or.inr (Or.inl t))))
    · exact Or.inr (Or.inr (Or.inr (Or.inr (Or.inr (Or.inl t)))))
    · exact Or.inr (Or.inr (Or.inr (Or.inr (Or.inr (Or.inr (Or.inl ⟨t1, hmb _ t2⟩))))))
    · exact Or.inr (Or.inr (Or.inr (Or.inr (Or.inr (Or.inr (Or.inr t))))))
  · obtain ⟨e, r1, r2, r3, r4⟩ := p6 i hi
    refine ⟨e, r1, r2, r3, ?_⟩
    rw [ms_ne (by omega)]
    exact r4
-- the coordinators that are up learn the new epoch
def iAx (B : Nat) (fz : Nat → Prop) (V : List Int32) (E P : Nat) (D : Nat → Nat) (c : Nat) (R : Nat → Nat) (n : Nat) (K : xk) (M : xm) : Prop :=
  iX K B ∧ iO K B ∧ iC K M B ∧ iL K M B ∧ iT K M B ∧ iU K M B ∧ jB M ∧ jL K M B fz V ∧ jT K M B fz V P ∧ jU K M B fz ∧ jM K M B ∧ jQ K M B ∧ jY K M B fz V D ∧ jDq K M B ∧ jDy K M B D ∧ jS K B c R ∧ jG K M fz V E c R ∧ jN M V P n c
theorem mv_E {F : Nat} {f : Nat → Int32} {g : Nat → Option Nat} {h ct : Nat → Int32} (hE : E ≤ F) (H : mv K M fz V E f g h ct) : mv K M fz V F f g h ct := by
  have hmb : mb M E h → mb M F h := fun ⟨c1, d1, r1, r2, r3, r4, r5, r6⟩ => ⟨c1, d1, r1, r2, r3, by omega, r5, r6⟩
  obtain ⟨q1, q2, q3, q4, q5, q6, q7⟩ := H
  refine ⟨q1, q2, q3, q4, q5, q6, ?_⟩
  rcases q7 with t | t | ⟨t1, t2, t3, t4⟩ | t | t | t | ⟨t1, t2⟩ | t
  · exact Or.inl t
  · exact Or.inr (Or.inl t)
  · exact Or.inr (Or.inr (Or.inl ⟨t1, t2, t3, hmb t4⟩))
  · exact Or.inr (Or.inr (Or.inr (Or.inl t)))
  · exact Or.inr (Or.inr (Or.inr (Or.inr (Or.inl t))))
  · exact Or.inr (Or.inr (Or.inr (Or.inr (Or.inr (Or.inl t)))))
  · exact Or.inr (Or.inr (Or.inr (Or.inr (Or.inr (Or.inr (Or.inl ⟨t1, hmb t2⟩))))))
  · exact Or.inr (Or.inr (Or.inr (Or.inr (Or.inr (Or.inr (Or.inr t))))))
theorem st_co1 {i : Nat} {v : Int32} (h : iAx B fz V E P D c R n K M) : iAx B fz V E P D c R n (xk_sI K 1 1 (34 + i + B) v) (xm_s M 0 i v) := by
  obtain ⟨x0, o0, ⟨c1, c2, c3⟩, l0, t0, u0, b0, L0, T0, U0, m0, q0, y0, dq, dy, s0, g0, n0⟩ := h
  refine ⟨x0, o0, ⟨c1, c2, fun j hj => ?_⟩, l0, t0, u0, b0, L0, T0, U0, m0, q0, y0, dq, dy, s0, g0, n0⟩
  obtain ⟨e1, e2, e3, e4⟩ := c3 j hj
  exact ⟨e1, e2, e3, up_eq (by omega) e4⟩
def coK (K : xk) (M : xm) (B : Nat) (x : Int32) : Nat → xk
  | 0 => K
  | i + 1 => if M 1 i = 0 then coK K M B x i else xk_sI (coK K M B x i) 1 1 (34 + i + B) x
def coM (M : xm) (x : Int32) : Nat → xm
  | 0 => M
  | i + 1 => if M 1 i = 0 then coM M x i else xm_s (coM M x i) 0 i x
theorem coM_get (M : xm) (x : Int32) : ∀ (i f j : Nat), coM M x i f j = if f = 0 ∧ j < i ∧ ¬ M 1 j = 0 then x else M f j := by
  intro i
  induction i with
  | zero =>
    intro f j
    rw [if_neg (fun z => by omega)]
    rfl
  | succ i ih =>
    intro f j
    show (if M 1 i = 0 then coM M x i else xm_s (coM M x i) 0 i x) f j = _
    by_cases hu : M 1 i = 0
    · rw [if_pos hu, ih]
      by_cases z : f = 0 ∧ j < i ∧ ¬ M 1 j = 0
      · rw [if_pos z, if_pos ⟨z.1, by omega, z.2.2⟩]
      · rw [if_neg z, if_neg (fun y => z ⟨y.1, by
          have : j ≠ i := fun q => y.2.2 (by rw [q]; exact hu)
          omega, y.2.2⟩)]
    · rw [if_neg hu, ms_get, ih]
      by_cases z : f = 0 ∧ j = i
      · rw [if_pos z, if_pos ⟨z.1, by omega, by rw [z.2]; exact hu⟩]
      · rw [if_neg z]
        by_cases z2 : f = 0 ∧ j < i ∧ ¬ M 1 j = 0
        · rw [if_pos z2, if_pos ⟨z2.1, by omega, z2.2.2⟩]
        · rw [if_neg z2, if_neg (fun y => z2 ⟨y.1, by
            have : j ≠ i := fun q => z ⟨y.1, q⟩
            omega, y.2.2⟩)]
theorem co_iAx {x : Int32} (h : iAx B fz V E P D c R n K M) : ∀ i, iAx B fz V E P D c R n (coK K M B x i) (coM M x i) := by
  intro i
  induction i with
  | zero => exact h
  | succ i ih =>
    show iAx B fz V E P D c R n (if M 1 i = 0 then coK K M B x i else xk_sI (coK K M B x i) 1 1 (34 + i + B) x) (if M 1 i = 0 then coM M x i else xm_s (coM M x i) 0 i x)
    by_cases hu : M 1 i = 0
    · rw [if_pos hu, if_pos hu]; exact ih
    · rw [if_neg hu, if_neg hu]; exact st_co1 ih
theorem co_ar (K : xk) (M : xm) (B : Nat) (x : Int32) : ∀ i, xk_ar (coK K M B x i) = xk_ar K := by
  intro i
  induction i with
  | zero => rfl
  | succ i ih =>
    show xk_ar (if M 1 i = 0 then coK K M B x i else xk_sI (coK K M B x i) 1 1 (34 + i + B) x) = _
    split
    · exact ih
    · exact ih
theorem co_lpK {x : Int32} (h : iAx B fz V E P D c R n K M) : ∀ (d i m : Nat), i + d = 3 → d < m → kf_ES_raiseCoordinators_2 m (coK K M B x i) B x (nI i) = some (coK K M B x 3) := by
  intro d
  induction d with
  | zero =>
    intro i m hi hm
    obtain ⟨m, rfl⟩ : ∃ m', m = m' + 1 := ⟨m - 1, by omega⟩
    have : i = 3 := by omega
    subst this
    show kb_ES_raiseCoordinators_2 (kf_ES_raiseCoordinators_2 m) _ B x (nI 3) = _
    unfold kb_ES_raiseCoordinators_2
    rw [if_pos (show (3 : Int32) ≤ nI 3 from nI_le (a := 3) (b := 3) (Nat.le_refl _) (by decide))]
  | succ d ih =>
    intro i m hi hm
    obtain ⟨m, rfl⟩ : ∃ m', m = m' + 1 := ⟨m - 1, by omega⟩
    have hX := co_iAx (x := x) h i
    obtain ⟨x0, o0, ⟨c1, c2, c3⟩, -⟩ := hX
    obtain ⟨e1, e2, e3, e4⟩ := c3 i (by omega)
    have e3' : xk_iv (coK K M B x i) 1 0 (34 + i + B) = M 1 i := by
      rw [e3, coM_get, if_neg (fun z => by omega)]
    have hs : coK K M B x (i + 1) = if M 1 i = 0 then coK K M B x i else xk_sI (coK K M B x i) 1 1 (34 + i + B) x := rfl
    have ih' := ih (i + 1) m (by omega) (by omega)
    show kb_ES_raiseCoordinators_2 (kf_ES_raiseCoordinators_2 m) _ B x (nI i) = _
    unfold kb_ES_raiseCoordinators_2
    have ra : xRa (coK K M B x i) 2 (1 + B) (nI i) = some (some (34 + i + B)) := by rw [xRa_ok c1 c2 (by omega) (by decide), e1]
    rw [if_neg (show ¬ (3 : Int32) ≤ nI i from nI_ge (a := i) (b := 3) (by omega) (by decide)), xR_ok o0.1, o0.2.1]
    simp only [xb_some, ra]
    rw [xI_at e2 e3', xb_some, nI_1]
    by_cases hu : M 1 i = 0
    · rw [if_pos hu] at hs ⊢
      rw [← hs]
      exact ih'
    · rw [if_neg hu] at hs ⊢
      rw [xIs_ok e2, xb_some, ← hs]
      exact ih'
theorem co_lpM {x : Int32} {l : Nat} {old : Int32} : ∀ (d i m : Nat), i + d = 3 → d < m → kf_EM_recover_64 m (coM M x i) (nI l) x old (nI i) = (xMz (coM M x 3) 17 x 1).bind fun M1 => kf_EM_recover_111 M1 (nI l) x old := by
  intro d
  induction d with
  | zero =>
    intro i m hi hm
    obtain ⟨m, rfl⟩ : ∃ m', m = m' + 1 := ⟨m - 1, by omega⟩
    have : i = 3 := by omega
    subst this
    show kb_EM_recover_64 (kf_EM_recover_64 m) _ _ _ _ (nI 3) = _
    unfold kb_EM_recover_64
    rw [if_pos (show (3 : Int32) ≤ nI 3 from nI_le (a := 3) (b := 3) (Nat.le_refl _) (by decide))]
  | succ d ih =>
    intro i m hi hm
    obtain ⟨m, rfl⟩ : ∃ m', m = m' + 1 := ⟨m - 1, by omega⟩
    have hs : coM M x (i + 1) = if M 1 i = 0 then coM M x i else xm_s (coM M x i) 0 i x := rfl
    have ih' := ih (i + 1) m (by omega) (by omega)
    have h3 : i < 3 := by omega
    have e1 : coM M x i 1 i = M 1 i := by rw [coM_get, if_neg (fun z => by omega)]
    show kb_EM_recover_64 (kf_EM_recover_64 m) _ _ _ _ (nI i) = _
    unfold kb_EM_recover_64
    rw [if_neg (show ¬ (3 : Int32) ≤ nI i from nI_ge (a := i) (b := 3) (by omega) (by decide)), xMi_at h3 (by decide) e1, xb_some, nI_1]
    by_cases hu : M 1 i = 0
    · rw [if_pos hu] at hs ⊢
      rw [xMi_ok h3 (by decide), xb_some, xMt_ok h3 (by decide), xb_some, xm_same rfl, ← hs]
      exact ih'
    · rw [if_neg hu] at hs ⊢
      rw [xMt_ok h3 (by decide), xb_some, ← hs]
      exact ih'
theorem st_co (h : iA B fz V E P D c R n K M) (hE : E < 9) (hup : ∃ i k, i < 3 ∧ k < 3 ∧ i ≠ k ∧ ¬ M 1 i = 0 ∧ ¬ M 1 k = 0) : iA B fz V (E + 1) P D c R n (coK K M B (nI (E + 1)) 3) (coM M (nI (E + 1)) 3) := by
  obtain ⟨x0, o0, c0, l0, t0, u0, b0, L0, T0, U0, m0, q0, y0, dq, dy, s0, g0, ⟨p1, p2, p3, p4, p5, p6, p7, p8⟩, n0⟩ := id h
  have hx := co_iAx (x := nI (E + 1)) (show iAx B fz V E P D c R n K M from ⟨x0, o0, c0, l0, t0, u0, b0, L0, T0, U0, m0, q0, y0, dq, dy, s0, g0, n0⟩) 3
  have gg := coM_get M (nI (E + 1)) 3
  generalize coM M (nI (E + 1)) 3 = M' at hx gg
  generalize coK K M B (nI (E + 1)) 3 = K' at hx
  have g0' : ∀ f, f ≠ 0 → ∀ j, M' f j = M f j := fun f hf j => by rw [gg, if_neg (fun z => hf z.1)]
  obtain ⟨x0', o0', c0', l0', t0', u0', b0', L0', T0', U0', m0', q0', y0', dq', dy', s0', g0'', n0'⟩ := hx
  refine ⟨x0', o0', c0', l0', t0', u0', b0', L0', T0', U0', m0', q0', y0', dq', dy', s0', ⟨g0''.1, fun k hk => mv_E (by omega) (g0''.2 k hk)⟩, ⟨by omega, by omega, fun i hi => ?_, ?_, fun e e1 e9 => ?_, fun i hi => ?_, fun i hi => ?_, fun i hi => ?_⟩, n0'⟩
  · rw [gg]
    by_cases z : 0 = 0 ∧ i < 3 ∧ ¬ M 1 i = 0
    · rw [if_pos z]; exact ⟨E + 1, by omega, by omega, rfl⟩
    · rw [if_neg z]
      obtain ⟨e, e1, e2, e3⟩ := p3 i hi
      exact ⟨e, e1, by omega, e3⟩
  · obtain ⟨i, k, hi, hk, ik, ui, uk⟩ := hup
    exact ⟨i, k, hi, hk, ik, by rw [gg, if_pos ⟨rfl, hi, ui⟩], by rw [gg, if_pos ⟨rfl, hk, uk⟩]⟩
  · rw [g0' 17 (by decide), g0' 24 (by decide), g0' 25 (by decide), g0' 30 (by decide)]
    exact p5 e (by omega) e9
  · obtain ⟨e, r1, r2, r3, r4⟩ := p6 i hi
    exact ⟨e, r1, by omega, by rw [g0' 2 (by decide)]; exact r3, by rw [g0' 18 (by decide)]; exact r4⟩
  · rw [g0' 10 (by decide)]; exact p7 i hi
  · rw [g0' 38 (by decide)]; exact p8 i hi
end
section
variable {B : Nat} {fz : Nat → Prop} {V : List Int32} {E P : Nat} {D : Nat → Nat} {c : Nat} {R : Nat → Nat} {n : Nat} {K : xk} {M : xm}
theorem mb_or : ∀ k, k < 3 → ∀ mm, mm < 2 ^ k → (nI mm ||| ((1 : Int32) <<< (nI k &&& 31))) = nI (mm + 2 ^ k) ∧ nI mm + ((1 : Int32) <<< (nI k &&& 31)) = nI (mm + 2 ^ k) := by decide +kernel
/-- what is made of the class's store behind the last log -/
def tlK (K : xk) (B nn mm : Nat) (ed : Int32) : Option xk := (xR K 0 4 B).bind fun v1 => xp (xNw K 9 0) fun q2 K3 => (kf_Master_init_0 K3 q2 (nI nn) (nI mm) ed).bind fun K4 => (v1).bind fun a6 => (xRt K4 6 8 a6 (nI nn) (some q2)).bind fun K5 => some K5
def tlM (M : xm) (nn : Nat) (old : Int32) : Option (Int32 × xm) := (xMt M 19 (nI nn) (old + (10 : Int32))).bind fun M1 => (xMt M1 20 (nI nn) (old + (10 : Int32))).bind fun M2 => (xMt M2 21 (nI nn) (old + (10 : Int32))).bind fun M3 => (xMt M3 22 (nI nn) (old + (10 : Int32))).bind fun M4 => kf_EM_recover_247 M4 (nI nn) old
theorem clM_17 (M : xm) (l k cnt nn : Nat) (v : Int32) : cl_M (xm_s M 17 nn v) l k cnt = xm_s (cl_M M l k cnt) 17 nn v := by
  funext f j
  by_cases h : f < 5 ∨ 9 < f
  · rw [clM_ne _ _ _ _ h, ms_get, ms_get, clM_ne _ _ _ _ h]
  · rw [ms_get, if_neg (fun z => by omega)]
    rcases (show f = 5 ∨ f = 6 ∨ f = 7 ∨ f = 8 ∨ f = 9 by omega) with rfl | rfl | rfl | rfl | rfl
    · rw [clM_5, clM_5]; rfl
    · rw [clM_67 _ _ _ _ _ (Or.inl rfl), clM_67 _ _ _ _ _ (Or.inl rfl)]; rfl
    · rw [clM_67 _ _ _ _ _ (Or.inr rfl), clM_67 _ _ _ _ _ (Or.inr rfl)]; rfl
    · rw [clM_8, clM_8]; rfl
    · rw [clM_9, clM_9]; rfl
theorem lp_lg {l cnt nn : Nat} {old ed : Int32} (hl : l < 3) (h100 : cnt ≤ 100) (hn1 : 1 ≤ nn) (hn9 : nn ≤ 9) (hed : ed = old + 10) : ∀ (d k m : Nat) (K : xk) (M : xm) (mm : Nat), k + d = 3 → d < m → iA B fz V nn P D c R n K M → M 5 l = nI cnt → xk_ar K (5 + B) nn = none → M 18 nn = nI mm → mm < 2 ^ k →
    ∃ K' M' mm', kf_ES_beginEpoch_17 m K B (nI nn) (37 + 3 * l + B) old ed (nI mm) (nI k) = tlK K' B nn mm' ed ∧ kf_EM_recover_121 m (xm_s M 17 nn 1) (nI l) (nI nn) old (nI k) = tlM (xm_s M' 17 nn 1) nn old ∧ iA B fz V nn P D c R n K' M' ∧ xk_ar K' (5 + B) nn = none ∧ M' 18 nn = nI mm' ∧ M' 24 = M 24 ∧ M' 25 = M 25 ∧ M' 30 = M 30 := by
  intro d
  induction d with
  | zero =>
    intro k m K M mm hk hm h hc ha h18 hmm
    obtain ⟨m, rfl⟩ : ∃ m', m = m' + 1 := ⟨m - 1, by omega⟩
    have : k = 3 := by omega
    subst this
    refine ⟨K, M, mm, ?_, ?_, h, ha, h18, rfl, rfl, rfl⟩
    · show kb_ES_beginEpoch_17 (kf_ES_beginEpoch_17 m) K B (nI nn) (37 + 3 * l + B) old ed (nI mm) (nI 3) = _
      unfold kb_ES_beginEpoch_17
      rw [if_pos (show (3 : Int32) ≤ nI 3 from nI_le (a := 3) (b := 3) (Nat.le_refl _) (by decide))]
      rfl
    · show kb_EM_recover_121 (kf_EM_recover_121 m) _ (nI l) (nI nn) old (nI 3) = _
      unfold kb_EM_recover_121
      rw [if_pos (show (3 : Int32) ≤ nI 3 from nI_le (a := 3) (b := 3) (Nat.le_refl _) (by decide))]
      rfl
  | succ d ih =>
    intro k m K M mm hk hm h hc ha h18 hmm
    obtain ⟨m, rfl⟩ : ∃ m', m = m' + 1 := ⟨m - 1, by omega⟩
    have k3 : k < 3 := by omega
    obtain ⟨x0, o0, c0, l0, t0, u0, b0, L0, T0, U0, m0, q0, y0, dq, dy, s0, g0, e0, n0⟩ := id h
    obtain ⟨f1, f2, f3, f4, f5, f6, f7⟩ := l0.2.2 k k3
    obtain ⟨h1, h2, h3, h4, h5, h6, h7⟩ := l0.2.2 l hl
    obtain ⟨z1, z2, z3, z4, z5, z6, z7, n1, z8, z9, z10⟩ := L0 k k3
    obtain ⟨y1, y2, y3, y4, y5, y6, y7, n2, y8, y9, y10⟩ := L0 l hl
    have en2 : n2 = cnt := (nI_eq (by omega) (by omega)).mp (y9.symm.trans hc)
    subst en2
    have ra : xRa K 3 (2 + B) (nI k) = some (some (37 + 3 * k + B)) := by rw [xRa_ok l0.1 l0.2.1 k3 (by decide), f1]
    have c3 : ¬ (3 : Int32) ≤ nI k := nI_ge (a := k) (b := 3) (by omega) (by decide)
    show ∃ K' M' mm', kb_ES_beginEpoch_17 (kf_ES_beginEpoch_17 m) K B (nI nn) (37 + 3 * l + B) old ed (nI mm) (nI k) = _ ∧ kb_EM_recover_121 (kf_EM_recover_121 m) (xm_s M 17 nn 1) (nI l) (nI nn) old (nI k) = _ ∧ _
    unfold kb_ES_beginEpoch_17 kb_EM_recover_121 kf_ES_beginEpoch_70 kf_EM_recover_197
    have m3 : xMi (xm_s M 17 nn 1) 3 (nI k) = some (M 3 k) := xMi_ok k3 (by decide)
    rw [if_neg c3, if_neg c3, xR_ok o0.1, o0.2.2.1, m3]
    simp only [xb_some, ra]
    rw [xI_at f2 f4, xb_some, nI_1]
    by_cases hu : M 3 k = 0
    · rw [if_pos hu, if_pos hu]
      exact ih (k + 1) m K M mm (by omega) (by omega) h hc ha h18 (Nat.lt_of_lt_of_le hmm (Nat.pow_le_pow_right (by decide) (by omega)))
    · obtain ⟨or1, or2⟩ := mb_or k k3 mm hmm
      have bitk : bt (nI (mm + 2 ^ k)) k = true := by
        rw [← or1, bi_or _ (by omega) (by omega)]
        simp
      have bits : ∀ b, b < 32 → bt (M 18 nn) b = true → bt (nI (mm + 2 ^ k)) b = true := fun b hb hz => by
        rw [← or1, bi_or _ (by omega) hb, ← h18, hz]
        rfl
      have hB := st_lg (k := k) (base := old) (ed := ed) (m18 := nI (mm + 2 ^ k)) h k3 hl hc h100 hn1 hn9 ha bits bitk
      -- the class
      have cf := cf_loop (K := K) (k := k) (l := l) (cnt := n2) f2 h2 z2 y2 z6 z7 y6 y7 (h7.trans hc) h100 (fun j hj => by
        obtain ⟨a, b, r1, r2⟩ := y10 j hj
        rw [r1]
        exact r2.1) n2 0 1000 (by omega) (by omega)
      rw [cpr_0, row_self] at cf
      have cf' : kf_Log_copyFrom_2 1000 K (37 + 3 * k + B) (37 + 3 * l + B) 0 = _ := cf
      have ci := ci_loop (K := xk_sI (xk_row K (39 + 3 * k + B) (cpr (xk_ar K (39 + 3 * l + B)) (xk_ar K (39 + 3 * k + B)) n2)) 9 6 (37 + 3 * k + B) (nI n2)) (k := k) (l := l) (by exact f2) (by exact h2) (by exact z1) (by exact y1) (by exact z3) (by exact z4) (by exact y3) (by exact y4) 10 0 1000 (by omega) (by omega)
      rw [cpr_0, irow_self] at ci
      have ci' : kf_Log_copyFrom_38 1000 (xk_sI (xk_row K (39 + 3 * k + B) (cpr (xk_ar K (39 + 3 * l + B)) (xk_ar K (39 + 3 * k + B)) n2)) 9 6 (37 + 3 * k + B) (nI n2)) (37 + 3 * k + B) (37 + 3 * l + B) 0 = some (xk_irow (xk_sI (xk_row K (39 + 3 * k + B) (cpr (xk_ar K (39 + 3 * l + B)) (xk_ar K (39 + 3 * k + B)) n2)) 9 6 (37 + 3 * k + B) (nI n2)) (38 + 3 * k + B) (cpr (xk_ai K (38 + 3 * l + B)) (xk_ai K (38 + 3 * k + B)) 10)) := ci
      have ar2 : ∀ K', xk_ar K' = xk_ar (xk_row K (39 + 3 * k + B) (cpr (xk_ar K (39 + 3 * l + B)) (xk_ar K (39 + 3 * k + B)) n2)) → xk_ar K' (2 + B) k = some (37 + 3 * k + B) := fun K' hK' => by
        rw [hK', row_ne _ _ _ (by omega)]
        exact f1
      rw [if_neg hu, if_neg hu, xO_ok f2, xb_some]
      unfold kf_Log_copyFrom_0 kf_Log_enter_0
      rw [cf', ci', xb_some]
      have o16 : xR (xk_irow (xk_sI (xk_row K (39 + 3 * k + B) (cpr (xk_ar K (39 + 3 * l + B)) (xk_ar K (39 + 3 * k + B)) n2)) 9 6 (37 + 3 * k + B) (nI n2)) (38 + 3 * k + B) (cpr (xk_ai K (38 + 3 * l + B)) (xk_ai K (38 + 3 * k + B)) 10)) 0 1 B = some (some (2 + B)) := xR_at o0.1 o0.2.2.1
      have ra16 : xRa (xk_irow (xk_sI (xk_row K (39 + 3 * k + B) (cpr (xk_ar K (39 + 3 * l + B)) (xk_ar K (39 + 3 * k + B)) n2)) 9 6 (37 + 3 * k + B) (nI n2)) (38 + 3 * k + B) (cpr (xk_ai K (38 + 3 * l + B)) (xk_ai K (38 + 3 * k + B)) 10)) 3 (2 + B) (nI k) = some (some (37 + 3 * k + B)) := by rw [xRa_ok (n := 3) (by exact l0.1) (by exact l0.2.1) k3 (by decide)]; exact congrArg some (ar2 _ rfl)
      rw [o16, xb_some, xb_some, ra16, xb_some, xb_some, xO_ok (by exact f2), xb_some, xIs_ok (by exact f2), xb_some, xR_at (v := some (38 + 3 * k + B)) (by exact f2) (by exact z1), xb_some, xb_some, xIt_ok (n := 10) (by exact z3) (by exact z4) (show nn < 10 by omega) (by decide), xb_some, xIs_ok (by exact f2), xb_some, xb_some, or1]
      -- the reference
      have b30 : 10 * k + nn < 30 := by omega
      have b10 : nn < 10 := by omega
      have ix : (10 : Int32) * nI k + nI nn = nI (10 * k + nn) := by
        show nI 10 * nI k + nI nn = _
        rw [pk_mul, nI_add]
      have hbr : (if nI k = nI l then kf_EM_recover_150 (kf_EM_recover_121 m) (xm_s M 17 nn 1) (nI l) (nI nn) old (nI k) else (kf_EM_copyLog_0 (xm_s M 17 nn 1) (nI l) (nI k)).bind fun M6 => kf_EM_recover_150 (kf_EM_recover_121 m) M6 (nI l) (nI nn) old (nI k)) = kf_EM_recover_150 (kf_EM_recover_121 m) (xm_s (cl_M M l k n2) 17 nn 1) (nI l) (nI nn) old (nI k) := by
        by_cases q : k = l
        · subst q
          rw [if_pos rfl, clM_self hc]
        · rw [if_neg (fun z => q ((nI_eq (by omega) (by omega)).mp z)), cl_all hl k3 (fun z => q z.symm) (by exact hc) h100, xb_some, clM_17]
      rw [hbr]
      unfold kf_EM_recover_150 kf_EM_recover_197
      have e18 : xMi (xm_s (xm_s (xm_s (xm_s (cl_M M l k n2) 17 nn 1) 2 k (nI nn)) 9 (10 * k + nn) old) 4 k (old + 10)) 18 (nI nn) = some (nI mm) := xMi_at b10 (by decide) (by
        show cl_M M l k n2 18 nn = nI mm
        rw [clM_ne _ _ _ _ (by omega)]
        exact h18)
      have hmc : xm_s (xm_s (xm_s (xm_s (xm_s (cl_M M l k n2) 17 nn 1) 2 k (nI nn)) 9 (10 * k + nn) old) 4 k (old + 10)) 18 nn (nI (mm + 2 ^ k)) = xm_s (eM M k l n2 nn old ed (nI (mm + 2 ^ k))) 17 nn 1 := by
        unfold eM
        rw [hed, ms_comm (k := 17) (k' := 2) _ _ _ _ _ (by decide), ms_comm (k := 17) (k' := 9) _ _ _ _ _ (by decide), ms_comm (k := 17) (k' := 4) _ _ _ _ _ (by decide), ms_comm (k := 17) (k' := 18) _ _ _ _ _ (by decide)]
      rw [xMt_ok k3 (by decide), xb_some, ix, xMt_ok b30 (by decide), xb_some, xMt_ok k3 (by decide), xb_some, e18, xb_some, or2, xMt_ok b10 (by decide), xb_some, hmc, nI_1]
      have hc' : eM M k l n2 nn old ed (nI (mm + 2 ^ k)) 5 l = nI n2 := (clM_5 M l k n2 l).trans (by
        by_cases q : l = k
        · rw [if_pos q]
        · rw [if_neg q]; exact hc)
      have ha' : xk_ar (eK K B k l n2 nn old ed) (5 + B) nn = none := (row_ne K _ _ (fun z => by
        have : xk_kd K (5 + B) = xk_kd K (39 + 3 * k + B) := by rw [z]
        rw [m0.1, z6] at this
        omega)).trans ha
      have f24 : ∀ f, 9 < f → f ≠ 18 → eM M k l n2 nn old ed (nI (mm + 2 ^ k)) f = M f := fun f hf1 hf2 => by
        funext j
        unfold eM
        rw [ms_get, if_neg (fun z => hf2 z.1), ms_get, if_neg (fun z => by omega), ms_get, if_neg (fun z => by omega), ms_get, if_neg (fun z => by omega), clM_ne _ _ _ _ (by omega)]
      obtain ⟨K', M', mm', r1, r2, r3, r4, r5, r6, r7, r8⟩ := ih (k + 1) m (eK K B k l n2 nn old ed) (eM M k l n2 nn old ed (nI (mm + 2 ^ k))) (mm + 2 ^ k) (by omega) (by omega) hB hc' ha' (ms_at _ _ _ _) (by rw [Nat.pow_succ]; omega)
      exact ⟨K', M', mm', r1, r2, r3, r4, r5, r6.trans (f24 24 (by decide) (by decide)), r7.trans (f24 25 (by decide) (by decide)), r8.trans (f24 30 (by decide) (by decide))⟩
-- the new master
def lw8 (N : xm) (nn : Nat) (v : Int32) (i : Nat) : xm := fun f j => if f = 23 ∧ 8 * nn ≤ j ∧ j < 8 * nn + i then v else N f j
theorem lw8_get (N : xm) (nn : Nat) (v : Int32) (i f j : Nat) : lw8 N nn v i f j = if f = 23 ∧ 8 * nn ≤ j ∧ j < 8 * nn + i then v else N f j := rfl
theorem lw8_loop {N : xm} {nn : Nat} {old : Int32} (h9 : nn ≤ 9) : ∀ (d i m : Nat), i + d = 8 → d < m → kf_EM_recover_250 m (lw8 N nn (old + 10) i) (nI nn) old (nI i) = some (nI nn, lw8 N nn (old + 10) 8) := by
  intro d
  induction d with
  | zero =>
    intro i m hi hm
    obtain ⟨m, rfl⟩ : ∃ m', m = m' + 1 := ⟨m - 1, by omega⟩
    have : i = 8 := by omega
    subst this
    show kb_EM_recover_250 (kf_EM_recover_250 m) _ _ _ (nI 8) = _
    unfold kb_EM_recover_250
    rw [if_pos (show (8 : Int32) ≤ nI 8 from nI_le (a := 8) (b := 8) (Nat.le_refl _) (by decide))]
  | succ d ih =>
    intro i m hi hm
    obtain ⟨m, rfl⟩ : ∃ m', m = m' + 1 := ⟨m - 1, by omega⟩
    show kb_EM_recover_250 (kf_EM_recover_250 m) _ _ _ (nI i) = _
    unfold kb_EM_recover_250
    have st : xm_s (lw8 N nn (old + 10) i) 23 (8 * nn + i) (old + 10) = lw8 N nn (old + 10) (i + 1) := by
      funext f j
      rw [ms_get, lw8_get, lw8_get]
      by_cases h1 : f = 23
      · subst h1
        by_cases h2 : j = 8 * nn + i
        · rw [if_pos ⟨rfl, h2⟩, if_pos ⟨rfl, by omega, by omega⟩]
        · rw [if_neg (fun z => h2 z.2)]
          by_cases h3 : 8 * nn ≤ j ∧ j < 8 * nn + i
          · rw [if_pos ⟨rfl, h3⟩, if_pos ⟨rfl, h3.1, by omega⟩]
          · rw [if_neg (fun z => h3 z.2), if_neg (fun z => h3 ⟨z.2.1, by omega⟩)]
      · rw [if_neg (fun z => h1 z.1), if_neg (fun z => h1 z.1), if_neg (fun z => h1 z.1)]
    rw [if_neg (show ¬ (8 : Int32) ≤ nI i from nI_ge (a := i) (b := 8) (by omega) (by decide)), ix_8, xMt_ok (by show 8 * nn + i < 80; omega) (by decide), xb_some, nI_1, st]
    exact ih (i + 1) m (by omega) (by omega)
def ml_M (M : xm) (nn : Nat) (v : Int32) : xm := lw8 (xm_s (xm_s (xm_s (xm_s (xm_s M 17 nn 1) 19 nn v) 20 nn v) 21 nn v) 22 nn v) nn v 8
/-- the new master takes its place -/
theorem st_ml {nn q : Nat} {v : Int32} (h : iA B fz V nn P (fun _ => 0) c R n K M) (hn1 : 1 ≤ nn) (hn9 : nn ≤ 9) (ha : xk_ar K (5 + B) nn = none) (h25 : M 25 nn = 0) (h30 : M 30 nn = 0) (hq : jMa K (ml_M M nn v) nn q) (q8 : xk_iv K 8 8 q = 0) (q11 : xk_iv K 8 11 q = 0) :
    iA B fz V nn P (fun _ => 0) c R n (xk_tR K (5 + B) nn (some q)) (ml_M M nn v) := by
  obtain ⟨x0, o0, c0, l0, t0, u0, b0, L0, T0, U0, m0, q0, y0, dq, dy, s0, g0, ⟨p1, p2, p3, p4, p5, p6⟩, n0⟩ := id h
  have kn : ∀ z, z ≠ 106 → xk_kd K (5 + B) ≠ z := fun z hz => by rw [m0.1]; exact fun q => hz q.symm
  obtain ⟨w1, w2, w3, w4, w5, w6, w7, w8, w9, w10, w11, w12, w13, w14⟩ := wa_all (b0 := 5 + B) (α := xk_ar (xk_tR K (5 + B) nn (some q))) h (fun b j hb => by rw [tR_get, if_neg (fun z => hb z.1)])
  have ar5 : ∀ d, xk_ar (xk_tR K (5 + B) nn (some q)) (5 + B) d = if d = nn then some q else xk_ar K (5 + B) d := fun d => by
    rw [tR_get]
    by_cases z : d = nn
    · rw [if_pos ⟨rfl, z⟩, if_pos z]
    · rw [if_neg (fun y => z y.2), if_neg z]
  have arn : ∀ b j, b ≠ 5 + B → xk_ar (xk_tR K (5 + B) nn (some q)) b j = xk_ar K b j := fun b j hb => by rw [tR_get, if_neg (fun z => hb z.1)]
  have mm : ∀ f d, d ≠ nn → f ≠ 23 → ml_M M nn v f d = M f d := fun f d hd hf => by
    unfold ml_M
    rw [lw8_get, if_neg (fun z => hf z.1), ms_get, if_neg (fun z => hd z.2), ms_get, if_neg (fun z => hd z.2), ms_get, if_neg (fun z => hd z.2), ms_get, if_neg (fun z => hd z.2), ms_get, if_neg (fun z => hd z.2)]
  have m23 : ∀ d k, d ≠ nn → k < 8 → ml_M M nn v 23 (8 * d + k) = M 23 (8 * d + k) := fun d k hd hk => by
    unfold ml_M
    rw [lw8_get, if_neg (fun z => by omega)]
    rfl
  have m17 : ml_M M nn v 17 nn = 1 := ms_at M 17 nn 1
  have nb : ∀ {d md : Nat}, 1 ≤ d → d ≤ 9 → xk_ar K (5 + B) d = some md → md + 2 ≠ 5 + B ∧ md + 3 ≠ 5 + B := fun {d md} d1 d9 hd => by
    have km := (jM_at m0 d1 d9 hd).2
    exact ⟨fun z => kn 109 (by decide) (by rw [← z]; exact km.2.2.2.2.2.2.2.2.2.2.2.2.2.1), fun z => kn 110 (by decide) (by rw [← z]; exact km.2.2.2.2.2.2.2.2.2.2.2.2.2.2.2.2.1)⟩
  refine ⟨w11, w12, w1 (kn _ (by decide)), w2 (kn _ (by decide)), w3 (kn _ (by decide)), w4 (kn _ (by decide)), b0, w5 (kn _ (by decide)), w6 (kn _ (by decide)), w13, ⟨m0.1, m0.2.1, fun d d1 d9 => ?_⟩, fun d md d1 d9 hd => ?_, fun d md d1 d9 hd => ?_, ?_, ?_, w10 (kn _ (by decide)), w14, ⟨p1, p2, p3, p4, fun d d1 d9 => ?_, p6⟩, n0⟩
  · rw [ar5]
    by_cases z : d = nn
    · rw [if_pos z]
      subst z
      exact Or.inr ⟨m17, q, rfl, hq⟩
    · rw [if_neg z, mm 17 d z (by decide)]
      refine (m0.2.2 d d1 d9).imp id (fun ⟨z', md, a1, a2⟩ => ⟨z', md, a1, ?_⟩)
      obtain ⟨k1, k2, k3, k4, k5, k6, k7, k8, k9, k10, k11, k12, k13⟩ := a2
      refine ⟨k1, k2, ?_, ?_, ?_, ?_, ?_, ?_, k9, k10, k11, fun x hx => ?_, k13⟩
      · rw [mm 18 d z (by decide)]; exact k3
      · rw [mm 19 d z (by decide)]; exact k4
      · rw [mm 20 d z (by decide)]; exact k5
      · rw [mm 21 d z (by decide)]; exact k6
      · rw [mm 22 d z (by decide)]; exact k7
      · rw [mm 24 d z (by decide)]; exact k8
      · rw [m23 d x z hx]; exact k12 x hx
  · rw [ar5] at hd
    by_cases z : d = nn
    · rw [if_pos z] at hd
      cases hd
      subst z
      exact ⟨0, by omega, h25, q8, fun i hi => by omega⟩
    · rw [if_neg z] at hd
      obtain ⟨n1, z1, z2, z3, z4⟩ := q0 d md d1 d9 hd
      refine ⟨n1, z1, z2, z3, fun i hi => ?_⟩
      rw [arn _ _ (nb d1 d9 hd).1]
      exact z4 i hi
  · rw [ar5] at hd
    by_cases z : d = nn
    · rw [if_pos z] at hd
      cases hd
      subst z
      exact ⟨0, by show 0 + 0 ≤ 8; omega, h30, q11, fun i hi => by omega⟩
    · rw [if_neg z] at hd
      obtain ⟨n1, z1, z2, z3, z4⟩ := y0 d md d1 d9 hd
      refine ⟨n1, z1, z2, z3, fun i hi => ?_⟩
      rw [arn _ _ (nb d1 d9 hd).2]
      exact z4 i hi
  · intro d1 d2 md me n1 n2 i j a x1 x2 x3 x4 x5 x6 x7 x8 x9 x10 x11 x12
    rw [ar5] at x5 x6
    have no : ∀ {d k x : Nat}, d = nn → ml_M M nn v 25 d = nI k → k ≤ 8 → x < k → False := fun {d k x} hd hk hk8 hx => by
      rw [hd] at hk
      have : k = 0 := (nI_eq (b := 0) (by omega) (by decide)).mp (hk.symm.trans h25)
      omega
    by_cases z1 : d1 = nn
    · exact (no z1 x7 x8 x11).elim
    · by_cases z2 : d2 = nn
      · exact (no z2 x9 x10 x12).elim
      · rw [if_neg z1] at x5
        rw [if_neg z2] at x6
        rw [arn _ _ (nb x1 x2 x5).1, arn _ _ (nb x3 x4 x6).1]
        exact dq d1 d2 md me n1 n2 i j a x1 x2 x3 x4 x5 x6 x7 x8 x9 x10 x11 x12
  · intro d1 d2 md me n1 n2 i j a x1 x2 x3 x4 x5 x6 x7 x8 x9 x10 x11 x12
    rw [ar5] at x5 x6
    have no : ∀ {d k x : Nat}, d = nn → ml_M M nn v 30 d = nI k → k ≤ 8 → x < k → False := fun {d k x} hd hk hk8 hx => by
      rw [hd] at hk
      have : k = 0 := (nI_eq (b := 0) (by omega) (by decide)).mp (hk.symm.trans h30)
      omega
    by_cases z1 : d1 = nn
    · exact (no z1 x7 x8 x11).elim
    · by_cases z2 : d2 = nn
      · exact (no z2 x9 x10 x12).elim
      · rw [if_neg z1] at x5
        rw [if_neg z2] at x6
        rw [arn _ _ (nb x1 x2 x5).2, arn _ _ (nb x3 x4 x6).2]
        exact dy d1 d2 md me n1 n2 i j a x1 x2 x3 x4 x5 x6 x7 x8 x9 x10 x11 x12
  · rw [mm 17 d (by omega) (by decide), mm 24 d (by omega) (by decide), mm 25 d (by omega) (by decide), mm 30 d (by omega) (by decide)]
    exact p5 d d1 d9
end
section
variable {B : Nat} {fz : Nat → Prop} {V : List Int32} {E P : Nat} {c : Nat} {R : Nat → Nat} {n : Nat} {K : xk} {M : xm}
def mi1 (K : xk) : xk := xk_sR (xk_new (xk_new K 9 0) 100 8) 8 6 (xk_nx K) (some (xk_nx K + 1))
def mi2 (K : xk) : xk := xk_sR (xk_new (mi1 K) 109 8) 8 7 (xk_nx K) (some (xk_nx K + 2))
def mi3 (K : xk) : xk := xk_sR (xk_new (mi2 K) 110 8) 8 10 (xk_nx K) (some (xk_nx K + 3))
def mi4 (K : xk) (x1 x2 x3 : Int32) : xk := xk_sI (xk_sI (xk_sI (xk_sI (xk_sI (xk_sI (mi3 K) 8 0 (xk_nx K) x1) 8 1 (xk_nx K) x2) 8 2 (xk_nx K) x3) 8 3 (xk_nx K) x3) 8 4 (xk_nx K) x3) 8 5 (xk_nx K) x3
theorem mi_ag (h : iX K B) (x1 x2 x3 : Int32) : ag K (mi4 K x1 x2 x3) ∧ iX (mi4 K x1 x2 x3) B := by
  have q0 : xk_kd K (xk_nx K) = 0 := h.2 _ (Nat.le_refl _)
  have X1 : iX (mi1 K) B := iX_new (iX_new h 9 0) 100 8
  have X2 : iX (mi2 K) B := iX_new X1 109 8
  have X3 : iX (mi3 K) B := iX_new X2 110 8
  have a1 : ag K (mi1 K) := ag_sR (ag_tr (ag_new h 9 0) (ag_new (iX_new h 9 0) 100 8)) q0 _ _ _
  have a2 : ag K (mi2 K) := ag_sR (ag_tr a1 (ag_new X1 109 8)) q0 _ _ _
  have a3 : ag K (mi3 K) := ag_sR (ag_tr a2 (ag_new X2 110 8)) q0 _ _ _
  exact ⟨ag_sI (ag_sI (ag_sI (ag_sI (ag_sI (ag_sI a3 q0 _ _ _) q0 _ _ _) q0 _ _ _) q0 _ _ _) q0 _ _ _) q0 _ _ _, X3⟩
theorem mi_q (K : xk) : xk_kd (mi3 K) (xk_nx K) = 8 + 1 ∧ (∀ j, xk_iv (mi3 K) 8 j (xk_nx K) = 0) ∧ xk_rv (mi3 K) 8 6 (xk_nx K) = some (xk_nx K + 1) ∧ xk_rv (mi3 K) 8 7 (xk_nx K) = some (xk_nx K + 2) ∧ xk_rv (mi3 K) 8 10 (xk_nx K) = some (xk_nx K + 3) := by
  have n1 := nw_at (xk_new K 9 0) 100 8 (a := xk_nx K) (by show xk_nx K ≠ xk_nx K + 1; omega)
  have n2 := nw_at (mi1 K) 109 8 (a := xk_nx K) (by show xk_nx K ≠ xk_nx K + 1 + 1; omega)
  have n3 := nw_at (mi2 K) 110 8 (a := xk_nx K) (by show xk_nx K ≠ xk_nx K + 1 + 1 + 1; omega)
  refine ⟨n3.1.trans (n2.1.trans (n1.1.trans (nw_kd K 9 0))), fun j => (n3.2.2.1 8 j).trans ((n2.2.2.1 8 j).trans ((n1.2.2.1 8 j).trans (nw_iv K 9 0 8 j))), ?_, ?_, sR_at _ _ _ _ _⟩
  · exact (n3.2.2.2.1 8 6).trans ((n2.2.2.2.1 8 6).trans (sR_at _ _ _ _ _))
  · exact (n3.2.2.2.1 8 7).trans (sR_at _ _ _ _ _)
theorem mi_a (K : xk) : xk_kd (mi3 K) (xk_nx K + 1) = 100 + 0 ∧ xk_ln (mi3 K) (xk_nx K + 1) = 8 ∧ xk_kd (mi3 K) (xk_nx K + 2) = 100 + 9 ∧ xk_ln (mi3 K) (xk_nx K + 2) = 8 ∧ xk_kd (mi3 K) (xk_nx K + 3) = 100 + 10 ∧ xk_ln (mi3 K) (xk_nx K + 3) = 8 := by
  have n2 := nw_at (mi1 K) 109 8 (a := xk_nx K + 1) (by show xk_nx K + 1 ≠ xk_nx K + 1 + 1; omega)
  have n3 := nw_at (mi2 K) 110 8 (a := xk_nx K + 1) (by show xk_nx K + 1 ≠ xk_nx K + 1 + 1 + 1; omega)
  have m3 := nw_at (mi2 K) 110 8 (a := xk_nx K + 2) (by show xk_nx K + 2 ≠ xk_nx K + 1 + 1 + 1; omega)
  exact ⟨n3.1.trans (n2.1.trans (nw_kd (xk_new K 9 0) 100 8)), n3.2.1.trans (n2.2.1.trans (nw_ln (xk_new K 9 0) 100 8)), m3.1.trans (nw_kd (mi1 K) 109 8), m3.2.1.trans (nw_ln (mi1 K) 109 8), nw_kd (mi2 K) 110 8, nw_ln (mi2 K) 110 8⟩
theorem mi_loop {x1 x2 x3 : Int32} : ∀ (d i m : Nat), i + d = 8 → d < m → kf_Master_init_63 m (xk_irow (mi4 K x1 x2 x3) (xk_nx K + 1) (cpr (fun _ => x3) (xk_ai (mi4 K x1 x2 x3) (xk_nx K + 1)) i)) (xk_nx K) x3 (nI i) = some (xk_irow (mi4 K x1 x2 x3) (xk_nx K + 1) (cpr (fun _ => x3) (xk_ai (mi4 K x1 x2 x3) (xk_nx K + 1)) 8)) := by
  obtain ⟨k1, k2, k3, k4, k5⟩ := mi_q K
  obtain ⟨a1, a2, -⟩ := mi_a K
  intro d
  induction d with
  | zero =>
    intro i m hi hm
    obtain ⟨m, rfl⟩ : ∃ m', m = m' + 1 := ⟨m - 1, by omega⟩
    have : i = 8 := by omega
    subst this
    show kb_Master_init_63 (kf_Master_init_63 m) _ _ _ (nI 8) = _
    unfold kb_Master_init_63
    rw [if_pos (show (8 : Int32) ≤ nI 8 from nI_le (a := 8) (b := 8) (Nat.le_refl _) (by decide))]
  | succ d ih =>
    intro i m hi hm
    obtain ⟨m, rfl⟩ : ∃ m', m = m' + 1 := ⟨m - 1, by omega⟩
    show kb_Master_init_63 (kf_Master_init_63 m) _ _ _ (nI i) = _
    unfold kb_Master_init_63
    have e2 : xIt (xk_irow (mi4 K x1 x2 x3) (xk_nx K + 1) (cpr (fun _ => x3) (xk_ai (mi4 K x1 x2 x3) (xk_nx K + 1)) i)) 0 (xk_nx K + 1) (nI i) x3 = some (xk_irow (mi4 K x1 x2 x3) (xk_nx K + 1) (cpr (fun _ => x3) (xk_ai (mi4 K x1 x2 x3) (xk_nx K + 1)) (i + 1))) := by
      rw [xIt_ok (n := 8) (by exact a1) (by exact a2) (by omega) (by decide), irow_tI]
      exact congrArg (fun z => some (xk_irow (mi4 K x1 x2 x3) (xk_nx K + 1) z)) (cpr_step (fun _ => x3) _ i)
    rw [if_neg (show ¬ (8 : Int32) ≤ nI i from nI_ge (a := i) (b := 8) (by omega) (by decide)), xR_at (v := some (xk_nx K + 1)) (by exact k1) (by exact k3), xb_some, xb_some, e2, xb_some, nI_1]
    exact ih (i + 1) m (by omega) (by omega)
def miK (K : xk) (x1 x2 x3 : Int32) : xk := xk_irow (mi4 K x1 x2 x3) (xk_nx K + 1) (cpr (fun _ => x3) (xk_ai (mi4 K x1 x2 x3) (xk_nx K + 1)) 8)
theorem mi_all (x1 x2 x3 : Int32) : kf_Master_init_0 (xk_new K 9 0) (xk_nx K) x1 x2 x3 = some (miK K x1 x2 x3) := by
  obtain ⟨k1, k2, k3, k4, k5⟩ := mi_q K
  have kq1 : xk_kd (xk_new (xk_new K 9 0) 100 8) (xk_nx K) = 8 + 1 := (nw_at (xk_new K 9 0) 100 8 (a := xk_nx K) (by show xk_nx K ≠ xk_nx K + 1; omega)).1.trans (nw_kd K 9 0)
  have kq2 : xk_kd (xk_new (mi1 K) 109 8) (xk_nx K) = 8 + 1 := (nw_at (mi1 K) 109 8 (a := xk_nx K) (by show xk_nx K ≠ xk_nx K + 1 + 1; omega)).1.trans kq1
  have kq3 : xk_kd (xk_new (mi2 K) 110 8) (xk_nx K) = 8 + 1 := (nw_at (mi2 K) 110 8 (a := xk_nx K) (by show xk_nx K ≠ xk_nx K + 1 + 1 + 1; omega)).1.trans kq2
  unfold kf_Master_init_0 xNw
  rw [xp_some, xRs_ok kq1, xb_some]
  show (xp (some (xk_nx (mi1 K), xk_new (mi1 K) 109 8)) fun q4 K5 => (xRs K5 8 7 (xk_nx K) (some q4)).bind fun K6 => xp (some (xk_nx K6, xk_new K6 110 8)) fun q7 K8 => (xRs K8 8 10 (xk_nx K) (some q7)).bind fun K9 => (xIs K9 8 0 (xk_nx K) x1).bind fun K10 => (xIs K10 8 1 (xk_nx K) x2).bind fun K11 => (xIs K11 8 2 (xk_nx K) x3).bind fun K12 => (xIs K12 8 3 (xk_nx K) x3).bind fun K13 => kf_Master_init_50 K13 (xk_nx K) x3) = _
  rw [xp_some, xRs_ok kq2, xb_some]
  show (xp (some (xk_nx (mi2 K), xk_new (mi2 K) 110 8)) fun q7 K8 => (xRs K8 8 10 (xk_nx K) (some q7)).bind fun K9 => (xIs K9 8 0 (xk_nx K) x1).bind fun K10 => (xIs K10 8 1 (xk_nx K) x2).bind fun K11 => (xIs K11 8 2 (xk_nx K) x3).bind fun K12 => (xIs K12 8 3 (xk_nx K) x3).bind fun K13 => kf_Master_init_50 K13 (xk_nx K) x3) = _
  rw [xp_some, xRs_ok kq3, xb_some]
  show ((xIs (mi3 K) 8 0 (xk_nx K) x1).bind fun K10 => (xIs K10 8 1 (xk_nx K) x2).bind fun K11 => (xIs K11 8 2 (xk_nx K) x3).bind fun K12 => (xIs K12 8 3 (xk_nx K) x3).bind fun K13 => kf_Master_init_50 K13 (xk_nx K) x3) = _
  rw [xIs_ok k1, xb_some, xIs_ok (by exact k1), xb_some, xIs_ok (by exact k1), xb_some, xIs_ok (by exact k1), xb_some]
  unfold kf_Master_init_50
  rw [xIs_ok (by exact k1), xb_some, xIs_ok (by exact k1), xb_some]
  have h := mi_loop (K := K) (x1 := x1) (x2 := x2) (x3 := x3) 8 0 1000 (by omega) (by omega)
  rw [cpr_0, irow_self] at h
  have h' : kf_Master_init_63 1000 (mi4 K x1 x2 x3) (xk_nx K) x3 0 = some (miK K x1 x2 x3) := h
  exact h'
theorem miK_ag (h : iX K B) (x1 x2 x3 : Int32) : ag K (miK K x1 x2 x3) ∧ iX (miK K x1 x2 x3) B := by
  obtain ⟨a, b⟩ := mi_ag h x1 x2 x3
  refine ⟨fun z hz => ?_, b⟩
  obtain ⟨a1, a2, a3, a4, a5, a6⟩ := a z hz
  refine ⟨a1, a2, a3, a4, fun j => ?_, a6⟩
  have : z ≠ xk_nx K + 1 := fun q => hz (h.2 z (by omega))
  rw [← a5 j]
  exact irow_ne _ _ _ this
theorem rc_master {nn mm : Nat} {old ed : Int32} (hed : ed = old + 10) (h : iA B fz V nn P (fun _ => 0) c R n K M) (hn1 : 1 ≤ nn) (hn9 : nn ≤ 9) (ha : xk_ar K (5 + B) nn = none) (h18 : M 18 nn = nI mm) (h24 : M 24 nn = 0) (h25 : M 25 nn = 0) (h30 : M 30 nn = 0) :
    ∃ K' M', tlK K B nn mm ed = some K' ∧ tlM (xm_s M 17 nn 1) nn old = some (nI nn, M') ∧ iA B fz V nn P (fun _ => 0) c R n K' M' := by
  subst hed
  obtain ⟨x0, o0, c0, l0, t0, u0, b0, L0, T0, U0, m0, -⟩ := id h
  obtain ⟨ag1, X1⟩ := miK_ag x0 (nI nn) (nI mm) (old + 10)
  have hD := iA_ag h ag1 X1
  have a5 := ag1 (5 + B) (by rw [m0.1]; decide)
  have ha2 : xk_ar (miK K (nI nn) (nI mm) (old + 10)) (5 + B) nn = none := (a5.2.2.2.2.2 _).trans ha
  obtain ⟨k1, k2, k3, k4, k5⟩ := mi_q K
  obtain ⟨j1, j2, j3, j4, j5, j6⟩ := mi_a K
  have lst : ∀ x, x < 8 → xk_ai (miK K (nI nn) (nI mm) (old + 10)) (xk_nx K + 1) x = old + 10 := fun x hx => (irow_at _ _ _ _).trans (if_pos hx)
  have hF := st_ml (v := old + 10) (q := xk_nx K) hD hn1 hn9 ha2 h25 h30 ⟨k1, sI_at _ 8 0 _ _, (sI_at _ 8 1 _ _).trans h18.symm, (sI_at _ 8 2 _ _).trans (ms_at _ 19 _ _).symm, (sI_at _ 8 3 _ _).trans (ms_at _ 20 _ _).symm, (sI_at _ 8 4 _ _).trans (ms_at _ 21 _ _).symm, (sI_at _ 8 5 _ _).trans (ms_at _ 22 _ _).symm, (k2 9).trans h24.symm, k3, j1, j2, fun x hx => by
    rw [lst x hx]
    unfold ml_M
    rw [lw8_get, if_pos ⟨rfl, by omega, by omega⟩], k4, j3, j4, k5, j5, j6⟩ (k2 8) (k2 11)
  have b10 : nn < 10 := by omega
  have kdq : xk_kd (miK K (nI nn) (nI mm) (old + 10)) (xk_nx K) = 8 + 1 := k1
  have lw := lw8_loop (N := xm_s (xm_s (xm_s (xm_s (xm_s M 17 nn 1) 19 nn (old + 10)) 20 nn (old + 10)) 21 nn (old + 10)) 22 nn (old + 10)) (nn := nn) (old := old) hn9 8 0 1000 (by omega) (by omega)
  have lw0 : ∀ N : xm, lw8 N nn (old + 10) 0 = N := fun N => by
    funext f j
    rw [lw8_get, if_neg (fun z => by omega)]
  rw [lw0] at lw
  have lw' : kf_EM_recover_250 1000 (xm_s (xm_s (xm_s (xm_s (xm_s M 17 nn 1) 19 nn (old + 10)) 20 nn (old + 10)) 21 nn (old + 10)) 22 nn (old + 10)) (nI nn) old 0 = some (nI nn, ml_M M nn (old + 10)) := lw
  unfold tlK tlM xNw kf_EM_recover_247
  rw [xR_ok o0.1, o0.2.2.2.2.2.1, xb_some, xp_some, mi_all, xb_some, xb_some, xRt_ok (n := 10) (a5.1.trans m0.1) (a5.2.1.trans m0.2.1) b10 (by decide) (by exact kdq), xb_some, xMt_ok b10 (by decide), xb_some, xMt_ok b10 (by decide), xb_some, xMt_ok b10 (by decide), xb_some, xMt_ok b10 (by decide), xb_some, lw']
  exact ⟨_, _, rfl, rfl, hF⟩
theorem co_K {x : Int32} (h : iAx B fz V E P (fun _ => 0) c R n K M) : kf_ES_raiseCoordinators_0 K B x = some (coK K M B x 3) := co_lpK (x := x) h 3 0 1000 (by omega) (by omega)
theorem co_MM {x : Int32} {l : Nat} {old : Int32} : kf_EM_recover_64 1000 M (nI l) x old 0 = (xMz (coM M x 3) 17 x 1).bind fun M1 => kf_EM_recover_111 M1 (nI l) x old := co_lpM (M := M) (x := x) (l := l) (old := old) 3 0 1000 (by omega) (by omega)
theorem co_18 (M : xm) (nn : Nat) (x : Int32) : coM (xm_s M 18 nn 0) x 3 = xm_s (coM M x 3) 18 nn 0 := by
  funext f j
  have k1 := coM_get (xm_s M 18 nn 0) x 3 f j
  have k2 : xm_s (coM M x 3) 18 nn 0 f j = if f = 18 ∧ j = nn then 0 else if f = 0 ∧ j < 3 ∧ ¬ M 1 j = 0 then x else M f j := by rw [ms_get, coM_get]
  rw [k1, k2]
  show (if f = 0 ∧ j < 3 ∧ ¬ M 1 j = 0 then x else if f = 18 ∧ j = nn then 0 else M f j) = _
  by_cases w1 : f = 18 ∧ j = nn
  · rw [if_neg (fun z => by omega), if_pos w1, if_pos w1]
  · rw [if_neg w1, if_neg w1]
theorem co_18K (K : xk) (M : xm) (B nn : Nat) (x : Int32) : ∀ i, coK K (xm_s M 18 nn 0) B x i = coK K M B x i := by
  intro i
  induction i with
  | zero => rfl
  | succ i ih =>
    show (if M 1 i = 0 then coK K (xm_s M 18 nn 0) B x i else xk_sI (coK K (xm_s M 18 nn 0) B x i) 1 1 (34 + i + B) x) = (if M 1 i = 0 then coK K M B x i else xk_sI (coK K M B x i) 1 1 (34 + i + B) x)
    rw [ih]
theorem rc_go {l : Nat} (hA : iA B fz V E P (fun _ => 0) c R n K M) (hE9 : E < 9) (hup : ∃ i k, i < 3 ∧ k < 3 ∧ i ≠ k ∧ ¬ M 1 i = 0 ∧ ¬ M 1 k = 0) (hl : l < 3) :
    ∃ K' M', ((kf_ES_raiseCoordinators_0 K B (nI (E + 1))).bind fun K16 => (xR K16 0 1 B).bind fun v18 => (v18).bind fun a20 => (xRa K16 3 a20 (nI l)).bind fun v19 => (v19).bind fun a21 => (xO K16 0 B).bind fun _ => (kf_ES_beginEpoch_0 K16 B (nI (E + 1)) a21).bind fun K22 => some (nI (E + 1), K22)) = some (nI (E + 1), K') ∧ kf_EM_recover_64 1000 M (nI l) (nI (E + 1)) (M 4 l) 0 = some (nI (E + 1), M') ∧ iA B fz V (E + 1) P (fun _ => 0) c R n K' M' := by
  obtain ⟨x0, o0, c0, l0, t0, u0, b0, L0, T0, U0, m0, q0, y0, dq, dy, s0, g0, e0, n0⟩ := id hA
  obtain ⟨z1, z2, z3, z4, z5, z6, z7, cnt, z8, z9, z10⟩ := L0 l hl
  have E1 := e0.1
  have hB := st_18 (nn := E + 1) (v := 0) hA (by omega) (by omega)
  have hC := st_co hB (by omega) hup
  rw [co_18K, co_18] at hC
  have ha := (no_ma hA (e := E + 1) (by omega) (by omega))
  have car := co_ar K M B (nI (E + 1)) 3
  have gg := coM_get M (nI (E + 1)) 3
  rw [co_K (x := nI (E + 1)) (show iAx B fz V E P (fun _ => 0) c R n K M from ⟨x0, o0, c0, l0, t0, u0, b0, L0, T0, U0, m0, q0, y0, dq, dy, s0, g0, n0⟩), xb_some, co_MM]
  generalize coK K M B (nI (E + 1)) 3 = K1 at hC car
  generalize coM M (nI (E + 1)) 3 = M1 at hC gg
  obtain ⟨x0', o0', c0', l0', t0', u0', b0', L0', T0', U0', m0', q0', y0', dq', dy', s0', g0', e0', n0'⟩ := id hC
  obtain ⟨w1, w2, w3, w4, w5, w6, w7⟩ := l0'.2.2 l hl
  have g1' : ∀ f j, f ≠ 0 → M1 f j = M f j := fun f j hf => by rw [gg, if_neg (fun z => hf z.1)]
  have ra1 : xRa K1 3 (2 + B) (nI l) = some (some (37 + 3 * l + B)) := by rw [xRa_ok l0'.1 l0'.2.1 hl (by decide), w1]
  have i93 : xk_iv K1 9 3 (37 + 3 * l + B) = M 4 l := w6.trans (g1' 4 l (by decide))
  have b10 : E + 1 < 10 := by omega
  rw [xR_ok o0'.1, o0'.2.2.1, xb_some, xb_some, ra1, xb_some, xb_some, xO_ok o0'.1, xb_some, xMz_ok b10 (by decide) (Or.inr rfl), xb_some]
  unfold kf_ES_beginEpoch_0 kf_EM_recover_111
  rw [xI_at w2 i93, xb_some, xMt_ok b10 (by decide), xb_some, ms_comm (k := 17) (k' := 18) _ _ _ _ _ (by decide)]
  have hc5 : xm_s M1 18 (E + 1) 0 5 l = nI cnt := (g1' 5 l (by decide)).trans z9
  have ha1 : xk_ar K1 (5 + B) (E + 1) = none := by rw [car]; exact ha.1
  obtain ⟨K2, M2, mm, r1, r2, r3, r4, r5, r6, r7, r8⟩ := lp_lg (old := M 4 l) (ed := M 4 l + 10) hl z8 (by omega) (by omega) rfl 3 0 1000 K1 (xm_s M1 18 (E + 1) 0) 0 (by omega) (by omega) hC hc5 ha1 (ms_at _ _ _ _) (by decide)
  rw [show (0 : Int32) = nI 0 from rfl, r1]
  rw [show nI 0 = (0 : Int32) from rfl] at r2 ⊢
  rw [r2]
  have h24 : M2 24 (E + 1) = 0 := by rw [r6]; exact (g1' 24 _ (by decide)).trans ha.2.2.1
  have h25 : M2 25 (E + 1) = 0 := by rw [r7]; exact (g1' 25 _ (by decide)).trans ha.2.2.2.1
  have h30 : M2 30 (E + 1) = 0 := by rw [r8]; exact (g1' 30 _ (by decide)).trans ha.2.2.2.2
  obtain ⟨K3, M3, t1, t2, t3⟩ := rc_master (ed := M 4 l + 10) (old := M 4 l) rfl r3 (by omega) (by omega) r4 r5 h24 h25 h30
  rw [t1, t2, xb_some]
  exact ⟨K3, M3, rfl, rfl, t3⟩
theorem i32_9 {E : Nat} (h : E ≤ 9) : (9 : Int32) ≤ nI E ↔ E = 9 := by
  have := nI_leI (a := 9) (b := E) (by decide) (by omega)
  exact this.trans (by omega)
theorem kp_recover (B : Nat) : lo_s16 (iV B) B := fun n K M a hn h => by
  obtain ⟨fz, V, E, P, c, R, hA⟩ := id h
  obtain ⟨x0, o0, c0, l0, t0, u0, b0, L0, T0, U0, m0, q0, y0, dq, dy, s0, g0, e0, n0⟩ := id hA
  have hp : ∀ i, i < 3 → (0 : Int32) < M 0 i := fun i hi => by
    obtain ⟨e, e1, e2, e3⟩ := e0.2.2.1 i hi
    rw [e3]
    exact nI_lt (a := 0) (by omega) (by have := e0.2.1; omega)
  obtain ⟨g1, g2⟩ := gm_gr hp
  have t2 : (2 : Int32).toInt = 2 := by decide
  have h10 : ¬ (1 : Int32) = 0 := by decide
  have none' : iV B (n + 1) K M := iV_next h
  unfold kf_ES_recover_0 kf_EM_recover_0 kf_ES_recover_48 kf_EM_recover_47
  rw [xO_ok o0.1, xb_some, em_all o0 c0, xp_some, gr_all, xp_some, cu_all, xp_some, ← g1]
  by_cases hm : (gm_z M).1 < 2
  · rw [if_pos hm, if_pos rfl, if_pos hm]
    refine ⟨-1, K, M, rfl, ?_, none'⟩
    by_cases a1 : a < 0
    · rw [if_pos a1]
    · rw [if_neg a1]
      split <;> rfl
  · obtain ⟨g3, g4⟩ := g2 hm
    obtain ⟨hE, hup⟩ := gm_E e0 hm
    have E9 := e0.2.1
    rw [if_neg hm, if_neg g4, if_neg hm, ← g3, hE]
    by_cases h9 : E = 9
    · rw [if_pos ((i32_9 E9).mpr h9)]
      refine ⟨-1, K, M, rfl, ?_, none'⟩
      have hlt : ¬ nI E < (9 : Int32) := fun z => i32_lt_nle z ((i32_9 E9).mpr h9)
      by_cases a1 : a < 0
      · rw [if_pos a1]
      · rw [if_neg a1]
        by_cases a2 : (2 : Int32) < a
        · rw [if_pos a2]
        · rw [if_neg a2]
          rcases pi_3 a with q | ⟨q1, q2, q3, q4⟩ | ⟨l, hl, rfl, q1, q2, q3, q4⟩
          · exact absurd q a1
          · exact absurd q3 a2
          · rw [xMi_ok hl (by decide), xb_some, xMi_ok hl (by decide), xb_some, if_neg hlt]
            split
            · rfl
            · split <;> rfl
    · have c9 : ¬ (9 : Int32) ≤ nI E := fun z => h9 ((i32_9 E9).mp z)
      have lt9 : nI E < (9 : Int32) := i32_nle c9
      rw [if_neg c9]
      unfold kf_ES_isLog_0
      rcases pi_3 a with q | ⟨q1, q2, q3, q4⟩ | ⟨l, hl, rfl, q1, q2, q3, q4⟩
      · rw [if_pos q, if_pos q, xp_some, if_pos rfl]
        exact ⟨-1, K, M, rfl, rfl, none'⟩
      · rw [if_neg q1, if_pos q2, if_neg q1, if_pos q3, xp_some, if_pos rfl]
        exact ⟨-1, K, M, rfl, rfl, none'⟩
      · obtain ⟨f1, f2, f3, f4, f5, f6, f7⟩ := l0.2.2 l hl
        have ra : xRa K 3 (2 + B) (nI l) = some (some (37 + 3 * l + B)) := by rw [xRa_ok l0.1 l0.2.1 hl (by decide), f1]
        have m3 : xMi M 3 (nI l) = some (M 3 l) := xMi_ok hl (by decide)
        have m2 : xMi M 2 (nI l) = some (M 2 l) := xMi_ok hl (by decide)
        have m4 : xMi M 4 (nI l) = some (M 4 l) := xMi_ok hl (by decide)
        rw [if_neg q1, if_neg q2, if_neg q1, if_neg q3, xp_some, if_neg h10, xR_ok o0.1, o0.2.2.1, xb_some, xb_some, ra, xb_some, xb_some, xI_at f2 f4, xb_some, m3, xb_some (M 3 l)]
        by_cases hu : M 3 l = 0
        · rw [if_pos hu, if_pos hu]
          exact ⟨-1, K, M, rfl, rfl, none'⟩
        · rw [if_neg hu, if_neg hu, xb_some (some (2 + B)), xb_some (2 + B), ra, xb_some (some (37 + 3 * l + B)), xb_some (37 + 3 * l + B), xI_at f2 f5, xb_some (M 2 l), m2, xb_some (M 2 l)]
          by_cases hq : M 2 l = nI E
          · rw [if_pos hq, if_pos hq, if_pos lt9, xO_ok o0.1, xb_some, nI_1, m4, xb_some (M 4 l)]
            obtain ⟨K3, M3, t1, t2, t3⟩ := rc_go hA (by omega) hup hl
            rw [t1, t2]
            exact ⟨nI (E + 1), K3, M3, rfl, rfl, fz, V, E + 1, P, c, R, iA_mono t3 (by omega)⟩
          · rw [if_neg hq, if_neg hq]
            exact ⟨-1, K, M, rfl, rfl, none'⟩
end
section
-- the constructors leave nothing typed above the next address
def nk (K : xk) : Prop := ∀ a, xk_nx K ≤ a → xk_kd K a = 0
def okk (x : Option xk) : Prop := ∀ K, x = some K → nk K
theorem ok_some {K : xk} (h : nk K) : okk (some K) := fun _ e => by cases e; exact h
theorem ok_none : okk none := fun _ e => by cases e
theorem ok_b {α : Type} {x : Option α} {f : α → Option xk} (h : ∀ v, okk (f v)) : okk (x.bind f) := by
  cases x with
  | none => exact ok_none
  | some v => exact h v
theorem ok_call {x : Option xk} {f : xk → Option xk} (h : okk x) (g : ∀ K, nk K → okk (f K)) : okk (x.bind f) := by
  cases x with
  | none => exact ok_none
  | some v => exact g v (h v rfl)
theorem ok_Is {K : xk} {ci k a : Nat} {v : Int32} (h : nk K) : okk (xIs K ci k a v) := fun K' e => by
  unfold xIs at e; split at e; cases e; exact h; cases e
theorem ok_Zs {K : xk} {ci k a : Nat} {v : Int32} (h : nk K) : okk (xZs K ci k a v) := fun K' e => by
  unfold xZs at e; split at e; cases e; exact h; cases e
theorem ok_Rs {K : xk} {ci k a : Nat} {v : Option Nat} (h : nk K) : okk (xRs K ci k a v) := fun K' e => by
  unfold xRs at e; split at e; cases e; exact h; cases e
theorem ok_It {K : xk} {t a : Nat} {i v : Int32} (h : nk K) : okk (xIt K t a i v) := fun K' e => by
  unfold xIt at e; split at e; cases e; exact h; cases e
theorem ok_Zt {K : xk} {t a : Nat} {i v : Int32} (h : nk K) : okk (xZt K t a i v) := fun K' e => by
  unfold xZt at e; split at e; cases e; exact h; cases e
theorem ok_Rt {K : xk} {t ci a : Nat} {i : Int32} {v : Option Nat} (h : nk K) : okk (xRt K t ci a i v) := fun K' e => by
  unfold xRt at e; split at e; cases e; exact h; cases e
theorem nk_new {K : xk} (h : nk K) (k l : Nat) : nk (xk_new K k l) := fun a ha => by
  have ha : xk_nx K + 1 ≤ a := ha
  rw [(nw_at K k l (by omega)).1]
  exact h a (by omega)
theorem ok_new {K : xk} {k l : Nat} {f : Nat → xk → Option xk} (h : nk K) (g : ∀ q K, nk K → okk (f q K)) : okk (xp (xNw K k l) f) := g _ _ (nk_new h k l)
theorem ok_if {p : Prop} [Decidable p] {x y : Option xk} (h : okk x) (g : okk y) : okk (if p then x else y) := by
  split
  · exact h
  · exact g
theorem nk_Message_init_0 {K : xk} {th : Nat} (hK : nk K) : okk (kf_Message_init_0 K th) := by
  unfold kf_Message_init_0
  exact ok_some hK
theorem nk_Line_init_26025 {K : xk} {th : Nat} (hK : nk K) : okk (kf_Line_init_26025 K th) := by
  unfold kf_Line_init_26025
  exact ok_some hK
theorem nk_Line_init_26024 {K : xk} {th : Nat} (hK : nk K) : okk (kf_Line_init_26024 K th) := by
  unfold kf_Line_init_26024
  exact ok_b (fun v1 => ok_new hK (fun q2 K3 hK3 => ok_call (nk_Message_init_0 hK3) (fun K4 hK4 => ok_b (fun a6 => ok_call (ok_Rt hK4) (fun K5 hK5 => nk_Line_init_26025 hK5)))))
theorem nk_Line_init_26023 {K : xk} {th : Nat} (hK : nk K) : okk (kf_Line_init_26023 K th) := by
  unfold kf_Line_init_26023
  exact ok_b (fun v1 => ok_new hK (fun q2 K3 hK3 => ok_call (nk_Message_init_0 hK3) (fun K4 hK4 => ok_b (fun a6 => ok_call (ok_Rt hK4) (fun K5 hK5 => nk_Line_init_26024 hK5)))))
theorem nk_Line_init_26022 {K : xk} {th : Nat} (hK : nk K) : okk (kf_Line_init_26022 K th) := by
  unfold kf_Line_init_26022
  exact ok_b (fun v1 => ok_new hK (fun q2 K3 hK3 => ok_call (nk_Message_init_0 hK3) (fun K4 hK4 => ok_b (fun a6 => ok_call (ok_Rt hK4) (fun K5 hK5 => nk_Line_init_26023 hK5)))))
theorem nk_Line_init_26021 {K : xk} {th : Nat} (hK : nk K) : okk (kf_Line_init_26021 K th) := by
  unfold kf_Line_init_26021
  exact ok_b (fun v1 => ok_new hK (fun q2 K3 hK3 => ok_call (nk_Message_init_0 hK3) (fun K4 hK4 => ok_b (fun a6 => ok_call (ok_Rt hK4) (fun K5 hK5 => nk_Line_init_26022 hK5)))))
theorem nk_Line_init_26020 {K : xk} {th : Nat} (hK : nk K) : okk (kf_Line_init_26020 K th) := by
  unfold kf_Line_init_26020
  exact ok_b (fun v1 => ok_new hK (fun q2 K3 hK3 => ok_call (nk_Message_init_0 hK3) (fun K4 hK4 => ok_b (fun a6 => ok_call (ok_Rt hK4) (fun K5 hK5 => nk_Line_init_26021 hK5)))))
theorem nk_Line_init_26019 {K : xk} {th : Nat} (hK : nk K) : okk (kf_Line_init_26019 K th) := by
  unfold kf_Line_init_26019
  exact ok_b (fun v1 => ok_new hK (fun q2 K3 hK3 => ok_call (nk_Message_init_0 hK3) (fun K4 hK4 => ok_b (fun a6 => ok_call (ok_Rt hK4) (fun K5 hK5 => nk_Line_init_26020 hK5)))))
theorem nk_Line_init_26018 {K : xk} {th : Nat} (hK : nk K) : okk (kf_Line_init_26018 K th) := by
  unfold kf_Line_init_26018
  exact ok_b (fun v1 => ok_new hK (fun q2 K3 hK3 => ok_call (nk_Message_init_0 hK3) (fun K4 hK4 => ok_b (fun a6 => ok_call (ok_Rt hK4) (fun K5 hK5 => nk_Line_init_26019 hK5)))))
theorem nk_Line_init_26017 {K : xk} {th : Nat} (hK : nk K) : okk (kf_Line_init_26017 K th) := by
  unfold kf_Line_init_26017
  exact ok_b (fun v1 => ok_new hK (fun q2 K3 hK3 => ok_call (nk_Message_init_0 hK3) (fun K4 hK4 => ok_b (fun a6 => ok_call (ok_Rt hK4) (fun K5 hK5 => nk_Line_init_26018 hK5)))))
theorem nk_Line_init_26016 {K : xk} {th : Nat} (hK : nk K) : okk (kf_Line_init_26016 K th) := by
  unfold kf_Line_init_26016
  exact ok_b (fun v1 => ok_new hK (fun q2 K3 hK3 => ok_call (nk_Message_init_0 hK3) (fun K4 hK4 => ok_b (fun a6 => ok_call (ok_Rt hK4) (fun K5 hK5 => nk_Line_init_26017 hK5)))))
theorem nk_Line_init_26015 {K : xk} {th : Nat} (hK : nk K) : okk (kf_Line_init_26015 K th) := by
  unfold kf_Line_init_26015
  exact ok_b (fun v1 => ok_new hK (fun q2 K3 hK3 => ok_call (nk_Message_init_0 hK3) (fun K4 hK4 => ok_b (fun a6 => ok_call (ok_Rt hK4) (fun K5 hK5 => nk_Line_init_26016 hK5)))))
theorem nk_Line_init_26014 {K : xk} {th : Nat} (hK : nk K) : okk (kf_Line_init_26014 K th) := by
  unfold kf_Line_init_26014
  exact ok_b (fun v1 => ok_new hK (fun q2 K3 hK3 => ok_call (nk_Message_init_0 hK3) (fun K4 hK4 => ok_b (fun a6 => ok_call (ok_Rt hK4) (fun K5 hK5 => nk_Line_init_26015 hK5)))))
theorem nk_Line_init_26013 {K : xk} {th : Nat} (hK : nk K) : okk (kf_Line_init_26013 K th) := by
  unfold kf_Line_init_26013
  exact ok_b (fun v1 => ok_new hK (fun q2 K3 hK3 => ok_call (nk_Message_init_0 hK3) (fun K4 hK4 => ok_b (fun a6 => ok_call (ok_Rt hK4) (fun K5 hK5 => nk_Line_init_26014 hK5)))))
theorem nk_Line_init_26012 {K : xk} {th : Nat} (hK : nk K) : okk (kf_Line_init_26012 K th) := by
  unfold kf_Line_init_26012
  exact ok_b (fun v1 => ok_new hK (fun q2 K3 hK3 => ok_call (nk_Message_init_0 hK3) (fun K4 hK4 => ok_b (fun a6 => ok_call (ok_Rt hK4) (fun K5 hK5 => nk_Line_init_26013 hK5)))))
theorem nk_Line_init_26011 {K : xk} {th : Nat} (hK : nk K) : okk (kf_Line_init_26011 K th) := by
  unfold kf_Line_init_26011
  exact ok_b (fun v1 => ok_new hK (fun q2 K3 hK3 => ok_call (nk_Message_init_0 hK3) (fun K4 hK4 => ok_b (fun a6 => ok_call (ok_Rt hK4) (fun K5 hK5 => nk_Line_init_26012 hK5)))))
theorem nk_Line_init_26010 {K : xk} {th : Nat} (hK : nk K) : okk (kf_Line_init_26010 K th) := by
  unfold kf_Line_init_26010
  exact ok_b (fun v1 => ok_new hK (fun q2 K3 hK3 => ok_call (nk_Message_init_0 hK3) (fun K4 hK4 => ok_b (fun a6 => ok_call (ok_Rt hK4) (fun K5 hK5 => nk_Line_init_26011 hK5)))))
theorem nk_Line_init_26009 {K : xk} {th : Nat} (hK : nk K) : okk (kf_Line_init_26009 K th) := by
  unfold kf_Line_init_26009
  exact ok_b (fun v1 => ok_new hK (fun q2 K3 hK3 => ok_call (nk_Message_init_0 hK3) (fun K4 hK4 => ok_b (fun a6 => ok_call (ok_Rt hK4) (fun K5 hK5 => nk_Line_init_26010 hK5)))))
theorem nk_Line_init_26008 {K : xk} {th : Nat} (hK : nk K) : okk (kf_Line_init_26008 K th) := by
  unfold kf_Line_init_26008
  exact ok_b (fun v1 => ok_new hK (fun q2 K3 hK3 => ok_call (nk_Message_init_0 hK3) (fun K4 hK4 => ok_b (fun a6 => ok_call (ok_Rt hK4) (fun K5 hK5 => nk_Line_init_26009 hK5)))))
theorem nk_Line_init_26007 {K : xk} {th : Nat} (hK : nk K) : okk (kf_Line_init_26007 K th) := by
  unfold kf_Line_init_26007
  exact ok_b (fun v1 => ok_new hK (fun q2 K3 hK3 => ok_call (nk_Message_init_0 hK3) (fun K4 hK4 => ok_b (fun a6 => ok_call (ok_Rt hK4) (fun K5 hK5 => nk_Line_init_26008 hK5)))))
theorem nk_Line_init_26006 {K : xk} {th : Nat} (hK : nk K) : okk (kf_Line_init_26006 K th) := by
  unfold kf_Line_init_26006
  exact ok_b (fun v1 => ok_new hK (fun q2 K3 hK3 => ok_call (nk_Message_init_0 hK3) (fun K4 hK4 => ok_b (fun a6 => ok_call (ok_Rt hK4) (fun K5 hK5 => nk_Line_init_26007 hK5)))))
theorem nk_Line_init_26005 {K : xk} {th : Nat} (hK : nk K) : okk (kf_Line_init_26005 K th) := by
  unfold kf_Line_init_26005
  exact ok_b (fun v1 => ok_new hK (fun q2 K3 hK3 => ok_call (nk_Message_init_0 hK3) (fun K4 hK4 => ok_b (fun a6 => ok_call (ok_Rt hK4) (fun K5 hK5 => nk_Line_init_26006 hK5)))))
theorem nk_Line_init_26004 {K : xk} {th : Nat} (hK : nk K) : okk (kf_Line_init_26004 K th) := by
  unfold kf_Line_init_26004
  exact ok_b (fun v1 => ok_new hK (fun q2 K3 hK3 => ok_call (nk_Message_init_0 hK3) (fun K4 hK4 => ok_b (fun a6 => ok_call (ok_Rt hK4) (fun K5 hK5 => nk_Line_init_26005 hK5)))))
theorem nk_Line_init_26003 {K : xk} {th : Nat} (hK : nk K) : okk (kf_Line_init_26003 K th) := by
  unfold kf_Line_init_26003
  exact ok_b (fun v1 => ok_new hK (fun q2 K3 hK3 => ok_call (nk_Message_init_0 hK3) (fun K4 hK4 => ok_b (fun a6 => ok_call (ok_Rt hK4) (fun K5 hK5 => nk_Line_init_26004 hK5)))))
theorem nk_Line_init_26002 {K : xk} {th : Nat} (hK : nk K) : okk (kf_Line_init_26002 K th) := by
  unfold kf_Line_init_26002
  exact ok_b (fun v1 => ok_new hK (fun q2 K3 hK3 => ok_call (nk_Message_init_0 hK3) (fun K4 hK4 => ok_b (fun a6 => ok_call (ok_Rt hK4) (fun K5 hK5 => nk_Line_init_26003 hK5)))))
theorem nk_Line_init_26001 {K : xk} {th : Nat} (hK : nk K) : okk (kf_Line_init_26001 K th) := by
  unfold kf_Line_init_26001
  exact ok_b (fun v1 => ok_new hK (fun q2 K3 hK3 => ok_call (nk_Message_init_0 hK3) (fun K4 hK4 => ok_b (fun a6 => ok_call (ok_Rt hK4) (fun K5 hK5 => nk_Line_init_26002 hK5)))))
theorem nk_Line_init_26000 {K : xk} {th : Nat} (hK : nk K) : okk (kf_Line_init_26000 K th) := by
  unfold kf_Line_init_26000
  exact ok_b (fun v1 => ok_new hK (fun q2 K3 hK3 => ok_call (nk_Message_init_0 hK3) (fun K4 hK4 => ok_b (fun a6 => ok_call (ok_Rt hK4) (fun K5 hK5 => nk_Line_init_26001 hK5)))))
theorem nk_Line_init_0 {K : xk} {th : Nat} (hK : nk K) : okk (kf_Line_init_0 K th) := by
  unfold kf_Line_init_0
  exact ok_new hK (fun q1 K2 hK2 => ok_call (ok_Rs hK2) (fun K3 hK3 => ok_new hK3 (fun q4 K5 hK5 => ok_call (nk_Message_init_0 hK5) (fun K6 hK6 => ok_call (ok_Rs hK6) (fun K7 hK7 => nk_Line_init_26000 hK7)))))
theorem nk_Coordinator_init_0 {K : xk} {th : Nat} (hK : nk K) : okk (kf_Coordinator_init_0 K th) := by
  unfold kf_Coordinator_init_0
  exact ok_call (ok_Zs hK) (fun K1 hK1 => ok_call (ok_Is hK1) (fun K2 hK2 => ok_some hK2))
theorem nk_Log_init_0 {K : xk} {th : Nat} {x1 : Int32} (hK : nk K) : okk (kf_Log_init_0 K th x1) := by
  unfold kf_Log_init_0
  exact ok_call (ok_Zs hK) (fun K1 hK1 => ok_call (ok_Is hK1) (fun K2 hK2 => ok_call (ok_Is hK2) (fun K3 hK3 => ok_new hK3 (fun q4 K5 hK5 => ok_call (ok_Rs hK5) (fun K6 hK6 => ok_new hK6 (fun q7 K8 hK8 => ok_call (ok_Rs hK8) (fun K9 hK9 => ok_call (ok_Is hK9) (fun K10 hK10 => ok_some hK10))))))))
theorem nk_Storage_init_0 {K : xk} {th : Nat} {x1 : Int32} (hK : nk K) : okk (kf_Storage_init_0 K th x1) := by
  unfold kf_Storage_init_0
  exact ok_call (ok_Zs hK) (fun K1 hK1 => ok_call (ok_Is hK1) (fun K2 hK2 => ok_call (ok_Is hK2) (fun K3 hK3 => ok_new hK3 (fun q4 K5 hK5 => ok_call (ok_Rs hK5) (fun K6 hK6 => ok_call (ok_Is hK6) (fun K7 hK7 => ok_some hK7))))))
theorem nk_Writes_init_0 {K : xk} {th : Nat} (hK : nk K) : okk (kf_Writes_init_0 K th) := by
  unfold kf_Writes_init_0
  exact ok_new hK (fun q1 K2 hK2 => ok_call (ok_Rs hK2) (fun K3 hK3 => ok_some hK3))
theorem nk_Client_init_0 {K : xk} {th : Nat} {x1 : Int32} (hK : nk K) : okk (kf_Client_init_0 K th x1) := by
  unfold kf_Client_init_0
  exact ok_call (ok_Is hK) (fun K1 hK1 => ok_call (ok_Is hK1) (fun K2 hK2 => ok_call (ok_Is hK2) (fun K3 hK3 => ok_new hK3 (fun q4 K5 hK5 => ok_call (nk_Writes_init_0 hK5) (fun K6 hK6 => ok_call (ok_Rs hK6) (fun K7 hK7 => ok_call (ok_Is hK7) (fun K8 hK8 => ok_some hK8)))))))
theorem nkb_Master_init_63 {rec63 : xk → Nat → Int32 → Int32 → Option xk} (hr : ∀ {K : xk} {th : Nat} {x3 : Int32} {x4 : Int32}, nk K → okk (rec63 K th x3 x4)) {K : xk} {th : Nat} {x3 : Int32} {x4 : Int32} (hK : nk K) : okk (kb_Master_init_63 rec63 K th x3 x4) := by
  unfold kb_Master_init_63
  exact ok_if (ok_some hK) (ok_b (fun v1 => ok_b (fun a3 => ok_call (ok_It hK) (fun K2 hK2 => hr hK2))))
theorem nk_Master_init_63 : ∀ {n : Nat} {K : xk} {th : Nat} {x3 : Int32} {x4 : Int32}, nk K → okk (kf_Master_init_63 n K th x3 x4) := by
  intro n
  induction n with
  | zero => intro K th x3 x4 _; exact ok_none
  | succ n ih => intro K th x3 x4 h; exact nkb_Master_init_63 (fun hk => ih hk) h
theorem nk_Master_init_50 {K : xk} {th : Nat} {x3 : Int32} (hK : nk K) : okk (kf_Master_init_50 K th x3) := by
  unfold kf_Master_init_50
  exact ok_call (ok_Is hK) (fun K1 hK1 => ok_call (ok_Is hK1) (fun K2 hK2 => nk_Master_init_63 hK2))
theorem nk_Master_init_0 {K : xk} {th : Nat} {x1 : Int32} {x2 : Int32} {x3 : Int32} (hK : nk K) : okk (kf_Master_init_0 K th x1 x2 x3) := by
  unfold kf_Master_init_0
  exact ok_new hK (fun q1 K2 hK2 => ok_call (ok_Rs hK2) (fun K3 hK3 => ok_new hK3 (fun q4 K5 hK5 => ok_call (ok_Rs hK5) (fun K6 hK6 => ok_new hK6 (fun q7 K8 hK8 => ok_call (ok_Rs hK8) (fun K9 hK9 => ok_call (ok_Is hK9) (fun K10 hK10 => ok_call (ok_Is hK10) (fun K11 hK11 => ok_call (ok_Is hK11) (fun K12 hK12 => ok_call (ok_Is hK12) (fun K13 hK13 => nk_Master_init_50 hK13))))))))))
theorem nk_ES_init_138003 {K : xk} {th : Nat} (hK : nk K) : okk (kf_ES_init_138003 K th) := by
  unfold kf_ES_init_138003
  exact ok_b (fun v1 => ok_new hK (fun q2 K3 hK3 => ok_call (nk_Master_init_0 hK3) (fun K4 hK4 => ok_b (fun a6 => ok_call (ok_Rt hK4) (fun K5 hK5 => ok_some hK5)))))
theorem nk_ES_init_138002 {K : xk} {th : Nat} (hK : nk K) : okk (kf_ES_init_138002 K th) := by
  unfold kf_ES_init_138002
  exact ok_b (fun v1 => ok_new hK (fun q2 K3 hK3 => ok_call (nk_Client_init_0 hK3) (fun K4 hK4 => ok_b (fun a6 => ok_call (ok_Rt hK4) (fun K5 hK5 => nk_ES_init_138003 hK5)))))
theorem nk_ES_init_138001 {K : xk} {th : Nat} (hK : nk K) : okk (kf_ES_init_138001 K th) := by
  unfold kf_ES_init_138001
  exact ok_b (fun v1 => ok_new hK (fun q2 K3 hK3 => ok_call (nk_Client_init_0 hK3) (fun K4 hK4 => ok_b (fun a6 => ok_call (ok_Rt hK4) (fun K5 hK5 => nk_ES_init_138002 hK5)))))
theorem nk_ES_init_138000 {K : xk} {th : Nat} (hK : nk K) : okk (kf_ES_init_138000 K th) := by
  unfold kf_ES_init_138000
  exact ok_b (fun v1 => ok_new hK (fun q2 K3 hK3 => ok_call (nk_Client_init_0 hK3) (fun K4 hK4 => ok_b (fun a6 => ok_call (ok_Rt hK4) (fun K5 hK5 => nk_ES_init_138001 hK5)))))
theorem nk_ES_init_111002 {K : xk} {th : Nat} (hK : nk K) : okk (kf_ES_init_111002 K th) := by
  unfold kf_ES_init_111002
  exact nk_ES_init_138000 hK
theorem nk_ES_init_111001 {K : xk} {th : Nat} (hK : nk K) : okk (kf_ES_init_111001 K th) := by
  unfold kf_ES_init_111001
  exact ok_b (fun v1 => ok_new hK (fun q2 K3 hK3 => ok_call (nk_Storage_init_0 hK3) (fun K4 hK4 => ok_b (fun a6 => ok_call (ok_Rt hK4) (fun K5 hK5 => nk_ES_init_111002 hK5)))))
theorem nk_ES_init_111000 {K : xk} {th : Nat} (hK : nk K) : okk (kf_ES_init_111000 K th) := by
  unfold kf_ES_init_111000
  exact ok_b (fun v1 => ok_new hK (fun q2 K3 hK3 => ok_call (nk_Storage_init_0 hK3) (fun K4 hK4 => ok_b (fun a6 => ok_call (ok_Rt hK4) (fun K5 hK5 => nk_ES_init_111001 hK5)))))
theorem nk_ES_init_84003 {K : xk} {th : Nat} (hK : nk K) : okk (kf_ES_init_84003 K th) := by
  unfold kf_ES_init_84003
  exact nk_ES_init_111000 hK
theorem nk_ES_init_84002 {K : xk} {th : Nat} (hK : nk K) : okk (kf_ES_init_84002 K th) := by
  unfold kf_ES_init_84002
  exact ok_b (fun v1 => ok_new hK (fun q2 K3 hK3 => ok_call (nk_Log_init_0 hK3) (fun K4 hK4 => ok_b (fun a6 => ok_call (ok_Rt hK4) (fun K5 hK5 => nk_ES_init_84003 hK5)))))
theorem nk_ES_init_84001 {K : xk} {th : Nat} (hK : nk K) : okk (kf_ES_init_84001 K th) := by
  unfold kf_ES_init_84001
  exact ok_b (fun v1 => ok_new hK (fun q2 K3 hK3 => ok_call (nk_Log_init_0 hK3) (fun K4 hK4 => ok_b (fun a6 => ok_call (ok_Rt hK4) (fun K5 hK5 => nk_ES_init_84002 hK5)))))
theorem nk_ES_init_84000 {K : xk} {th : Nat} (hK : nk K) : okk (kf_ES_init_84000 K th) := by
  unfold kf_ES_init_84000
  exact ok_b (fun v1 => ok_new hK (fun q2 K3 hK3 => ok_call (nk_Log_init_0 hK3) (fun K4 hK4 => ok_b (fun a6 => ok_call (ok_Rt hK4) (fun K5 hK5 => nk_ES_init_84001 hK5)))))
theorem nk_ES_init_58003 {K : xk} {th : Nat} (hK : nk K) : okk (kf_ES_init_58003 K th) := by
  unfold kf_ES_init_58003
  exact nk_ES_init_84000 hK
theorem nk_ES_init_58002 {K : xk} {th : Nat} (hK : nk K) : okk (kf_ES_init_58002 K th) := by
  unfold kf_ES_init_58002
  exact ok_b (fun v1 => ok_new hK (fun q2 K3 hK3 => ok_call (nk_Coordinator_init_0 hK3) (fun K4 hK4 => ok_b (fun a6 => ok_call (ok_Rt hK4) (fun K5 hK5 => nk_ES_init_58003 hK5)))))
theorem nk_ES_init_58001 {K : xk} {th : Nat} (hK : nk K) : okk (kf_ES_init_58001 K th) := by
  unfold kf_ES_init_58001
  exact ok_b (fun v1 => ok_new hK (fun q2 K3 hK3 => ok_call (nk_Coordinator_init_0 hK3) (fun K4 hK4 => ok_b (fun a6 => ok_call (ok_Rt hK4) (fun K5 hK5 => nk_ES_init_58002 hK5)))))
theorem nk_ES_init_58000 {K : xk} {th : Nat} (hK : nk K) : okk (kf_ES_init_58000 K th) := by
  unfold kf_ES_init_58000
  exact ok_b (fun v1 => ok_new hK (fun q2 K3 hK3 => ok_call (nk_Coordinator_init_0 hK3) (fun K4 hK4 => ok_b (fun a6 => ok_call (ok_Rt hK4) (fun K5 hK5 => nk_ES_init_58001 hK5)))))
theorem nk_ES_init_0 {K : xk} {th : Nat} (hK : nk K) : okk (kf_ES_init_0 K th) := by
  unfold kf_ES_init_0
  exact ok_new hK (fun q1 K2 hK2 => ok_call (ok_Rs hK2) (fun K3 hK3 => ok_new hK3 (fun q4 K5 hK5 => ok_call (ok_Rs hK5) (fun K6 hK6 => ok_new hK6 (fun q7 K8 hK8 => ok_call (ok_Rs hK8) (fun K9 hK9 => ok_new hK9 (fun q10 K11 hK11 => ok_call (ok_Rs hK11) (fun K12 hK12 => ok_new hK12 (fun q13 K14 hK14 => ok_call (ok_Rs hK14) (fun K15 hK15 => ok_new hK15 (fun q16 K17 hK17 => ok_call (nk_Line_init_0 hK17) (fun K18 hK18 => ok_call (ok_Rs hK18) (fun K19 hK19 => nk_ES_init_58000 hK19)))))))))))))
theorem nkb_EM_init_584 {rec584 : xk → Nat → Int32 → Option xk} (hr : ∀ {K : xk} {th : Nat} {x1 : Int32}, nk K → okk (rec584 K th x1)) {K : xk} {th : Nat} {x1 : Int32} (hK : nk K) : okk (kb_EM_init_584 rec584 K th x1) := by
  unfold kb_EM_init_584
  exact ok_if (ok_some hK) (ok_b (fun v1 => ok_b (fun a3 => ok_call (ok_It hK) (fun K2 hK2 => hr hK2))))
theorem nk_EM_init_584 : ∀ {n : Nat} {K : xk} {th : Nat} {x1 : Int32}, nk K → okk (kf_EM_init_584 n K th x1) := by
  intro n
  induction n with
  | zero => intro K th x1 _; exact ok_none
  | succ n ih => intro K th x1 h; exact nkb_EM_init_584 (fun hk => ih hk) h
theorem nk_EM_init_558 {K : xk} {th : Nat} (hK : nk K) : okk (kf_EM_init_558 K th) := by
  unfold kf_EM_init_558
  exact ok_b (fun v1 => ok_b (fun a3 => ok_call (ok_It hK) (fun K2 hK2 => ok_b (fun v4 => ok_b (fun a6 => ok_call (ok_It hK2) (fun K5 hK5 => ok_b (fun v7 => ok_b (fun a9 => ok_call (ok_It hK5) (fun K8 hK8 => nk_EM_init_584 hK8)))))))))
theorem nk_EM_init_510 {K : xk} {th : Nat} (hK : nk K) : okk (kf_EM_init_510 K th) := by
  unfold kf_EM_init_510
  exact ok_new hK (fun q1 K2 hK2 => ok_call (ok_Rs hK2) (fun K3 hK3 => ok_new hK3 (fun q4 K5 hK5 => ok_call (ok_Rs hK5) (fun K6 hK6 => ok_new hK6 (fun q7 K8 hK8 => ok_call (ok_Rs hK8) (fun K9 hK9 => ok_b (fun v10 => ok_b (fun a12 => ok_call (ok_Zt hK9) (fun K11 hK11 => ok_b (fun v13 => ok_b (fun a15 => ok_call (ok_It hK11) (fun K14 hK14 => ok_b (fun v16 => ok_b (fun a18 => ok_call (ok_It hK14) (fun K17 hK17 => nk_EM_init_558 hK17)))))))))))))))
theorem nk_EM_init_463 {K : xk} {th : Nat} (hK : nk K) : okk (kf_EM_init_463 K th) := by
  unfold kf_EM_init_463
  exact ok_new hK (fun q1 K2 hK2 => ok_call (ok_Rs hK2) (fun K3 hK3 => ok_new hK3 (fun q4 K5 hK5 => ok_call (ok_Rs hK5) (fun K6 hK6 => ok_new hK6 (fun q7 K8 hK8 => ok_call (ok_Rs hK8) (fun K9 hK9 => ok_new hK9 (fun q10 K11 hK11 => ok_call (ok_Rs hK11) (fun K12 hK12 => ok_new hK12 (fun q13 K14 hK14 => ok_call (ok_Rs hK14) (fun K15 hK15 => ok_new hK15 (fun q16 K17 hK17 => ok_call (ok_Rs hK17) (fun K18 hK18 => nk_EM_init_510 hK18))))))))))))
theorem nk_EM_init_420 {K : xk} {th : Nat} (hK : nk K) : okk (kf_EM_init_420 K th) := by
  unfold kf_EM_init_420
  exact ok_new hK (fun q1 K2 hK2 => ok_call (ok_Rs hK2) (fun K3 hK3 => ok_new hK3 (fun q4 K5 hK5 => ok_call (ok_Rs hK5) (fun K6 hK6 => ok_new hK6 (fun q7 K8 hK8 => ok_call (ok_Rs hK8) (fun K9 hK9 => ok_new hK9 (fun q10 K11 hK11 => ok_call (ok_Rs hK11) (fun K12 hK12 => ok_new hK12 (fun q13 K14 hK14 => ok_call (ok_Rs hK14) (fun K15 hK15 => ok_new hK15 (fun q16 K17 hK17 => ok_call (ok_Rs hK17) (fun K18 hK18 => nk_EM_init_463 hK18))))))))))))
theorem nk_EM_init_386 {K : xk} {th : Nat} (hK : nk K) : okk (kf_EM_init_386 K th) := by
  unfold kf_EM_init_386
  exact ok_new hK (fun q1 K2 hK2 => ok_call (ok_Rs hK2) (fun K3 hK3 => ok_new hK3 (fun q4 K5 hK5 => ok_call (ok_It hK5) (fun K6 hK6 => ok_call (ok_It hK6) (fun K7 hK7 => ok_call (ok_It hK7) (fun K8 hK8 => ok_call (ok_Rs hK8) (fun K9 hK9 => ok_new hK9 (fun q10 K11 hK11 => ok_call (ok_Rs hK11) (fun K12 hK12 => nk_EM_init_420 hK12)))))))))
theorem nk_EM_init_337 {K : xk} {th : Nat} (hK : nk K) : okk (kf_EM_init_337 K th) := by
  unfold kf_EM_init_337
  exact ok_new hK (fun q1 K2 hK2 => ok_call (ok_Rs hK2) (fun K3 hK3 => ok_new hK3 (fun q4 K5 hK5 => ok_call (ok_Rs hK5) (fun K6 hK6 => ok_new hK6 (fun q7 K8 hK8 => ok_call (ok_Rs hK8) (fun K9 hK9 => ok_new hK9 (fun q10 K11 hK11 => ok_call (ok_Rs hK11) (fun K12 hK12 => ok_new hK12 (fun q13 K14 hK14 => ok_call (ok_Rs hK14) (fun K15 hK15 => ok_new hK15 (fun q16 K17 hK17 => ok_call (ok_Rs hK17) (fun K18 hK18 => nk_EM_init_386 hK18))))))))))))
theorem nk_EM_init_289 {K : xk} {th : Nat} (hK : nk K) : okk (kf_EM_init_289 K th) := by
  unfold kf_EM_init_289
  exact ok_new hK (fun q1 K2 hK2 => ok_call (ok_Rs hK2) (fun K3 hK3 => ok_new hK3 (fun q4 K5 hK5 => ok_call (ok_Rs hK5) (fun K6 hK6 => ok_new hK6 (fun q7 K8 hK8 => ok_call (ok_Rs hK8) (fun K9 hK9 => ok_new hK9 (fun q10 K11 hK11 => ok_call (ok_Rs hK11) (fun K12 hK12 => ok_new hK12 (fun q13 K14 hK14 => ok_call (ok_Rs hK14) (fun K15 hK15 => ok_new hK15 (fun q16 K17 hK17 => ok_call (ok_Rs hK17) (fun K18 hK18 => nk_EM_init_337 hK18))))))))))))
theorem nk_EM_init_241 {K : xk} {th : Nat} (hK : nk K) : okk (kf_EM_init_241 K th) := by
  unfold kf_EM_init_241
  exact ok_new hK (fun q1 K2 hK2 => ok_call (ok_Rs hK2) (fun K3 hK3 => ok_new hK3 (fun q4 K5 hK5 => ok_call (ok_Rs hK5) (fun K6 hK6 => ok_new hK6 (fun q7 K8 hK8 => ok_call (ok_Rs hK8) (fun K9 hK9 => ok_new hK9 (fun q10 K11 hK11 => ok_call (ok_Rs hK11) (fun K12 hK12 => ok_new hK12 (fun q13 K14 hK14 => ok_call (ok_Rs hK14) (fun K15 hK15 => ok_new hK15 (fun q16 K17 hK17 => ok_call (ok_Rs hK17) (fun K18 hK18 => nk_EM_init_289 hK18))))))))))))
theorem nk_EM_init_191 {K : xk} {th : Nat} (hK : nk K) : okk (kf_EM_init_191 K th) := by
  unfold kf_EM_init_191
  exact ok_new hK (fun q1 K2 hK2 => ok_call (ok_Rs hK2) (fun K3 hK3 => ok_new hK3 (fun q4 K5 hK5 => ok_call (ok_Rs hK5) (fun K6 hK6 => ok_new hK6 (fun q7 K8 hK8 => ok_call (ok_Rs hK8) (fun K9 hK9 => ok_new hK9 (fun q10 K11 hK11 => ok_call (ok_Rs hK11) (fun K12 hK12 => ok_new hK12 (fun q13 K14 hK14 => ok_call (ok_Rs hK14) (fun K15 hK15 => ok_new hK15 (fun q16 K17 hK17 => ok_call (ok_Rs hK17) (fun K18 hK18 => nk_EM_init_241 hK18))))))))))))
theorem nk_EM_init_159 {K : xk} {th : Nat} (hK : nk K) : okk (kf_EM_init_159 K th) := by
  unfold kf_EM_init_159
  exact ok_new hK (fun q1 K2 hK2 => ok_call (ok_Zt hK2) (fun K3 hK3 => ok_call (ok_Zt hK3) (fun K4 hK4 => ok_call (ok_Rs hK4) (fun K5 hK5 => ok_new hK5 (fun q6 K7 hK7 => ok_call (ok_It hK7) (fun K8 hK8 => ok_call (ok_It hK8) (fun K9 hK9 => ok_call (ok_Rs hK9) (fun K10 hK10 => nk_EM_init_191 hK10))))))))
theorem nk_EM_init_118 {K : xk} {th : Nat} (hK : nk K) : okk (kf_EM_init_118 K th) := by
  unfold kf_EM_init_118
  exact ok_new hK (fun q1 K2 hK2 => ok_call (ok_Rs hK2) (fun K3 hK3 => ok_new hK3 (fun q4 K5 hK5 => ok_call (ok_Rs hK5) (fun K6 hK6 => ok_new hK6 (fun q7 K8 hK8 => ok_call (ok_Rs hK8) (fun K9 hK9 => ok_new hK9 (fun q10 K11 hK11 => ok_call (ok_It hK11) (fun K12 hK12 => ok_call (ok_It hK12) (fun K13 hK13 => ok_call (ok_Rs hK13) (fun K14 hK14 => nk_EM_init_159 hK14))))))))))
theorem nk_EM_init_80 {K : xk} {th : Nat} (hK : nk K) : okk (kf_EM_init_80 K th) := by
  unfold kf_EM_init_80
  exact ok_new hK (fun q1 K2 hK2 => ok_call (ok_It hK2) (fun K3 hK3 => ok_call (ok_It hK3) (fun K4 hK4 => ok_call (ok_It hK4) (fun K5 hK5 => ok_call (ok_Rs hK5) (fun K6 hK6 => ok_new hK6 (fun q7 K8 hK8 => ok_call (ok_Rs hK8) (fun K9 hK9 => ok_new hK9 (fun q10 K11 hK11 => ok_call (ok_Rs hK11) (fun K12 hK12 => nk_EM_init_118 hK12)))))))))
theorem nk_EM_init_42 {K : xk} {th : Nat} (hK : nk K) : okk (kf_EM_init_42 K th) := by
  unfold kf_EM_init_42
  exact ok_new hK (fun q1 K2 hK2 => ok_call (ok_It hK2) (fun K3 hK3 => ok_call (ok_It hK3) (fun K4 hK4 => ok_call (ok_It hK4) (fun K5 hK5 => ok_call (ok_Rs hK5) (fun K6 hK6 => ok_new hK6 (fun q7 K8 hK8 => ok_call (ok_Zt hK8) (fun K9 hK9 => ok_call (ok_Zt hK9) (fun K10 hK10 => ok_call (ok_Zt hK10) (fun K11 hK11 => ok_call (ok_Rs hK11) (fun K12 hK12 => nk_EM_init_80 hK12))))))))))
theorem nk_EM_init_0 {K : xk} {th : Nat} (hK : nk K) : okk (kf_EM_init_0 K th) := by
  unfold kf_EM_init_0
  exact ok_new hK (fun q1 K2 hK2 => ok_call (ok_It hK2) (fun K3 hK3 => ok_call (ok_It hK3) (fun K4 hK4 => ok_call (ok_It hK4) (fun K5 hK5 => ok_call (ok_Rs hK5) (fun K6 hK6 => ok_new hK6 (fun q7 K8 hK8 => ok_call (ok_Zt hK8) (fun K9 hK9 => ok_call (ok_Zt hK9) (fun K10 hK10 => ok_call (ok_Zt hK10) (fun K11 hK11 => ok_call (ok_Rs hK11) (fun K12 hK12 => nk_EM_init_42 hK12))))))))))
end
