section
theorem pig {f : Nat → Int32} : ∀ (n : Nat) (V : List Int32), (∀ j, j < n → f j ∈ V) → (∀ j k, j < k → k < n → f j < f k) → n ≤ V.length := by
  intro n
  induction n with
  | zero => intro V _ _; exact Nat.zero_le _
  | succ n ih =>
    intro V h1 h2
    have hm := h1 n (by omega)
    have hl := List.length_erase_of_mem hm
    have hp := List.length_pos_of_mem hm
    have := ih (V.erase (f n)) (fun j hj => (List.mem_erase_of_ne (fun z => by
      have := h2 j n hj (by omega)
      rw [z, Int32.lt_iff_toInt_lt] at this
      omega)).mpr (h1 j (by omega))) (fun j k hj hk => h2 j k hj (by omega))
    omega
variable {B : Nat} {fz : Nat → Prop} {V : List Int32} {E P : Nat} {D : Nat → Nat} {c : Nat} {R : Nat → Nat} {n : Nat} {K : xk} {M : xm}
/-- how far a storage is -/
theorem st_t3 {i : Nat} {v : Int32} (h : iA B fz V E P D c R n K M) (hi : i < 2) (hv : ∀ k, M 13 i = nI k → k ≤ P → ∀ j, j < k → M 14 (128 * i + j) ≤ v) : iA B fz V E P D c R n (xk_sI K 10 3 (46 + 2 * i + B) v) (xm_s M 12 i v) := by
  obtain ⟨x0, o0, c0, l0, ⟨t1, t2, t3⟩, u0, b0, L0, T0, U0, m0, q0, y0, dq, dy, s0, g0, e0, n0⟩ := h
  refine ⟨x0, o0, c0, l0, ⟨t1, t2, fun j hj => ?_⟩, u0, b0, L0, fun j hj => ?_, U0, m0, q0, y0, dq, dy, s0, g0, e0, n0⟩
  · obtain ⟨e1, e2, e3, e4, e5, e6⟩ := t3 j hj
    exact ⟨e1, e2, e3, e4, up_eq (by omega) e5, e6⟩
  · obtain ⟨z1, z2, z3, z4, n1, z5, z6, z7, z8, z9, z10⟩ := T0 j hj
    refine ⟨z1, z2, z3, z4, n1, z5, z6, z7, z8, ?_, z10⟩
    rw [ms_at']
    by_cases q : j = i
    · subst q
      rw [if_pos rfl]
      exact hv n1 z7 z5
    · rw [if_neg q]
      exact z9
theorem st_t2 {i e : Nat} (h : iA B fz V E P D c R n K M) (hi : i < 2) (e1 : 1 ≤ e) (e9 : e ≤ 9) : iA B fz V E P D c R n (xk_sI K 10 2 (46 + 2 * i + B) (nI e)) (xm_s M 10 i (nI e)) := by
  obtain ⟨x0, o0, c0, l0, ⟨t1, t2, t3⟩, u0, b0, L0, T0, U0, m0, q0, y0, dq, dy, s0, g0, ⟨p1, p2, p3, p4, p5, p6, p7, p8⟩, n0⟩ := h
  refine ⟨x0, o0, c0, l0, ⟨t1, t2, fun j hj => ?_⟩, u0, b0, L0, T0, U0, m0, q0, y0, dq, dy, s0, g0, ⟨p1, p2, p3, p4, p5, p6, fun j hj => ?_, p8⟩, n0⟩
  · obtain ⟨f1, f2, f3, f4, f5, f6⟩ := t3 j hj
    exact ⟨f1, f2, f3, up_eq (by omega) f4, f5, f6⟩
  · rw [ms_at']
    by_cases q : j = i
    · rw [if_pos q]
      exact ⟨e, e1, e9, rfl⟩
    · rw [if_neg q]
      exact p7 j hj
theorem jT_100 {M : xm} {n1 : Nat} (h : jN M V P n c) (hn : n < 512) (h1 : n1 ≤ P) (h2 : n1 ≤ V.length) : n1 < 100 := by
  unfold jN at h
  omega
theorem st_tc {i k : Nat} (h : iA B fz V E P D c R n K M) (hi : i < 2) (hk : M 13 i = nI (k + 1)) (hP : k < 2 ^ 31 - 1) : iA B fz V E P D c R n (xk_sI K 10 5 (46 + 2 * i + B) (nI k)) (xm_s M 13 i (nI k)) := by
  obtain ⟨x0, o0, c0, l0, ⟨t1, t2, t3⟩, u0, b0, L0, T0, U0, m0, q0, y0, dq, dy, s0, g0, e0, n0⟩ := h
  refine ⟨x0, o0, c0, l0, ⟨t1, t2, fun j hj => ?_⟩, u0, b0, L0, fun j hj => ?_, U0, m0, q0, y0, dq, dy, s0, g0, e0, n0⟩
  · obtain ⟨e1, e2, e3, e4, e5, e6⟩ := t3 j hj
    exact ⟨e1, e2, e3, e4, e5, up_eq (by omega) e6⟩
  · obtain ⟨z1, z2, z3, z4, n1, z5, z6, z7, z8, z9, z10⟩ := T0 j hj
    by_cases q : j = i
    · subst q
      by_cases hb : n1 < 2 ^ 31
      · have : n1 = k + 1 := (nI_eq hb (by omega)).mp (z7.symm.trans hk)
        subst this
        exact ⟨z1, z2, z3, z4, k, by omega, by omega, ms_at _ _ _ _, fun x hx => z8 x (by omega), fun x hx => z9 x (by omega), fun x y h1 h2 => z10 x y h1 (by omega)⟩
      · exact ⟨z1, z2, z3, z4, k, by omega, by omega, ms_at _ _ _ _, fun x hx => z8 x (by omega), fun x hx => z9 x (by omega), fun x y h1 h2 => z10 x y h1 (by omega)⟩
    · refine ⟨z1, z2, z3, z4, n1, z5, z6, ?_, z8, z9, z10⟩
      rw [ms_ne q]
      exact z7
def tk_M (M : xm) (i k src : Nat) (v ow : Int32) : xm := xm_s (cb_L (xm_s (xm_s (xm_s M 13 i (nI (k + 1))) 14 (128 * i + k) v) 15 (128 * i + k) ow) 8 src 16 (128 * i + k) 8) 12 i v
theorem i32_le_trans {a b c : Int32} (h : a ≤ b) (g : b < c) : a < c := by
  rw [Int32.le_iff_toInt_le] at h
  rw [Int32.lt_iff_toInt_lt] at g ⊢
  omega
theorem i32_lt_le {a b : Int32} (h : a < b) : a ≤ b := by
  rw [Int32.lt_iff_toInt_lt] at h
  rw [Int32.le_iff_toInt_le]
  omega
theorem i32_le_rf (a : Int32) : a ≤ a := by
  rw [Int32.le_iff_toInt_le]
  omega
/-- a storage keeps a record, and is at its version -/
theorem st_tk {i k src a : Nat} {v b mk : Int32} (h : iA B fz V E P D c R n K M) (hn : n < 512) (hi : i < 2) (hk : M 13 i = nI k) (hk100 : k < 100) (he : en K fz V a v b mk (fun x => M 8 (8 * src + x))) (hv : M 12 i < v) :
    iA B fz V E (P + 1) D c R (n + 1) (xk_sI (xk_sI (xk_tR K (47 + 2 * i + B) k (some a)) 10 5 (46 + 2 * i + B) (nI (k + 1))) 10 3 (46 + 2 * i + B) v) (tk_M M i k src v (mk &&& (if i = 0 then 15 else 240))) := by
  obtain ⟨x0, o0, c0, l0, t0, u0, b0, L0, T0, U0, m0, q0, y0, dq, dy, s0, g0, e0, n0⟩ := id h
  have k47 : xk_kd K (47 + 2 * i + B) = 108 := (T0 i hi).2.2.1
  have kn : ∀ z, z ≠ 108 → xk_kd K (47 + 2 * i + B) ≠ z := fun z hz => by rw [k47]; exact fun q => hz q.symm
  obtain ⟨w1, w2, w3, w4, w5, w6, w7, w8, w9, w10, w11, w12, w13, w14⟩ := wa_all (b0 := 47 + 2 * i + B) (α := xk_ar (xk_tR K (47 + 2 * i + B) k (some a))) h (fun b j hb => by rw [tR_get, if_neg (fun z => hb z.1)])
  have t1 := w3 (kn _ (by decide))
  generalize hw : (mk &&& (if i = 0 then 15 else 240)) = ow
  have g2 : ∀ x, tk_M M i k src v ow 12 x = if x = i then v else M 12 x := fun x => by
    unfold tk_M
    rw [ms_at']
    by_cases z : x = i
    · rw [if_pos z, if_pos z]
    · rw [if_neg z, if_neg z]; rfl
  have g3 : ∀ x, tk_M M i k src v ow 13 x = if x = i then nI (k + 1) else M 13 x := fun x => ms_at' M 13 i x _
  have g4 : ∀ x, tk_M M i k src v ow 14 x = if x = 128 * i + k then v else M 14 x := fun x => ms_at' _ 14 _ x _
  have g5 : ∀ x, tk_M M i k src v ow 15 x = if x = 128 * i + k then ow else M 15 x := fun x => ms_at' _ 15 _ x _
  have g6 : ∀ x, tk_M M i k src v ow 16 x = if 8 * (128 * i + k) ≤ x ∧ x < 8 * (128 * i + k) + 8 then M 8 (8 * src + (x - 8 * (128 * i + k))) else M 16 x := fun x => by
    show cb_L (xm_s (xm_s (xm_s M 13 i (nI (k + 1))) 14 (128 * i + k) v) 15 (128 * i + k) ow) 8 src 16 (128 * i + k) 8 16 x = _
    rw [cb_get]
    by_cases q : 8 * (128 * i + k) ≤ x ∧ x < 8 * (128 * i + k) + 8
    · rw [if_pos ⟨rfl, q⟩, if_pos q]; rfl
    · rw [if_neg (fun y => q y.2), if_neg q]; rfl
  refine ⟨w11, w12, w1 (kn _ (by decide)), w2 (kn _ (by decide)), ⟨t1.1, t1.2.1, fun j hj => ?_⟩, w4 (kn _ (by decide)), b0, fun j hj => ?_, fun j hj => ?_, w13, w7 (kn _ (by decide)), (w8 (kn _ (by decide)) (kn _ (by decide))).1, (w9 (kn _ (by decide)) (kn _ (by decide))).1, (w8 (kn _ (by decide)) (kn _ (by decide))).2, (w9 (kn _ (by decide)) (kn _ (by decide))).2, w10 (kn _ (by decide)), w14, e0, ?_⟩
  · obtain ⟨e1, e2, e3, e4, e5, e6⟩ := t1.2.2 j hj
    have e5' : xk_iv (xk_sI (xk_tR K (47 + 2 * i + B) k (some a)) 10 5 (46 + 2 * i + B) (nI (k + 1))) 10 3 (46 + 2 * j + B) = cb_L (xm_s (xm_s (xm_s M 13 i (nI (k + 1))) 14 (128 * i + k) v) 15 (128 * i + k) ow) 8 src 16 (128 * i + k) 8 12 j := e5
    have e6' : xk_iv (xk_sI (xk_tR K (47 + 2 * i + B) k (some a)) 10 5 (46 + 2 * i + B) (nI (k + 1))) 10 5 (46 + 2 * j + B) = xm_s M 13 i (nI (k + 1)) 13 j := up_eq (by omega) e6
    exact ⟨e1, e2, e3, e4, up_eq (by omega) e5', e6'⟩
  · obtain ⟨z1, z2, z3, z4, z5, z6, z7, n1, z8, z9, z10⟩ := L0 j hj
    refine ⟨z1, z2, z3, z4, z5, z6, z7, n1, z8, z9, fun x hx => ?_⟩
    obtain ⟨a', b', y1, y2⟩ := z10 x hx
    refine ⟨a', b', ?_, y2⟩
    show xk_ar (xk_tR K (47 + 2 * i + B) k (some a)) (39 + 3 * j + B) x = some a'
    rw [tR_get, if_neg (fun z => by omega)]
    exact y1
  · obtain ⟨z1, z2, z3, z4, n1, z5, z6, z7, z8, z9, z10⟩ := T0 j hj
    by_cases q : j = i
    · subst q
      have hV : n1 < 2 ^ 31 := by
        have := jT_100 n0 hn z5 z6
        omega
      have : n1 = k := (nI_eq hV (by omega)).mp (z7.symm.trans hk)
      subst this
      have f14 : ∀ x, x < n1 → tk_M M j n1 src v ow 14 (128 * j + x) = M 14 (128 * j + x) := fun x hx => by rw [g4, if_neg (by omega)]
      have f14n : tk_M M j n1 src v ow 14 (128 * j + n1) = v := by rw [g4, if_pos rfl]
      have inc : ∀ x y, x < y → y < n1 + 1 → tk_M M j n1 src v ow 14 (128 * j + x) < tk_M M j n1 src v ow 14 (128 * j + y) := fun x y hxy hy => by
        rw [f14 x (by omega)]
        by_cases hy' : y = n1
        · subst hy'
          rw [f14n]
          exact i32_le_trans (z9 x hxy) hv
        · rw [f14 y (by omega)]
          exact z10 x y hxy (by omega)
      have ent : ∀ x, x < n1 + 1 → ∃ a' b' m', xk_ar (xk_tR K (47 + 2 * j + B) n1 (some a)) (47 + 2 * j + B) x = some a' ∧ tk_M M j n1 src v ow 15 (128 * j + x) = (m' &&& (if j = 0 then 15 else 240)) ∧ en K fz V a' (tk_M M j n1 src v ow 14 (128 * j + x)) b' m' (fun y => tk_M M j n1 src v ow 16 (8 * (128 * j + x) + y)) := fun x hx => by
        by_cases hx' : x = n1
        · subst hx'
          refine ⟨a, b, mk, ?_, ?_, ?_⟩
          · rw [tR_get, if_pos ⟨rfl, rfl⟩]
          · rw [g5, if_pos rfl]; exact hw.symm
          · rw [f14n]
            refine en_cg he (fun y hy => ?_)
            rw [g6, if_pos (by omega), Nat.add_sub_cancel_left]
        · obtain ⟨a', b', m', y1, y2, y3⟩ := z8 x (by omega)
          refine ⟨a', b', m', ?_, ?_, ?_⟩
          · rw [tR_get, if_neg (fun z => hx' z.2)]; exact y1
          · rw [g5, if_neg (by omega)]; exact y2
          · rw [f14 x (by omega)]
            refine en_cg y3 (fun y hy => ?_)
            rw [g6, if_neg (by omega)]
      refine ⟨z1, z2, z3, z4, n1 + 1, by omega, pig (f := fun x => tk_M M j n1 src v ow 14 (128 * j + x)) (n1 + 1) V (fun x hx => ?_) inc, by rw [g3, if_pos rfl], ent, fun x hx => ?_, inc⟩
      · obtain ⟨a', b', m', -, -, y3⟩ := ent x hx
        exact y3.2.2.2.1
      · rw [g2, if_pos rfl]
        by_cases hx' : x = n1
        · subst hx'
          rw [f14n]
          exact i32_le_rf _
        · rw [f14 x (by omega)]
          exact i32_lt_le (i32_le_trans (z9 x (by omega)) hv)
    · have hn1 : n1 < 100 := jT_100 n0 hn z5 z6
      have f14 : ∀ x, x < n1 → tk_M M i k src v ow 14 (128 * j + x) = M 14 (128 * j + x) := fun x hx => by rw [g4, if_neg (by omega)]
      refine ⟨z1, z2, z3, z4, n1, by omega, z6, by rw [g3, if_neg q]; exact z7, fun x hx => ?_, fun x hx => ?_, fun x y hxy hy => ?_⟩
      · obtain ⟨a', b', m', y1, y2, y3⟩ := z8 x hx
        refine ⟨a', b', m', ?_, ?_, ?_⟩
        · show xk_ar (xk_tR K (47 + 2 * i + B) k (some a)) (47 + 2 * j + B) x = some a'
          rw [tR_get, if_neg (fun z => by omega)]; exact y1
        · rw [g5, if_neg (by omega)]; exact y2
        · rw [f14 x hx]
          refine en_cg (K := K) (by exact y3) (fun y hy => ?_)
          rw [g6, if_neg (by omega)]
      · rw [f14 x hx, g2, if_neg q]
        exact z9 x hx
      · rw [f14 x (by omega), f14 y hy]
        exact z10 x y hxy hy
  · unfold jN at n0 ⊢
    show 5 * V.length + (P + 1) + (ph (M 40 0) (M 44 0) + ph (M 40 1) (M 44 1) + ph (M 40 2) (M 44 2)) + 4 * cN (M 48) c ≤ n + 1
    omega
end
section
variable {B : Nat} {fz : Nat → Prop} {V : List Int32} {E P : Nat} {c : Nat} {R : Nat → Nat} {n : Nat} {K : xk} {M : xm}
theorem i32_nle {a b : Int32} (h : ¬ a ≤ b) : b < a := by
  rw [Int32.le_iff_toInt_le] at h
  rw [Int32.lt_iff_toInt_lt]
  omega
theorem i32_nlt {a b : Int32} (h : ¬ a < b) : b ≤ a := by
  rw [Int32.lt_iff_toInt_lt] at h
  rw [Int32.le_iff_toInt_le]
  omega
theorem i32_lt_nle {a b : Int32} (h : a < b) : ¬ b ≤ a := by
  rw [Int32.lt_iff_toInt_lt] at h
  rw [Int32.le_iff_toInt_le]
  omega
theorem i32_ltle {a b c : Int32} (h : a < b) (g : b ≤ c) : a ≤ c := by
  rw [Int32.le_iff_toInt_le] at g ⊢
  rw [Int32.lt_iff_toInt_lt] at h
  omega
theorem jT_cnt (h : iA B fz V E P (fun _ => 0) c R n K M) (hn : n < 512) {i : Nat} (hi : i < 2) : ∃ k, k < 100 ∧ M 13 i = nI k ∧ ∀ k', M 13 i = nI k' → k' ≤ P → k' = k := by
  obtain ⟨x0, o0, c0, l0, t0, u0, b0, L0, T0, U0, m0, q0, y0, dq, dy, s0, g0, e0, n0⟩ := h
  obtain ⟨z1, z2, z3, z4, n1, z5, z6, z7, -⟩ := T0 i hi
  have h1 := jT_100 n0 hn z5 z6
  refine ⟨n1, h1, z7, fun k' hk' hP => (nI_eq ?_ (by omega)).mp (hk'.symm.trans z7)⟩
  unfold jN at n0
  omega
theorem gb_loop {s l : Nat} {b : Int32} (hs : s < 2) (hn : n < 512) : ∀ (k m : Nat) (K : xk) (M : xm), iA B fz V E P (fun _ => 0) c R n K M → M 13 s = nI k → k < 100 → k < m →
    ∃ K' M', kf_Storage_goBackTo_90000 m K (46 + 2 * s + B) b = kf_Storage_goBackTo_38 K' (46 + 2 * s + B) b ∧ kf_EM_join_19 m M (nI s) (nI l) b = kf_EM_join_64 M' (nI s) (nI l) b ∧ iA B fz V E P (fun _ => 0) c R n K' M' ∧ (∀ f, f ≠ 13 → M' f = M f) ∧ ∃ k', k' < 100 ∧ M' 13 s = nI k' ∧ ∀ j, j < k' → M' 14 (128 * s + j) ≤ b := by
  intro k
  induction k with
  | zero =>
    intro m K M h hk hk100 hm
    obtain ⟨m, rfl⟩ : ∃ m', m = m' + 1 := ⟨m - 1, by omega⟩
    obtain ⟨x0, o0, c0, l0, t0, u0, b0, L0, T0, U0, m0, q0, y0, dq, dy, s0, g0, e0, n0⟩ := id h
    obtain ⟨f1, f2, f3, f4, f5, f6⟩ := t0.2.2 s hs
    refine ⟨K, M, ?_, ?_, h, fun _ _ => rfl, 0, by omega, hk, fun j hj => by omega⟩
    · show kb_Storage_goBackTo_90000 (kf_Storage_goBackTo_90000 m) K (46 + 2 * s + B) b = _
      unfold kb_Storage_goBackTo_90000
      rw [xI_at f2 (f6.trans hk), xb_some, if_pos (show nI 0 ≤ 0 by decide)]
    · show kb_EM_join_19 (kf_EM_join_19 m) M (nI s) (nI l) b = _
      unfold kb_EM_join_19
      rw [xMi_at hs (by decide) hk, xb_some, if_pos (show nI 0 ≤ 0 by decide)]
  | succ k ih =>
    intro m K M h hk hk100 hm
    obtain ⟨m, rfl⟩ : ∃ m', m = m' + 1 := ⟨m - 1, by omega⟩
    obtain ⟨x0, o0, c0, l0, t0, u0, b0, L0, T0, U0, m0, q0, y0, dq, dy, s0, g0, e0, n0⟩ := id h
    obtain ⟨f1, f2, f3, f4, f5, f6⟩ := t0.2.2 s hs
    obtain ⟨z1, z2, z3, z4, n1, z5, z6, z7, z8, z9, z10⟩ := T0 s hs
    have : n1 = k + 1 := (nI_eq (by have := jT_100 n0 hn z5 z6; omega) (by omega)).mp (z7.symm.trans hk)
    subst this
    obtain ⟨a, b', mk, y1, y2, y3⟩ := z8 k (by omega)
    have ix : (128 : Int32) * nI s + nI (k + 1) - 1 = nI (128 * s + k) := by
      show nI 128 * nI s + nI (k + 1) - 1 = _
      rw [pk_mul, nI_add, show 128 * s + (k + 1) = 128 * s + k + 1 by omega, nI_pred]
    have b256 : 128 * s + k < 256 := by omega
    have f6' : xk_iv K 10 5 (46 + 2 * s + B) = nI (k + 1) := f6.trans hk
    have m13 : xMi M 13 (nI s) = some (nI (k + 1)) := xMi_at hs (by decide) hk
    have ek : kf_Storage_goBackTo_90000 (m + 1) K (46 + 2 * s + B) b = if M 14 (128 * s + k) ≤ b then kf_Storage_goBackTo_38 K (46 + 2 * s + B) b else kf_Storage_goBackTo_90000 m (xk_sI K 10 5 (46 + 2 * s + B) (nI k)) (46 + 2 * s + B) b := by
      show kb_Storage_goBackTo_90000 (kf_Storage_goBackTo_90000 m) K (46 + 2 * s + B) b = _
      unfold kb_Storage_goBackTo_90000
      rw [xI_at f2 f6', xb_some, if_neg (nI_nle (by omega) (by omega)), xR_at f2 z2, xb_some, xb_some, xb_some, nI_pred, xRa_ok z3 z4 (by omega) (by decide), y1, xb_some, xb_some, xI_at y3.1 y3.2.1, xb_some, xb_some, nI_pred, xIs_ok f2, xb_some]
    have em : kf_EM_join_19 (m + 1) M (nI s) (nI l) b = if M 14 (128 * s + k) ≤ b then kf_EM_join_64 M (nI s) (nI l) b else kf_EM_join_19 m (xm_s M 13 s (nI k)) (nI s) (nI l) b := by
      show kb_EM_join_19 (kf_EM_join_19 m) M (nI s) (nI l) b = _
      unfold kb_EM_join_19 kf_EM_join_61
      rw [m13, xb_some, if_neg (nI_nle (by omega) (by omega)), xb_some, ix, xMi_ok b256 (by decide), xb_some, xb_some, nI_pred, xMt_ok hs (by decide), xb_some]
    rw [ek, em]
    by_cases hb : M 14 (128 * s + k) ≤ b
    · rw [if_pos hb, if_pos hb]
      refine ⟨K, M, rfl, rfl, h, fun _ _ => rfl, k + 1, by omega, hk, fun j hj => ?_⟩
      by_cases q : j = k
      · rw [q]; exact hb
      · exact i32_ltle (z10 j k (by omega) (by omega)) hb
    · rw [if_neg hb, if_neg hb]
      obtain ⟨K', M', p1, p2, p3, p4, p5⟩ := ih m _ _ (st_tc h hs hk (by omega)) (ms_at _ _ _ _) (by omega) (by omega)
      refine ⟨K', M', p1, p2, p3, fun f hf => (p4 f hf).trans ?_, p5⟩
      funext j
      rw [ms_get, if_neg (fun z => hf z.1)]
theorem sc_l {s l nn : Nat} {v : Int32} (h : iA B fz V E P (fun _ => 0) c R n K M) (hs : s < 2) (hl : l < 3) (hn : M 5 l = nI nn) (hnn : nn ≤ 100) (hv : M 12 s = v) : ∀ d j m, j + d = nn → d < m →
    (kf_Log_firstAbove_2 m K (37 + 3 * l + B) v (nI j) = some (none, K) ∧ kf_EM_pull_89 m M (nI s) (nI l) (nI (100 * l + j)) (nI (100 * l + nn)) = kf_EM_pull_116 M (nI s) (nI l) (nI (100 * l + nn)) (nI (100 * l + nn))) ∨
    ∃ p a b, p < nn ∧ xk_ar K (39 + 3 * l + B) p = some a ∧ v < M 6 (100 * l + p) ∧ en K fz V a (M 6 (100 * l + p)) b (M 7 (100 * l + p)) (fun x => M 8 (8 * (100 * l + p) + x)) ∧ kf_Log_firstAbove_2 m K (37 + 3 * l + B) v (nI j) = some (some a, K) ∧ kf_EM_pull_89 m M (nI s) (nI l) (nI (100 * l + j)) (nI (100 * l + nn)) = kf_EM_pull_116 M (nI s) (nI l) (nI (100 * l + p)) (nI (100 * l + nn)) := by
  obtain ⟨x0, o0, c0, l0, t0, u0, b0, L0, T0, U0, m0, q0, y0, dq, dy, s0, g0, e0, n0⟩ := id h
  obtain ⟨f1, f2, f3, f4, f5, f6, f7⟩ := l0.2.2 l hl
  obtain ⟨z1, z2, z3, z4, z5, z6, z7, n1, z8, z9, z10⟩ := L0 l hl
  have : n1 = nn := (nI_eq (by omega) (by omega)).mp (z9.symm.trans hn)
  subst this
  have f7' : xk_iv K 9 6 (37 + 3 * l + B) = nI n1 := f7.trans hn
  intro d
  induction d with
  | zero =>
    intro j m hj hm
    obtain ⟨m, rfl⟩ : ∃ m', m = m' + 1 := ⟨m - 1, by omega⟩
    have : j = n1 := by omega
    subst this
    refine Or.inl ⟨?_, ?_⟩
    · show kb_Log_firstAbove_2 (kf_Log_firstAbove_2 m) K (37 + 3 * l + B) v (nI j) = _
      unfold kb_Log_firstAbove_2
      rw [xI_at f2 f7', xb_some, if_pos (nI_le (Nat.le_refl _) (by omega))]
    · show kb_EM_pull_89 (kf_EM_pull_89 m) M (nI s) (nI l) (nI (100 * l + j)) (nI (100 * l + j)) = _
      unfold kb_EM_pull_89
      rw [if_pos (nI_le (Nat.le_refl _) (by omega))]
  | succ d ih =>
    intro j m hj hm
    obtain ⟨m, rfl⟩ : ∃ m', m = m' + 1 := ⟨m - 1, by omega⟩
    obtain ⟨a, b, y1, y2⟩ := z10 j (by omega)
    have b300 : 100 * l + j < 300 := by omega
    have ek : kf_Log_firstAbove_2 (m + 1) K (37 + 3 * l + B) v (nI j) = if M 6 (100 * l + j) ≤ v then kf_Log_firstAbove_2 m K (37 + 3 * l + B) v (nI (j + 1)) else some (some a, K) := by
      show kb_Log_firstAbove_2 (kf_Log_firstAbove_2 m) K (37 + 3 * l + B) v (nI j) = _
      unfold kb_Log_firstAbove_2
      have ra : xRa K 8 (39 + 3 * l + B) (nI j) = some (some a) := by rw [xRa_ok z6 z7 (by omega) (by decide), y1]
      rw [xI_at f2 f7', xb_some, if_neg (nI_ge (by omega) (by omega)), xR_at f2 z2]
      simp only [xb_some, ra]
      rw [xI_at y2.1 y2.2.1, xb_some, nI_1]
    have em : kf_EM_pull_89 (m + 1) M (nI s) (nI l) (nI (100 * l + j)) (nI (100 * l + n1)) = if v < M 6 (100 * l + j) then kf_EM_pull_116 M (nI s) (nI l) (nI (100 * l + j)) (nI (100 * l + n1)) else kf_EM_pull_89 m M (nI s) (nI l) (nI (100 * l + (j + 1))) (nI (100 * l + n1)) := by
      show kb_EM_pull_89 (kf_EM_pull_89 m) M (nI s) (nI l) (nI (100 * l + j)) (nI (100 * l + n1)) = _
      unfold kb_EM_pull_89
      rw [if_neg (nI_ge (by omega) (by omega)), xMi_ok b300 (by decide), xb_some, xMi_at hs (by decide) hv, xb_some, nI_1]
      rfl
    rw [ek, em]
    by_cases hx : M 6 (100 * l + j) ≤ v
    · rw [if_pos hx, if_neg (fun z => i32_lt_nle z hx)]
      exact ih (j + 1) m (by omega) (by omega)
    · rw [if_neg hx, if_pos (i32_nle hx)]
      exact Or.inr ⟨j, a, b, by omega, y1, i32_nle hx, y2, rfl, rfl⟩
theorem kp_loop {N : xm} {src q : Nat} (hs : src < 300) (hq : q < 256) : ∀ (d x m : Nat), x + d = 8 → d < m → kf_EM_keep_72 m (cb_L N 8 src 16 q x) (nI src) (nI q) (nI x) = some (cb_L N 8 src 16 q 8) := by
  intro d
  induction d with
  | zero =>
    intro x m hx hm
    obtain ⟨m, rfl⟩ : ∃ m', m = m' + 1 := ⟨m - 1, by omega⟩
    have : x = 8 := by omega
    subst this
    show kb_EM_keep_72 (kf_EM_keep_72 m) _ _ _ (nI 8) = _
    unfold kb_EM_keep_72
    rw [if_pos (show (8 : Int32) ≤ nI 8 from nI_le (a := 8) (b := 8) (Nat.le_refl _) (by decide))]
  | succ d ih =>
    intro x m hx hm
    obtain ⟨m, rfl⟩ : ∃ m', m = m' + 1 := ⟨m - 1, by omega⟩
    show kb_EM_keep_72 (kf_EM_keep_72 m) _ _ _ (nI x) = _
    unfold kb_EM_keep_72
    rw [if_neg (show ¬ (8 : Int32) ≤ nI x from nI_ge (a := x) (b := 8) (by omega) (by decide)), ix_8, xMi_ok (by show 8 * src + x < 2400; omega) (by decide), xb_some, ix_8, xMt_ok (by show 8 * q + x < 2048; omega) (by decide), xb_some, nI_1, cb_src (by decide), cb_step]
    exact ih (x + 1) m (by omega) (by omega)
theorem adv {s l : Nat} (h : iA B fz V E P (fun _ => 0) c R n K M) (hn : n < 512) (hs : s < 2) (hl : l < 3) :
    ∃ r K' M', kf_Storage_advanceFrom_61 K (46 + 2 * s + B) (37 + 3 * l + B) = some (r, K') ∧ kf_EM_pull_74 M (nI s) (nI l) = some (r, M') ∧ iV B (n + 1) K' M' := by
  obtain ⟨x0, o0, c0, l0, t0, u0, b0, L0, T0, U0, m0, q0, y0, dq, dy, s0, g0, e0, n0⟩ := id h
  obtain ⟨f1, f2, f3, f4, f5, f6⟩ := t0.2.2 s hs
  obtain ⟨h1, h2, h3, h4, h5, h6, h7⟩ := l0.2.2 l hl
  obtain ⟨z1, z2, z3, z4, z5, z6, z7, nn, z8, z9, z10⟩ := L0 l hl
  obtain ⟨t1, t2, t3, t4, k, t5, t6, t7, t8, t9, t10⟩ := T0 s hs
  have k100 := jT_100 n0 hn t5 t6
  have i100 : (100 : Int32) * nI l = nI (100 * l + 0) := pk_mul 100 l
  unfold kf_Storage_advanceFrom_61 kf_EM_pull_74 kf_Log_firstAbove_0
  rw [xI_at f2 f5, xb_some, xO_ok h2, xb_some, xMi_at hl (by decide) z9, xb_some, i100, nI_add, show 100 * l + 0 + nn = 100 * l + nn by omega]
  have hsc := sc_l h hs hl z9 z8 rfl nn 0 1000 (by omega) (by omega)
  have same : ∀ v : Int32, (∀ k', M 13 s = nI k' → k' ≤ P → ∀ j, j < k' → M 14 (128 * s + j) ≤ v) → iA B fz V E P (fun _ => 0) c R n (xk_sI K 10 3 (46 + 2 * s + B) v) (xm_s M 12 s v) := fun v hv => st_t3 h hs hv
  have cnt : ∀ k', M 13 s = nI k' → k' ≤ P → k' = k := fun k' hk' hP => (nI_eq (by unfold jN at n0; omega) (by omega)).mp (hk'.symm.trans t7)
  rcases hsc with ⟨p1, p2⟩ | ⟨p, a, b, hp, pa, pv, pe, p1, p2⟩
  · have p1' : kf_Log_firstAbove_2 1000 K (37 + 3 * l + B) (M 12 s) 0 = some (none, K) := p1
    rw [p1', p2, xp_some, if_pos rfl, xI_at f2 f5, xb_some, xI_at h2 h6, xb_some, xIs_ok f2, xb_some, xI_at (by exact f2) (sI_at _ _ _ _ _), xb_some]
    unfold kf_EM_pull_116 kf_EM_pull_158
    have m4 : xMi M 4 (nI l) = some (M 4 l) := xMi_ok hl (by decide)
    have m12 : xMi M 12 (nI s) = some (M 12 s) := xMi_ok hs (by decide)
    rw [if_pos (nI_le (Nat.le_refl _) (by omega)), m4, m12]
    simp only [xb_some]
    by_cases he : M 4 l ≤ M 12 s
    · rw [if_neg (fun z => i32_lt_nle z he), if_pos he]
      refine ⟨_, _, _, rfl, rfl, fz, V, E, P, c, R, ?_⟩
      have := same (M 12 s) (fun k' hk' hP j hj => by rw [cnt k' hk' hP] at hj; exact t9 j hj)
      rw [xm_same rfl] at this
      exact iA_mono this (by omega)
    · have he' := i32_nle he
      rw [if_pos he', if_neg he, xMt_ok hs (by decide), xb_some, xMi_at hs (by decide) (ms_at _ _ _ _), xb_some]
      refine ⟨_, _, _, rfl, rfl, fz, V, E, P, c, R, ?_⟩
      exact iA_mono (same (M 4 l) (fun k' hk' hP j hj => by rw [cnt k' hk' hP] at hj; exact i32_lt_le (i32_le_trans (t9 j hj) he'))) (by omega)
  · have p1' : kf_Log_firstAbove_2 1000 K (37 + 3 * l + B) (M 12 s) 0 = some (some a, K) := p1
    obtain ⟨a1, a2, a3, a4, w, a5, a6, a7⟩ := id pe
    have b300 : 100 * l + p < 300 := by omega
    have m7 : xMi M 7 (nI (100 * l + p)) = some (M 7 (100 * l + p)) := xMi_ok b300 (by decide)
    have f6' : xk_iv K 10 5 (46 + 2 * s + B) = nI k := f6.trans t7
    rw [p1', p2, xp_some, if_neg (fun z => by cases z), xb_some, xO_ok f2, xb_some]
    unfold kf_Storage_keep_0 kf_EM_pull_116 kf_EM_keep_0
    rw [if_neg (nI_ge (by omega) (by omega)), xR_at a1 a5, xb_some, xb_some, xI_at a7.1 a7.2.1, xb_some, xI_at f2 t1, xb_some, m7, xb_some]
    have hkeep : (if nI s = 0 then kf_EM_keep_18 M (nI s) (nI (100 * l + p)) 15 (M 7 (100 * l + p)) else kf_EM_keep_18 M (nI s) (nI (100 * l + p)) 240 (M 7 (100 * l + p))) = kf_EM_keep_18 M (nI s) (nI (100 * l + p)) (if s = 0 then 15 else 240) (M 7 (100 * l + p)) := by
      by_cases q : s = 0
      · rw [if_pos q, q, if_pos (by decide)]
      · rw [if_neg q, if_neg (show ¬ nI s = (0 : Int32) from fun z => q ((nI_eq (a := s) (b := 0) (by omega) (by decide)).mp z))]
    rw [hkeep]
    unfold kf_EM_keep_18
    by_cases ho : (M 7 (100 * l + p) &&& (if s = 0 then 15 else 240)) = 0
    · have m6 : xMi M 6 (nI (100 * l + p)) = some (M 6 (100 * l + p)) := xMi_ok b300 (by decide)
      rw [if_pos ho, if_pos ho, xb_some, xI_at a1 a2, xb_some, xIs_ok f2, xb_some, xI_at (by exact f2) (sI_at _ _ _ _ _), xb_some, xb_some, m6, xb_some, xMt_ok hs (by decide), xb_some, xMi_at hs (by decide) (ms_at _ _ _ _), xb_some]
      refine ⟨_, _, _, rfl, rfl, fz, V, E, P, c, R, ?_⟩
      exact iA_mono (same _ (fun k' hk' hP j hj => by rw [cnt k' hk' hP] at hj; exact i32_lt_le (i32_le_trans (t9 j hj) pv))) (by omega)
    · have c100 : ¬ (100 : Int32) ≤ nI k := nI_ge (a := k) (b := 100) k100 (by decide)
      have hB := st_tk (src := 100 * l + p) h hn hs t7 k100 pe pv
      have i7 : xI (xk_tR K (47 + 2 * s + B) k (some a)) 10 5 (46 + 2 * s + B) = some (nI k) := xI_at f2 f6'
      have i30 : xI (xk_sI (xk_tR K (47 + 2 * s + B) k (some a)) 10 5 (46 + 2 * s + B) (nI (k + 1))) 3 0 a = some (M 6 (100 * l + p)) := xI_at a1 a2
      have m13 : xMi M 13 (nI s) = some (nI k) := xMi_at hs (by decide) t7
      have m6 : xMi (xm_s M 13 s (nI (k + 1))) 6 (nI (100 * l + p)) = some (M 6 (100 * l + p)) := xMi_ok b300 (by decide)
      have ix : (128 : Int32) * nI s + nI k = nI (128 * s + k) := by
        show nI 128 * nI s + nI k = _
        rw [pk_mul, nI_add]
      have b256 : 128 * s + k < 256 := by omega
      rw [if_neg ho, if_neg ho, xI_at f2 f6', xb_some, if_neg c100, xR_at f2 t2, xb_some, xb_some, xb_some, xRt_ok t3 t4 k100 (by decide) (by exact a1), xb_some, i7, xb_some, nI_1, xIs_ok (by exact f2), xb_some, xb_some, i30, xb_some, xIs_ok (by exact f2), xb_some, xI_at (by exact f2) (sI_at _ _ _ _ _), xb_some, m13]
      simp only [xb_some]
      rw [nI_1, xMt_ok hs (by decide), xb_some, m6, xb_some, ix, xMt_ok b256 (by decide), xb_some]
      unfold kf_EM_keep_61
      rw [xMt_ok b256 (by decide), xb_some]
      have hl' := kp_loop (N := xm_s (xm_s (xm_s M 13 s (nI (k + 1))) 14 (128 * s + k) (M 6 (100 * l + p))) 15 (128 * s + k) (M 7 (100 * l + p) &&& (if s = 0 then 15 else 240))) (src := 100 * l + p) (q := 128 * s + k) b300 b256 8 0 1000 (by omega) (by omega)
      rw [cb_0] at hl'
      have hl2 : kf_EM_keep_72 1000 (xm_s (xm_s (xm_s M 13 s (nI (k + 1))) 14 (128 * s + k) (M 6 (100 * l + p))) 15 (128 * s + k) (M 7 (100 * l + p) &&& (if s = 0 then 15 else 240))) (nI (100 * l + p)) (nI (128 * s + k)) 0 = some (cb_L (xm_s (xm_s (xm_s M 13 s (nI (k + 1))) 14 (128 * s + k) (M 6 (100 * l + p))) 15 (128 * s + k) (M 7 (100 * l + p) &&& (if s = 0 then 15 else 240))) 8 (100 * l + p) 16 (128 * s + k) 8) := hl'
      have g6 : xMi (cb_L (xm_s (xm_s (xm_s M 13 s (nI (k + 1))) 14 (128 * s + k) (M 6 (100 * l + p))) 15 (128 * s + k) (M 7 (100 * l + p) &&& (if s = 0 then 15 else 240))) 8 (100 * l + p) 16 (128 * s + k) 8) 6 (nI (100 * l + p)) = some (M 6 (100 * l + p)) := xMi_ok b300 (by decide)
      rw [hl2, xb_some, g6, xb_some, xMt_ok hs (by decide), xb_some, xMi_at hs (by decide) (ms_at _ _ _ _), xb_some]
      exact ⟨_, _, _, rfl, rfl, fz, V, E, P + 1, c, R, hB⟩
theorem kp_pull (B : Nat) : lo_s14 (iV B) B := fun n K M a b hn h => by
  obtain ⟨fz, V, E, P, c, R, hA⟩ := id h
  obtain ⟨x0, o0, c0, l0, t0, u0, b0, L0, T0, U0, m0, q0, y0, dq, dy, s0, g0, e0, n0⟩ := id hA
  have h10 : ¬ (1 : Int32) = 0 := by decide
  have no : ∀ r : Int32, iV B (n + 1) K M := fun _ => iV_next h
  unfold kf_ES_pull_0 kf_EM_pull_0 kf_ES_isStorage_0 kf_ES_isLog_0 kf_EM_pull_51
  rcases pi_2 a with h | ⟨h1, h2, h3, h4⟩ | ⟨s, hs, rfl, h1, h2, h3, h4⟩
  · exact ⟨-1, K, M, by simp [h, xp_some], by simp [h], no 0⟩
  · exact ⟨-1, K, M, by simp [h1, h2, xp_some], by simp [h1, h3], no 0⟩
  · rcases pi_3 b with h | ⟨g1, g2, g3, g4⟩ | ⟨l, hl, rfl, g1, g2, g3, g4⟩
    · exact ⟨-1, K, M, by simp [h1, h2, h, xp_some], by simp [h1, h3, h], no 0⟩
    · exact ⟨-1, K, M, by simp [h1, h2, g1, g2, xp_some], by simp [h1, h3, g1, g3], no 0⟩
    · obtain ⟨f1, f2, f3, f4, f5, f6⟩ := t0.2.2 s hs
      obtain ⟨k1, k2, k3, k4, k5, k6, k7⟩ := l0.2.2 l hl
      obtain ⟨z1, z2, z3, z4, z5, z6, z7, nn, z8, z9, z10⟩ := L0 l hl
      have m11 : xMi M 11 (nI s) = some (M 11 s) := xMi_ok hs (by decide)
      have m3 : xMi M 3 (nI l) = some (M 3 l) := xMi_ok hl (by decide)
      have m2 : xMi M 2 (nI l) = some (M 2 l) := xMi_ok hl (by decide)
      have m10 : xMi M 10 (nI s) = some (M 10 s) := xMi_ok hs (by decide)
      rw [if_neg h1, if_neg h2, if_neg h1, if_neg h3, xp_some, if_neg h10, if_neg g1, if_neg g2, if_neg g1, if_neg g3, xp_some, if_neg h10, xR_ok o0.1, o0.2.2.2.1, xb_some, xb_some, xRa_ok t0.1 t0.2.1 hs (by decide), f1, xb_some, xR_ok o0.1, o0.2.2.1, xb_some, xb_some, xRa_ok l0.1 l0.2.1 hl (by decide), k1, xb_some, xb_some, xb_some, xO_ok f2, xb_some, m11]
      unfold kf_Storage_advanceFrom_0
      rw [xI_at f2 f3, xb_some, xb_some]
      by_cases hu : M 11 s = 0
      · rw [if_pos hu, if_pos hu, xp_some]
        exact ⟨-1, K, M, rfl, rfl, no 0⟩
      · rw [if_neg hu, if_neg hu, xI_at k2 k4, m3]
        simp only [xb_some]
        by_cases hv : M 3 l = 0
        · rw [if_pos hv, if_pos hv, xp_some]
          exact ⟨-1, K, M, rfl, rfl, no 0⟩
        · rw [if_neg hv, if_neg hv, xI_at k2 k5, xI_at f2 f4, m2, m10]
          simp only [xb_some]
          by_cases hw : M 10 s ≤ M 2 l
          · rw [if_pos hw, if_pos hw]
            by_cases hx : M 2 l ≤ M 10 s
            · rw [if_pos hx, if_pos hx]
              obtain ⟨r, K', M', r1, r2, r3⟩ := adv hA hn hs hl
              rw [r1, r2, xp_some]
              exact ⟨r, K', M', rfl, rfl, r3⟩
            · rw [if_neg hx, if_neg hx]
              obtain ⟨es, es1, es9, es3⟩ := e0.2.2.2.2.2.2.1 s hs
              obtain ⟨el, el1, elE, el3, el4⟩ := e0.2.2.2.2.2.1 l hl
              have E9 := e0.2.1
              have hlt : es < el := by
                have := i32_nle hx
                rw [es3, el3] at this
                exact (nI_ltI (by omega) (by omega)).mp this
              obtain ⟨k, kk, k13, -⟩ := jT_cnt hA hn hs
              obtain ⟨K1, M1, p1, p2, p3, p4, k', pk', p13, ple⟩ := gb_loop (l := l) (b := M 9 (10 * l + (es + 1))) hs hn k 1000 K M hA k13 kk (by omega)
              have ixm : (10 : Int32) * nI l + nI es + 1 = nI (10 * l + (es + 1)) := by
                show nI 10 * nI l + nI es + 1 = _
                rw [pk_mul, nI_add, nI_1]
                rfl
              unfold kf_Storage_goBackTo_0 kf_EM_join_0
              rw [xR_at k2 z1, xb_some, xb_some, es3, nI_1, xIa_ok z3 z4 (by omega) (by decide), xb_some, z5 (es + 1) (by omega), xO_ok f2, xb_some, p1, xMi_at hs (by decide) es3, xb_some, ixm, xMi_ok (by show 10 * l + (es + 1) < 30; omega) (by decide), xb_some, p2]
              obtain ⟨x0', o0', c0', l0', t0', u0', b0', L0', T0', U0', m0', q0', y0', dq', dy', s0', g0', e0', n0'⟩ := id p3
              obtain ⟨v1, v2, v3, v4, v5, v6⟩ := t0'.2.2 s hs
              obtain ⟨w1, w2, w3, w4, w5, w6, w7⟩ := l0'.2.2 l hl
              obtain ⟨t1, t2, t3, t4, kq, t5, t6, t7, t8, t9, t10⟩ := T0' s hs
              have m2' : M1 2 l = nI el := (congrFun (p4 2 (by decide)) l).trans el3
              have kq' : ∀ k2, M1 13 s = nI k2 → k2 ≤ P → k2 = k' := fun k2 h2 hP => (nI_eq (by unfold jN at n0'; omega) (by omega)).mp (h2.symm.trans p13)
              have hkq : kq = k' := kq' kq t7 t5
              generalize M 9 (10 * l + (es + 1)) = bb at ple
              have min_eq : (if bb < M1 12 s then bb else M1 12 s) = if M1 12 s ≤ bb then M1 12 s else bb := by
                by_cases q : M1 12 s ≤ bb
                · rw [if_pos q, if_neg (fun z => i32_lt_nle z q)]
                · rw [if_neg q, if_pos (i32_nle q)]
              have hmin : ∀ k2, M1 13 s = nI k2 → k2 ≤ P → ∀ j, j < k2 → M1 14 (128 * s + j) ≤ (if M1 12 s ≤ bb then M1 12 s else bb) := fun k2 h2 hP j hj => by
                rw [kq' k2 h2 hP] at hj
                by_cases q : M1 12 s ≤ bb
                · rw [if_pos q]; exact t9 j (by omega)
                · rw [if_neg q]; exact ple j hj
              have hB := st_t2 (e := el) (st_t3 (v := if M1 12 s ≤ bb then M1 12 s else bb) p3 hs hmin) hs el1 (by omega)
              have hj89 : kf_EM_join_64 M1 (nI s) (nI l) bb = some (xm_s (xm_s M1 12 s (if M1 12 s ≤ bb then M1 12 s else bb)) 10 s (nI el)) := by
                unfold kf_EM_join_64 kf_EM_join_89
                have n12 : xMi M1 12 (nI s) = some (M1 12 s) := xMi_ok hs (by decide)
                rw [n12]
                simp only [xb_some]
                have n2 : ∀ v, xMi (xm_s M1 12 s v) 2 (nI l) = some (nI el) := fun v => xMi_at hl (by decide) m2'
                by_cases q : M1 12 s ≤ bb
                · rw [if_pos q, if_pos q, xMt_ok hs (by decide), xb_some, n2, xb_some, xMt_ok hs (by decide), xb_some]
                · rw [if_neg q, if_neg q, xMt_ok hs (by decide), xb_some, n2, xb_some, xMt_ok hs (by decide), xb_some]
              rw [hj89, xb_some]
              unfold kf_Storage_goBackTo_38 kf_Storage_advanceFrom_53
              rw [xI_at v2 v5, xb_some, min_eq, xIs_ok v2, xb_some, xb_some, xI_at (v := nI el) (by exact w2) (by exact w5.trans m2'), xb_some, xIs_ok (by exact v2), xb_some]
              obtain ⟨r, K', M', r1, r2, r3⟩ := adv hB hn hs hl
              rw [r1, r2, xp_some]
              exact ⟨r, K', M', rfl, rfl, r3⟩
          · rw [if_neg hw, if_neg hw, xp_some]
            exact ⟨-1, K, M, rfl, rfl, no 0⟩
end
