section LOC
variable {p : Program} {l : Launch} {e : Env} {s : State} {m : MethodId} {below : List Frame} {meth : Method} {c : Code} {H : Heap} {locs : List Loc} {ls : Array Slot} {cells slots : Nat} {Q : State → Prop} {E : xe} {K : xk} {M : xm} {b L o j : Nat} {xs : Nat → Int32}
theorem lo_head (C : xx_C p m c code 4 s #[Value.ref b] Rn_Law E) (X : xx_S E K M s H locs) (hX : va_X b L xs s s.heap) (hbl : b < s.heap.size) (hbA : ¬ xe_A E b) (hl : lv_has ls 4 [(0, .ref b), (1, .ref o), (2, .ref (xe_om E)), (3, .int (nI (4 * j)))]) (hL : L ≤ 2048) (hj : j ≤ 512) (kt : ¬ 4 * j + 4 ≤ L → W p l e room_1 s m #[Value.ref b] below meth c H locs cells slots Q (F0 m 720 ls [])) (kf : 4 * j + 4 ≤ L → W p l e room_1 s m #[Value.ref b] below meth c H locs cells slots Q (F0 m 26 ls [])) : W p l e room_1 s m #[Value.ref b] below meth c H locs cells slots Q (F0 m 18 ls []) := by
  have hx := C.1.1
  have hb := C.1.2.1
  have e1 : (Int32.ofNat L - 4).toInt = (L : Int) - 4 := pk_sub_toInt (a := L) (b := 4) (by omega) (by omega)
  have e2 : (nI (4 * j)).toInt = ((4 * j : Nat) : Int) := nI_toInt (by omega)
  refine lv_iload_n hx hb d_Law_18 rfl (lv_at hl 3 rfl) ?_
  refine lv_aload_n hx hb d_Law_19 rfl (lv_at hl 0 rfl) ?_
  refine va_slen hx hb hX hbl hbA X.2 d_Law_20 ?_
  refine lv_iconst hx hb d_Law_21 kn_i_4 ?_
  refine lv_isub hx hb d_Law_22 ?_
  refine lv_icmp_gt (tgt := 720) hx hb d_Law_23 (by decide +kernel) (fun hc => ?_) (fun hc => ?_)
  · refine kt ?_
    rw [Int32.lt_iff_toInt_lt, e1, e2] at hc
    omega
  · refine kf ?_
    rw [Int32.lt_iff_toInt_lt, e1, e2] at hc
    omega
theorem lo_end (C : xx_C p m c code 4 s #[Value.ref b] Rn_Law E) (X : xx_S E K M s H locs) (hr : meth.sig.returnType = ret) (hlk : meth.locks = false) (hbs : xe_bs E = s.heap.size) (h1 : cells ≤ 600000) (h2 : slots ≤ 7302250) : W p l e room_1 s m #[Value.ref b] below meth c H locs cells slots (lw_Z below #[Value.ref b] s) (F0 m 720 ls []) := by
  refine va_forget (fun q hq => ?_) ?_
  · have := X.2.2.2 q hq
    rw [← hbs]
    exact this
  · refine lv_iconst C.1.1 C.1.2.1 d_Law_720 kn_i_1 ?_
    exact W.widen h1 h2 (lw_ret C.1.1 C.1.2.1 hr hlk d_Law_721)
theorem lo_next (C : xx_C p m c code 4 s #[Value.ref b] Rn_Law E) (hl : lv_has ls 4 [(0, .ref b), (1, .ref o), (2, .ref (xe_om E)), (3, .int (nI (4 * j)))]) (kk : ∀ ls : Array Slot, lv_has ls 4 [(0, .ref b), (1, .ref o), (2, .ref (xe_om E)), (3, .int (nI (4 * (j + 1))))] → W p l e room_1 s m #[Value.ref b] below meth c H locs cells slots Q (F0 m 18 ls [])) : W p l e room_1 s m #[Value.ref b] below meth c H locs cells slots Q (F0 m 714 ls []) := by
  have hx := C.1.1
  have hb := C.1.2.1
  have hv : nI (4 * j) + Int32.ofInt 4 = nI (4 * (j + 1)) := by
    rw [kn_i_4]
    show nI (4 * j) + nI 4 = _
    rw [nI_add, Nat.mul_add]
  refine lv_iinc (k := 3) hx hb d_Law_714 hl rfl hv (by decide) rfl (fun ls hl => ?_)
  have hl : lv_has ls 4 [(3, .int (nI (4 * (j + 1)))), (0, .ref b), (1, .ref o), (2, .ref (xe_om E))] := hl
  refine lv_goto (tgt := 18) hx hb d_Law_717 (by decide +kernel) ?_
  exact kk ls (lv_sub hl [1, 2, 3, 0] rfl)
set_option maxHeartbeats 4000000 in
set_option maxRecDepth 100000 in
theorem lo_loop {Inv : Nat → xk → xm → Prop} (C : xx_C p m c code 4 s #[Value.ref b] Rn_Law E) (hg : xe_g E = true) (hr : meth.sig.returnType = ret) (hlk : meth.locks = false) (hX : va_X b L xs s s.heap) (hbl : b < s.heap.size) (hbs : xe_bs E = s.heap.size) (hL : L ≤ 2048) (hk : ∀ n K M, Inv n K M → xk_kd K o = 0 + 1) (hsk : ∀ n K M, Inv n K M → Inv (n + 1) K M) (h0 : lo_s0 Inv o) (h1 : lo_s1 Inv o) (h2 : lo_s2 Inv o) (h3 : lo_s3 Inv o) (h4 : lo_s4 Inv o) (h5 : lo_s5 Inv o) (h6 : lo_s6 Inv o) (h7 : lo_s7 Inv o) (h8 : lo_s8 Inv o) (h9 : lo_s9 Inv o) (h10 : lo_s10 Inv o) (h11 : lo_s11 Inv o) (h12 : lo_s12 Inv o) (h13 : lo_s13 Inv o) (h14 : lo_s14 Inv o) (h15 : lo_s15 Inv o) (h16 : lo_s16 Inv o) (h17 : lo_s17 Inv o) (h18 : lo_s18 Inv o) (h19 : lo_s19 Inv o) (h20 : lo_s20 Inv o) (h21 : lo_s21 Inv o) :
    ∀ (n j : Nat) {K : xk} {M : xm} {H : Heap} {locs : List Loc} {ls : Array Slot}, L ≤ 4 * (j + n) + 3 → j + n ≤ 512 → xx_S E K M s H locs → Inv j K M → lv_has ls 4 [(0, .ref b), (1, .ref o), (2, .ref (xe_om E)), (3, .int (nI (4 * j)))] → W p l e room_1 s m #[Value.ref b] below meth c H locs (119 + 4 * j) (8682 + 36 * j) (lw_Z below #[Value.ref b] s) (F0 m 18 ls []) := by
  have hx := C.1.1
  have hb := C.1.2.1
  have hbA : ¬ xe_A E b := by show ¬ xe_bs E ≤ b; rw [hbs]; omega
  intro n
  induction n with
  | zero =>
    intro j K M H locs ls hn hj X hI hl
    exact lo_head C X hX hbl hbA hl hL (by omega) (fun _ => lo_end C X hr hlk hbs (by omega) (by omega)) (fun h => absurd h (by omega))
  | succ n ih =>
    intro j K M H locs ls hn hj X hI hl
    refine lo_head C X hX hbl hbA hl hL (by omega) (fun _ => lo_end C X hr hlk hbs (by omega) (by omega)) (fun hjL => ?_)
    have nx : ∀ {K : xk} {M : xm} {H : Heap} {locs : List Loc}, xx_S E K M s H locs → Inv (j + 1) K M → W p l e room_1 s m #[Value.ref b] below meth c H locs (119 + 4 * j + 4) (8682 + 36 * j + 36) (lw_Z below #[Value.ref b] s) (F0 m 714 ls []) := fun X hI =>
      lo_next C hl (fun ls hl => W.widen (k := 119 + 4 * (j + 1)) (n := 8682 + 36 * (j + 1)) (by omega) (by omega) (ih (j + 1) (by omega) (by omega) X hI hl))
    refine lv_aload_n hx hb d_Law_26 rfl (lv_at hl 0 rfl) ?_
    refine lv_iload_n hx hb d_Law_27 rfl (lv_at hl 3 rfl) ?_
    refine lo_sld hx hb hX hbl hbA X.2 rfl (q := 4 * j) (by omega) hL d_Law_28 ?_
    refine lv_bipush hx hb d_Law_29 kn_b_31 ?_
    refine lv_iand hx hb d_Law_31 ?_
    generalize xs (4 * j) &&& (31 : Int32) = cse
    by_cases hs0 : cse = (0 : Int32)
    · refine lv_tableIn (off := 104) (tgt := 136) hx hb d_Law_32 (by rw [hs0]; decide +kernel) (by rw [hs0]; decide +kernel) (by rw [hs0]; decide +kernel) (by decide +kernel) ?_
      obtain ⟨r, K1, M1, e1, e2, hI1⟩ := h0 j K M (xs (4 * j + 1)) (by omega) hI
      exact lc_0 C hg X hX hbl hbA hl hjL hL (hk _ _ _ hI) e1 e2 (by show _ ≤ 600000; omega) (by show _ ≤ 7302250; omega) (fun H locs X => nx X hI1)
    by_cases hs1 : cse = (1 : Int32)
    · refine lv_tableIn (off := 127) (tgt := 159) hx hb d_Law_32 (by rw [hs1]; decide +kernel) (by rw [hs1]; decide +kernel) (by rw [hs1]; decide +kernel) (by decide +kernel) ?_
      obtain ⟨r, K1, M1, e1, e2, hI1⟩ := h1 j K M (xs (4 * j + 1)) (by omega) hI
      exact lc_1 C hg X hX hbl hbA hl hjL hL (hk _ _ _ hI) e1 e2 (by show _ ≤ 600000; omega) (by show _ ≤ 7302250; omega) (fun H locs X => nx X hI1)
    by_cases hs2 : cse = (2 : Int32)
    · refine lv_tableIn (off := 150) (tgt := 182) hx hb d_Law_32 (by rw [hs2]; decide +kernel) (by rw [hs2]; decide +kernel) (by rw [hs2]; decide +kernel) (by decide +kernel) ?_
      obtain ⟨r, K1, M1, e1, e2, hI1⟩ := h2 j K M (xs (4 * j + 1)) (xs (4 * j + 2)) (by omega) hI
      exact lc_2 C hg X hX hbl hbA hl hjL hL (hk _ _ _ hI) e1 e2 (by show _ ≤ 600000; omega) (by show _ ≤ 7302250; omega) (fun H locs X => nx X hI1)
    by_cases hs3 : cse = (3 : Int32)
    · refine lv_tableIn (off := 184) (tgt := 216) hx hb d_Law_32 (by rw [hs3]; decide +kernel) (by rw [hs3]; decide +kernel) (by rw [hs3]; decide +kernel) (by decide +kernel) ?_
      obtain ⟨r, K1, M1, e1, e2, hI1⟩ := h3 j K M (xs (4 * j + 1)) (xs (4 * j + 2)) (xs (4 * j + 3)) (by omega) hI
      exact lc_3 C hg X hX hbl hbA hl hjL hL (hk _ _ _ hI) e1 e2 (by show _ ≤ 600000; omega) (by show _ ≤ 7302250; omega) (fun H locs X => nx X hI1)
    by_cases hs4 : cse = (4 : Int32)
    · refine lv_tableIn (off := 228) (tgt := 260) hx hb d_Law_32 (by rw [hs4]; decide +kernel) (by rw [hs4]; decide +kernel) (by rw [hs4]; decide +kernel) (by decide +kernel) ?_
      obtain ⟨r, K1, M1, e1, e2, hI1⟩ := h4 j K M (xs (4 * j + 1)) (xs (4 * j + 2)) (xs (4 * j + 3)) (by omega) hI
      exact lc_4 C hg X hX hbl hbA hl hjL hL (hk _ _ _ hI) e1 e2 (by show _ ≤ 600000; omega) (by show _ ≤ 7302250; omega) (fun H locs X => nx X hI1)
    by_cases hs5 : cse = (5 : Int32)
    · refine lv_tableIn (off := 271) (tgt := 303) hx hb d_Law_32 (by rw [hs5]; decide +kernel) (by rw [hs5]; decide +kernel) (by rw [hs5]; decide +kernel) (by decide +kernel) ?_
      obtain ⟨r, K1, M1, e1, e2, hI1⟩ := h5 j K M (xs (4 * j + 1)) (by omega) hI
      exact lc_5 C hg X hX hbl hbA hl hjL hL (hk _ _ _ hI) e1 e2 (by show _ ≤ 600000; omega) (by show _ ≤ 7302250; omega) (fun H locs X => nx X hI1)
    by_cases hs6 : cse = (6 : Int32)
    · refine lv_tableIn (off := 294) (tgt := 326) hx hb d_Law_32 (by rw [hs6]; decide +kernel) (by rw [hs6]; decide +kernel) (by rw [hs6]; decide +kernel) (by decide +kernel) ?_
      obtain ⟨r, K1, M1, e1, e2, hI1⟩ := h6 j K M (xs (4 * j + 1)) (by omega) hI
      exact lc_6 C hg X hX hbl hbA hl hjL hL (hk _ _ _ hI) e1 e2 (by show _ ≤ 600000; omega) (by show _ ≤ 7302250; omega) (fun H locs X => nx X hI1)
    by_cases hs7 : cse = (7 : Int32)
    · refine lv_tableIn (off := 317) (tgt := 349) hx hb d_Law_32 (by rw [hs7]; decide +kernel) (by rw [hs7]; decide +kernel) (by rw [hs7]; decide +kernel) (by decide +kernel) ?_
      obtain ⟨r, K1, M1, e1, e2, hI1⟩ := h7 j K M (xs (4 * j + 1)) (by omega) hI
      exact lc_7 C hg X hX hbl hbA hl hjL hL (hk _ _ _ hI) e1 e2 (by show _ ≤ 600000; omega) (by show _ ≤ 7302250; omega) (fun H locs X => nx X hI1)
    by_cases hs8 : cse = (8 : Int32)
    · refine lv_tableIn (off := 340) (tgt := 372) hx hb d_Law_32 (by rw [hs8]; decide +kernel) (by rw [hs8]; decide +kernel) (by rw [hs8]; decide +kernel) (by decide +kernel) ?_
      obtain ⟨r, K1, M1, e1, e2, hI1⟩ := h8 j K M  (by omega) hI
      exact lc_8 C hg X hX hbl hbA hl hjL hL (hk _ _ _ hI) e1 e2 (by show _ ≤ 600000; omega) (by show _ ≤ 7302250; omega) (fun H locs X => nx X hI1)
    by_cases hs9 : cse = (9 : Int32)
    · refine lv_tableIn (off := 353) (tgt := 385) hx hb d_Law_32 (by rw [hs9]; decide +kernel) (by rw [hs9]; decide +kernel) (by rw [hs9]; decide +kernel) (by decide +kernel) ?_
      obtain ⟨r, K1, M1, e1, e2, hI1⟩ := h9 j K M (xs (4 * j + 1)) (by omega) hI
      exact lc_9 C hg X hX hbl hbA hl hjL hL (hk _ _ _ hI) e1 e2 (by show _ ≤ 600000; omega) (by show _ ≤ 7302250; omega) (fun H locs X => nx X hI1)
    by_cases hs10 : cse = (10 : Int32)
    · refine lv_tableIn (off := 376) (tgt := 408) hx hb d_Law_32 (by rw [hs10]; decide +kernel) (by rw [hs10]; decide +kernel) (by rw [hs10]; decide +kernel) (by decide +kernel) ?_
      obtain ⟨r, K1, M1, e1, e2, hI1⟩ := h10 j K M (xs (4 * j + 1)) (by omega) hI
      exact lc_10 C hg X hX hbl hbA hl hjL hL (hk _ _ _ hI) e1 e2 (by show _ ≤ 600000; omega) (by show _ ≤ 7302250; omega) (fun H locs X => nx X hI1)
    by_cases hs11 : cse = (11 : Int32)
    · refine lv_tableIn (off := 399) (tgt := 431) hx hb d_Law_32 (by rw [hs11]; decide +kernel) (by rw [hs11]; decide +kernel) (by rw [hs11]; decide +kernel) (by decide +kernel) ?_
      obtain ⟨r, K1, M1, e1, e2, hI1⟩ := h11 j K M (xs (4 * j + 1)) (by omega) hI
      exact lc_11 C hg X hX hbl hbA hl hjL hL (hk _ _ _ hI) e1 e2 (by show _ ≤ 600000; omega) (by show _ ≤ 7302250; omega) (fun H locs X => nx X hI1)
    by_cases hs12 : cse = (12 : Int32)
    · refine lv_tableIn (off := 422) (tgt := 454) hx hb d_Law_32 (by rw [hs12]; decide +kernel) (by rw [hs12]; decide +kernel) (by rw [hs12]; decide +kernel) (by decide +kernel) ?_
      obtain ⟨r, K1, M1, e1, e2, hI1⟩ := h12 j K M (xs (4 * j + 1)) (xs (4 * j + 2)) (by omega) hI
      exact lc_12 C hg X hX hbl hbA hl hjL hL (hk _ _ _ hI) e1 e2 (by show _ ≤ 600000; omega) (by show _ ≤ 7302250; omega) (fun H locs X => nx X hI1)
    by_cases hs13 : cse = (13 : Int32)
    · refine lv_tableIn (off := 455) (tgt := 487) hx hb d_Law_32 (by rw [hs13]; decide +kernel) (by rw [hs13]; decide +kernel) (by rw [hs13]; decide +kernel) (by decide +kernel) ?_
      obtain ⟨r, K1, M1, e1, e2, hI1⟩ := h13 j K M (xs (4 * j + 1)) (xs (4 * j + 2)) (by omega) hI
      exact lc_13 C hg X hX hbl hbA hl hjL hL (hk _ _ _ hI) e1 e2 (by show _ ≤ 600000; omega) (by show _ ≤ 7302250; omega) (fun H locs X => nx X hI1)
    by_cases hs14 : cse = (14 : Int32)
    · refine lv_tableIn (off := 488) (tgt := 520) hx hb d_Law_32 (by rw [hs14]; decide +kernel) (by rw [hs14]; decide +kernel) (by rw [hs14]; decide +kernel) (by decide +kernel) ?_
      obtain ⟨r, K1, M1, e1, e2, hI1⟩ := h14 j K M (xs (4 * j + 1)) (xs (4 * j + 2)) (by omega) hI
      exact lc_14 C hg X hX hbl hbA hl hjL hL (hk _ _ _ hI) e1 e2 (by show _ ≤ 600000; omega) (by show _ ≤ 7302250; omega) (fun H locs X => nx X hI1)
    by_cases hs15 : cse = (15 : Int32)
    · refine lv_tableIn (off := 521) (tgt := 553) hx hb d_Law_32 (by rw [hs15]; decide +kernel) (by rw [hs15]; decide +kernel) (by rw [hs15]; decide +kernel) (by decide +kernel) ?_
      obtain ⟨r, K1, M1, e1, e2, hI1⟩ := h15 j K M (xs (4 * j + 1)) (by omega) hI
      exact lc_15 C hg X hX hbl hbA hl hjL hL (hk _ _ _ hI) e1 e2 (by show _ ≤ 600000; omega) (by show _ ≤ 7302250; omega) (fun H locs X => nx X hI1)
    by_cases hs16 : cse = (16 : Int32)
    · refine lv_tableIn (off := 544) (tgt := 576) hx hb d_Law_32 (by rw [hs16]; decide +kernel) (by rw [hs16]; decide +kernel) (by rw [hs16]; decide +kernel) (by decide +kernel) ?_
      obtain ⟨r, K1, M1, e1, e2, hI1⟩ := h16 j K M (xs (4 * j + 1)) (by omega) hI
      exact lc_16 C hg X hX hbl hbA hl hjL hL (hk _ _ _ hI) e1 e2 (by show _ ≤ 600000; omega) (by show _ ≤ 7302250; omega) (fun H locs X => nx X hI1)
    by_cases hs17 : cse = (17 : Int32)
    · refine lv_tableIn (off := 567) (tgt := 599) hx hb d_Law_32 (by rw [hs17]; decide +kernel) (by rw [hs17]; decide +kernel) (by rw [hs17]; decide +kernel) (by decide +kernel) ?_
      obtain ⟨r, K1, M1, e1, e2, hI1⟩ := h17 j K M (xs (4 * j + 1)) (by omega) hI
      exact lc_17 C hg X hX hbl hbA hl hjL hL (hk _ _ _ hI) e1 e2 (by show _ ≤ 600000; omega) (by show _ ≤ 7302250; omega) (fun H locs X => nx X hI1)
    by_cases hs18 : cse = (18 : Int32)
    · refine lv_tableIn (off := 590) (tgt := 622) hx hb d_Law_32 (by rw [hs18]; decide +kernel) (by rw [hs18]; decide +kernel) (by rw [hs18]; decide +kernel) (by decide +kernel) ?_
      obtain ⟨r, K1, M1, e1, e2, hI1⟩ := h18 j K M (xs (4 * j + 1)) (by omega) hI
      exact lc_18 C hg X hX hbl hbA hl hjL hL (hk _ _ _ hI) e1 e2 (by show _ ≤ 600000; omega) (by show _ ≤ 7302250; omega) (fun H locs X => nx X hI1)
    by_cases hs19 : cse = (19 : Int32)
    · refine lv_tableIn (off := 613) (tgt := 645) hx hb d_Law_32 (by rw [hs19]; decide +kernel) (by rw [hs19]; decide +kernel) (by rw [hs19]; decide +kernel) (by decide +kernel) ?_
      obtain ⟨r, K1, M1, e1, e2, hI1⟩ := h19 j K M (xs (4 * j + 1)) (by omega) hI
      exact lc_19 C hg X hX hbl hbA hl hjL hL (hk _ _ _ hI) e1 e2 (by show _ ≤ 600000; omega) (by show _ ≤ 7302250; omega) (fun H locs X => nx X hI1)
    by_cases hs20 : cse = (20 : Int32)
    · refine lv_tableIn (off := 636) (tgt := 668) hx hb d_Law_32 (by rw [hs20]; decide +kernel) (by rw [hs20]; decide +kernel) (by rw [hs20]; decide +kernel) (by decide +kernel) ?_
      obtain ⟨r, K1, M1, e1, e2, hI1⟩ := h20 j K M (xs (4 * j + 1)) (by omega) hI
      exact lc_20 C hg X hX hbl hbA hl hjL hL (hk _ _ _ hI) e1 e2 (by show _ ≤ 600000; omega) (by show _ ≤ 7302250; omega) (fun H locs X => nx X hI1)
    by_cases hs21 : cse = (21 : Int32)
    · refine lv_tableIn (off := 659) (tgt := 691) hx hb d_Law_32 (by rw [hs21]; decide +kernel) (by rw [hs21]; decide +kernel) (by rw [hs21]; decide +kernel) (by decide +kernel) ?_
      obtain ⟨r, K1, M1, e1, e2, hI1⟩ := h21 j K M (xs (4 * j + 1)) (by omega) hI
      exact lc_21 C hg X hX hbl hbA hl hjL hL (hk _ _ _ hI) e1 e2 (by show _ ≤ 600000; omega) (by show _ ≤ 7302250; omega) (fun H locs X => nx X hI1)
    have n0 := lv_neT hs0 (a := 0) (by decide +kernel)
    have n1 := lv_neT hs1 (a := 1) (by decide +kernel)
    have n2 := lv_neT hs2 (a := 2) (by decide +kernel)
    have n3 := lv_neT hs3 (a := 3) (by decide +kernel)
    have n4 := lv_neT hs4 (a := 4) (by decide +kernel)
    have n5 := lv_neT hs5 (a := 5) (by decide +kernel)
    have n6 := lv_neT hs6 (a := 6) (by decide +kernel)
    have n7 := lv_neT hs7 (a := 7) (by decide +kernel)
    have n8 := lv_neT hs8 (a := 8) (by decide +kernel)
    have n9 := lv_neT hs9 (a := 9) (by decide +kernel)
    have n10 := lv_neT hs10 (a := 10) (by decide +kernel)
    have n11 := lv_neT hs11 (a := 11) (by decide +kernel)
    have n12 := lv_neT hs12 (a := 12) (by decide +kernel)
    have n13 := lv_neT hs13 (a := 13) (by decide +kernel)
    have n14 := lv_neT hs14 (a := 14) (by decide +kernel)
    have n15 := lv_neT hs15 (a := 15) (by decide +kernel)
    have n16 := lv_neT hs16 (a := 16) (by decide +kernel)
    have n17 := lv_neT hs17 (a := 17) (by decide +kernel)
    have n18 := lv_neT hs18 (a := 18) (by decide +kernel)
    have n19 := lv_neT hs19 (a := 19) (by decide +kernel)
    have n20 := lv_neT hs20 (a := 20) (by decide +kernel)
    have n21 := lv_neT hs21 (a := 21) (by decide +kernel)
    refine lv_tableOut (tgt := 714) hx hb d_Law_32 (by omega) (by decide +kernel) ?_
    exact W.widen (by omega) (by omega) (nx X (hsk _ _ _ hI))
end LOC
