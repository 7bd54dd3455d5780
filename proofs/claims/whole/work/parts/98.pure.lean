section
theorem nk_4 : nk ct_4 := by
  have h0 : nk (xk_0 0) := fun _ _ => rfl
  have h2 : nk ct_2 := nk_ES_init_0 (nk_new h0 1 0) ct_2 ct_2e
  exact nk_EM_init_0 (nk_new h2 13 0) ct_4 ct_4e
/-- the reference's arrays, as they are made -/
def st_m (k j : Nat) : Int32 := if k = xm_l then xk_iv ct_4 xm_c xm_l 63 else xk_ai ct_4 (ct_ad k) j
theorem vw_M (B : Nat) : xm_vw (xk_sh ct_4 B) (63 + B) (fun k => ct_ad k + B) = st_m := by
  funext k j
  unfold xm_vw st_m
  by_cases h : k = xm_l
  · rw [if_pos h, if_pos h, iv_sh]
  · rw [if_neg h, if_neg h, ai_sh]
theorem ct_ge {k : Nat} (h : k ≠ xm_l) : 64 ≤ ct_ad k := by
  have : xm_l = 47 := rfl
  unfold ct_ad
  split <;> omega
theorem ct_lt {k : Nat} (h : k < xm_N) : ct_ad k < 119 := by
  have : xm_N = 56 := rfl
  unfold ct_ad
  split <;> omega
abbrev st_K (B : Nat) : xk := xk_vw (xk_sh ct_4 B) (63 + B) (fun k => ct_ad k + B)
theorem vw_kd (B : Nat) {o : Nat} (ho : o < 63) : xk_kd (st_K B) (o + B) = xk_kd ct_4 o := by
  show (if o + B = 63 + B then 150 else match xk_ix (fun k => ct_ad k + B) (o + B) with
    | some k => 200 + k
    | none => xk_kd (xk_sh ct_4 B) (o + B)) = _
  rw [if_neg (by omega)]
  cases h : xk_ix (fun k => ct_ad k + B) (o + B) with
  | some k =>
    obtain ⟨h1, h2, h3⟩ := xk_ix_some h
    have := ct_ge h2
    have h3 : ct_ad k + B = o + B := h3
    omega
  | none => exact kd_sh ct_4 B o
theorem vw_hi (B : Nat) {a : Nat} (ha : 119 + B ≤ a) : xk_kd (st_K B) a = 0 := by
  show (if a = 63 + B then 150 else match xk_ix (fun k => ct_ad k + B) a with
    | some k => 200 + k
    | none => xk_kd (xk_sh ct_4 B) a) = _
  rw [if_neg (by omega)]
  cases h : xk_ix (fun k => ct_ad k + B) a with
  | some k =>
    obtain ⟨h1, h2, h3⟩ := xk_ix_some h
    have := ct_lt h1
    have h3 : ct_ad k + B = a := h3
    omega
  | none =>
    obtain ⟨q, rfl⟩ : ∃ q, a = q + B := ⟨a - B, by omega⟩
    show xk_kd (xk_sh ct_4 B) (q + B) = 0
    rw [kd_sh]
    exact nk_4 q (by rw [ct_4n]; omega)
theorem vw_ln (B q : Nat) : xk_ln (st_K B) (q + B) = xk_ln ct_4 q := ln_sh ct_4 B q
theorem vw_iv (B q c j : Nat) : xk_iv (st_K B) c j (q + B) = xk_iv ct_4 c j q := iv_sh ct_4 B q c j
theorem vw_ai (B q j : Nat) : xk_ai (st_K B) (q + B) j = xk_ai ct_4 q j := ai_sh ct_4 B q j
theorem vw_rv (B : Nat) {q c j r : Nat} (h : xk_rv ct_4 c j q = some r) : xk_rv (st_K B) c j (q + B) = some (r + B) := (rv_sh ct_4 B q c j).trans (by rw [h]; rfl)
theorem vw_ar (B : Nat) {q j r : Nat} (h : xk_ar ct_4 q j = some r) : xk_ar (st_K B) (q + B) j = some (r + B) := (ar_sh ct_4 B q j).trans (by rw [h]; rfl)
theorem vw_an (B : Nat) {q j : Nat} (h : xk_ar ct_4 q j = none) : xk_ar (st_K B) (q + B) j = none := (ar_sh ct_4 B q j).trans (by rw [h]; rfl)
-- what the constructors leave, at address 0
theorem s_O : xk_kd ct_4 0 = 1 ∧ xk_rv ct_4 0 0 0 = some 1 ∧ xk_rv ct_4 0 1 0 = some 2 ∧ xk_rv ct_4 0 2 0 = some 3 ∧ xk_rv ct_4 0 3 0 = some 4 ∧ xk_rv ct_4 0 4 0 = some 5 ∧ xk_rv ct_4 0 5 0 = some 6 := by decide +kernel
theorem s_C : xk_kd ct_4 1 = 102 ∧ xk_ln ct_4 1 = 3 ∧ ∀ i, i < 3 → xk_ar ct_4 1 i = some (34 + i) ∧ xk_kd ct_4 (34 + i) = 2 ∧ xk_iv ct_4 1 0 (34 + i) = st_m 1 i ∧ xk_iv ct_4 1 1 (34 + i) = st_m 0 i := by decide +kernel
theorem s_L : xk_kd ct_4 2 = 103 ∧ xk_ln ct_4 2 = 3 ∧ ∀ i, i < 3 → xk_ar ct_4 2 i = some (37 + 3 * i) ∧ xk_kd ct_4 (37 + 3 * i) = 10 ∧ xk_iv ct_4 9 0 (37 + 3 * i) = nI i ∧ xk_iv ct_4 9 1 (37 + 3 * i) = st_m 3 i ∧ xk_iv ct_4 9 2 (37 + 3 * i) = st_m 2 i ∧ xk_iv ct_4 9 3 (37 + 3 * i) = st_m 4 i ∧ xk_iv ct_4 9 6 (37 + 3 * i) = st_m 5 i := by decide +kernel
theorem s_L2 : ∀ i, i < 3 → xk_rv ct_4 9 4 (37 + 3 * i) = some (38 + 3 * i) ∧ xk_rv ct_4 9 5 (37 + 3 * i) = some (39 + 3 * i) ∧ xk_kd ct_4 (38 + 3 * i) = 100 ∧ xk_ln ct_4 (38 + 3 * i) = 10 ∧ (∀ e, e < 10 → xk_ai ct_4 (38 + 3 * i) e = st_m 9 (10 * i + e)) ∧ xk_kd ct_4 (39 + 3 * i) = 108 ∧ xk_ln ct_4 (39 + 3 * i) = 100 ∧ st_m 5 i = 0 := by decide +kernel
theorem s_T : xk_kd ct_4 3 = 104 ∧ xk_ln ct_4 3 = 2 ∧ ∀ i, i < 2 → xk_ar ct_4 3 i = some (46 + 2 * i) ∧ xk_kd ct_4 (46 + 2 * i) = 11 ∧ xk_iv ct_4 10 1 (46 + 2 * i) = st_m 11 i ∧ xk_iv ct_4 10 2 (46 + 2 * i) = st_m 10 i ∧ xk_iv ct_4 10 3 (46 + 2 * i) = st_m 12 i ∧ xk_iv ct_4 10 5 (46 + 2 * i) = st_m 13 i := by decide +kernel
theorem s_T2 : ∀ i, i < 2 → xk_iv ct_4 10 0 (46 + 2 * i) = (if i = 0 then 15 else 240) ∧ xk_rv ct_4 10 4 (46 + 2 * i) = some (47 + 2 * i) ∧ xk_kd ct_4 (47 + 2 * i) = 108 ∧ xk_ln ct_4 (47 + 2 * i) = 100 ∧ st_m 13 i = 0 := by decide +kernel
theorem s_U : xk_kd ct_4 4 = 105 ∧ xk_ln ct_4 4 = 3 ∧ ∀ i, i < 3 → xk_ar ct_4 4 i = some (50 + 3 * i) ∧ xk_kd ct_4 (50 + 3 * i) = 12 ∧ xk_iv ct_4 11 0 (50 + 3 * i) = nI i ∧ xk_iv ct_4 11 1 (50 + 3 * i) = st_m 38 i ∧ xk_iv ct_4 11 2 (50 + 3 * i) = st_m 39 i ∧ xk_iv ct_4 11 3 (50 + 3 * i) = st_m 40 i ∧ st_m 40 i = 0 ∧ xk_iv ct_4 11 5 (50 + 3 * i) = st_m 41 i ∧ xk_iv ct_4 11 6 (50 + 3 * i) = st_m 46 i ∧ xk_iv ct_4 11 7 (50 + 3 * i) = st_m 43 i := by decide +kernel
theorem s_U2 : ∀ i, i < 3 → xk_rv ct_4 11 8 (50 + 3 * i) = some (51 + 3 * i) ∧ xk_kd ct_4 (51 + 3 * i) = 3 ∧ xk_iv ct_4 2 0 (51 + 3 * i) = 0 ∧ xk_rv ct_4 2 1 (51 + 3 * i) = some (52 + 3 * i) ∧ xk_kd ct_4 (52 + 3 * i) = 100 ∧ xk_ln ct_4 (52 + 3 * i) = 8 ∧ st_m 44 i = 0 ∧ st_m 40 i = 0 := by decide +kernel
theorem s_B : ∀ i, i < 3 → (st_m 1 i = 0 ∨ st_m 1 i = 1) ∧ (st_m 3 i = 0 ∨ st_m 3 i = 1) ∧ (st_m 11 i = 0 ∨ st_m 11 i = 1) := by decide +kernel
theorem s_M : xk_kd ct_4 5 = 106 ∧ xk_ln ct_4 5 = 10 ∧ st_m 17 1 = 1 ∧ xk_ar ct_4 5 1 = some 59 ∧ ∀ e, e < 10 → (e ≠ 1 → st_m 17 e = 0 ∧ xk_ar ct_4 5 e = none) ∧ st_m 24 e = 0 ∧ st_m 25 e = 0 ∧ st_m 30 e = 0 := by decide +kernel
theorem s_Ma : xk_kd ct_4 59 = 9 ∧ xk_iv ct_4 8 0 59 = nI 1 ∧ xk_iv ct_4 8 1 59 = st_m 18 1 ∧ xk_iv ct_4 8 2 59 = st_m 19 1 ∧ xk_iv ct_4 8 3 59 = st_m 20 1 ∧ xk_iv ct_4 8 4 59 = st_m 21 1 ∧ xk_iv ct_4 8 5 59 = st_m 22 1 ∧ xk_iv ct_4 8 9 59 = st_m 24 1 ∧ xk_rv ct_4 8 6 59 = some 60 ∧ xk_kd ct_4 60 = 100 ∧ xk_ln ct_4 60 = 8 ∧ (∀ k, k < 8 → xk_ai ct_4 60 k = st_m 23 (8 * 1 + k)) ∧ xk_rv ct_4 8 7 59 = some 61 ∧ xk_kd ct_4 61 = 109 ∧ xk_ln ct_4 61 = 8 ∧ xk_rv ct_4 8 10 59 = some 62 ∧ xk_kd ct_4 62 = 110 ∧ xk_ln ct_4 62 = 8 ∧ xk_iv ct_4 8 8 59 = 0 ∧ xk_iv ct_4 8 11 59 = 0 := by decide +kernel
theorem s_S : xk_kd ct_4 6 = 6 ∧ xk_rv ct_4 5 0 6 = some 7 ∧ xk_kd ct_4 7 = 107 ∧ xk_ln ct_4 7 = 25 ∧ xk_rv ct_4 5 1 6 = some 8 ∧ xk_kd ct_4 8 = 5 ∧ xk_iv ct_4 5 2 6 = 0 ∧ (∀ k, k < 25 → xk_ar ct_4 7 k = some (9 + k) ∧ xk_kd ct_4 (9 + k) = 5) ∧ st_m xm_l 0 = 0 := by decide +kernel
theorem s_E : (∀ i, i < 3 → st_m 0 i = nI 1) ∧ (∀ i, i < 3 → st_m 2 i = nI 1 ∧ bt (st_m 18 1) i = true) ∧ (∀ i, i < 2 → st_m 10 i = nI 1) ∧ ∀ i, i < 3 → st_m 38 i = nI 1 := by decide +kernel
theorem st_0 (B : Nat) : iV B 0 (st_K B) st_m := by
  obtain ⟨o1, o2, o3, o4, o5, o6, o7⟩ := s_O
  obtain ⟨m1, m2, m3, m4, m5⟩ := s_M
  obtain ⟨a1, a2, a3, a4, a5, a6, a7, a8, a9, a10, a11, a12, a13, a14, a15, a16, a17, a18, a19, a20⟩ := s_Ma
  obtain ⟨z1, z2, z3, z4, z5, z6, z7, z8, z9⟩ := s_S
  have K0 : ∀ {x : Nat}, xk_kd ct_4 0 = x → xk_kd (st_K B) B = x := fun h => by
    have := vw_kd B (o := 0) (by decide)
    rw [Nat.zero_add] at this
    exact this.trans h
  have R0 : ∀ {c j r : Nat}, xk_rv ct_4 c j 0 = some r → xk_rv (st_K B) c j B = some (r + B) := fun h => by
    have := vw_rv B h
    rw [Nat.zero_add] at this
    exact this
  have hma : ∀ e ma, 1 ≤ e → e ≤ 9 → xk_ar (st_K B) (5 + B) e = some ma → e = 1 ∧ ma = 59 + B := fun e ma e1 e9 h => by
    by_cases q : e = 1
    · subst q
      rw [vw_ar B m4] at h
      cases h
      exact ⟨rfl, rfl⟩
    · rw [vw_an B ((m5 e (by omega)).1 q).2] at h
      cases h
  refine ⟨fun _ => False, [], 1, 0, 0, fun k => 9 + k + B, ⟨?_, fun a ha => ?_⟩, ⟨K0 o1, R0 o2, R0 o3, R0 o4, R0 o5, R0 o6, R0 o7⟩, ⟨?_, ?_, fun i hi => ?_⟩, ⟨?_, ?_, fun i hi => ?_⟩, ⟨?_, ?_, fun i hi => ?_⟩, ⟨?_, ?_, fun i hi => ?_⟩, s_B, fun i hi => ?_, fun i hi => ?_, ⟨fun i hi => ?_, fun i k w hi hk h1 h2 => ?_⟩, ⟨?_, ?_, fun e e1 e9 => ?_⟩, fun e ma e1 e9 he => ?_, fun e ma e1 e9 he => ?_, ?_, ?_, ⟨?_, ?_, ?_, ?_, ?_, ?_, by omega, ?_, fun k hk => ?_, fun j k _ _ h => by have h : 9 + j + B = 9 + k + B := h; omega⟩, ⟨?_, fun k hk => by omega⟩, ⟨by omega, by omega, fun i hi => ?_, ?_, fun e e1 e9 => ?_, fun i hi => ?_, fun i hi => ?_, fun i hi => ?_⟩, ?_⟩
  · show 119 + B ≤ xk_nx ct_4 + B
    rw [ct_4n]
    exact Nat.le_refl _
  · have ha : xk_nx ct_4 + B ≤ a := ha
    rw [ct_4n] at ha
    exact vw_hi B ha
  · exact (vw_kd B (by decide)).trans s_C.1
  · exact (vw_ln B 1).trans s_C.2.1
  · obtain ⟨c1, c2, c3, c4⟩ := s_C.2.2 i hi
    exact ⟨vw_ar B c1, (vw_kd B (by omega)).trans c2, (vw_iv B _ _ _).trans c3, (vw_iv B _ _ _).trans c4⟩
  · exact (vw_kd B (by decide)).trans s_L.1
  · exact (vw_ln B 2).trans s_L.2.1
  · obtain ⟨c1, c2, c3, c4, c5, c6, c7⟩ := s_L.2.2 i hi
    exact ⟨vw_ar B c1, (vw_kd B (by omega)).trans c2, (vw_iv B _ _ _).trans c3, (vw_iv B _ _ _).trans c4, (vw_iv B _ _ _).trans c5, (vw_iv B _ _ _).trans c6, (vw_iv B _ _ _).trans c7⟩
  · exact (vw_kd B (by decide)).trans s_T.1
  · exact (vw_ln B 3).trans s_T.2.1
  · obtain ⟨c1, c2, c3, c4, c5, c6⟩ := s_T.2.2 i hi
    exact ⟨vw_ar B c1, (vw_kd B (by omega)).trans c2, (vw_iv B _ _ _).trans c3, (vw_iv B _ _ _).trans c4, (vw_iv B _ _ _).trans c5, (vw_iv B _ _ _).trans c6⟩
  · exact (vw_kd B (by decide)).trans s_U.1
  · exact (vw_ln B 4).trans s_U.2.1
  · obtain ⟨c1, c2, c3, c4, c5, c6, c7, c8, c9, c10⟩ := s_U.2.2 i hi
    exact ⟨vw_ar B c1, (vw_kd B (by omega)).trans c2, (vw_iv B _ _ _).trans c3, (vw_iv B _ _ _).trans c4, (vw_iv B _ _ _).trans c5, (vw_iv B _ _ _).trans c6, Or.inl c7, (vw_iv B _ _ _).trans c8, (vw_iv B _ _ _).trans c9, (vw_iv B _ _ _).trans c10⟩
  · obtain ⟨c1, c2, c3, c4, c5, c6, c7, c8⟩ := s_L2 i hi
    exact ⟨vw_rv B c1, vw_rv B c2, (vw_kd B (by omega)).trans c3, (vw_ln B _).trans c4, fun e he => (vw_ai B _ _).trans (c5 e he), (vw_kd B (by omega)).trans c6, (vw_ln B _).trans c7, 0, by omega, c8, fun j hj => by omega⟩
  · obtain ⟨c1, c2, c3, c4, c5⟩ := s_T2 i hi
    exact ⟨(vw_iv B _ _ _).trans c1, vw_rv B c2, (vw_kd B (by omega)).trans c3, (vw_ln B _).trans c4, 0, by omega, by decide, c5, fun j hj => by omega, fun j hj => by omega, fun j k _ hk => by omega⟩
  · obtain ⟨c1, c2, c3, c4, c5, c6, c7, c8⟩ := s_U2 i hi
    refine ⟨51 + 3 * i + B, vw_rv B c1, ⟨(vw_kd B (by omega)).trans c2, (vw_iv B _ _ _).trans (c3.trans c7.symm), ?_, ?_, ?_, fun x hx hb => ?_⟩, fun _ z => z⟩
    · rw [show 51 + 3 * i + B + 1 = 52 + 3 * i + B by omega]; exact vw_rv B c4
    · rw [show 51 + 3 * i + B + 1 = 52 + 3 * i + B by omega]; exact (vw_kd B (by omega)).trans c5
    · rw [show 51 + 3 * i + B + 1 = 52 + 3 * i + B by omega]; exact (vw_ln B _).trans c6
    · rw [c7, b_0] at hb
      cases hb
  · have e1 := vw_rv B (s_U2 i hi).1
    have e2 := vw_rv B (s_U2 k hk).1
    rw [h1] at e1
    rw [h2] at e2
    cases e1
    have : 51 + 3 * i + B = 51 + 3 * k + B := Option.some.inj e2
    omega
  · exact (vw_kd B (by decide)).trans m1
  · exact (vw_ln B 5).trans m2
  · by_cases q : e = 1
    · subst q
      refine Or.inr ⟨m3, 59 + B, vw_ar B m4, ?_⟩
      refine ⟨(vw_kd B (by decide)).trans a1, (vw_iv B _ _ _).trans a2, (vw_iv B _ _ _).trans a3, (vw_iv B _ _ _).trans a4, (vw_iv B _ _ _).trans a5, (vw_iv B _ _ _).trans a6, (vw_iv B _ _ _).trans a7, (vw_iv B _ _ _).trans a8, ?_, ?_, ?_, fun k hk => ?_, ?_, ?_, ?_, ?_, ?_, ?_⟩
      · rw [show 59 + B + 1 = 60 + B by omega]; exact vw_rv B a9
      · rw [show 59 + B + 1 = 60 + B by omega]; exact (vw_kd B (by decide)).trans a10
      · rw [show 59 + B + 1 = 60 + B by omega]; exact (vw_ln B _).trans a11
      · rw [show 59 + B + 1 = 60 + B by omega]; exact (vw_ai B _ _).trans (a12 k hk)
      · rw [show 59 + B + 2 = 61 + B by omega]; exact vw_rv B a13
      · rw [show 59 + B + 2 = 61 + B by omega]; exact (vw_kd B (by decide)).trans a14
      · rw [show 59 + B + 2 = 61 + B by omega]; exact (vw_ln B _).trans a15
      · rw [show 59 + B + 3 = 62 + B by omega]; exact vw_rv B a16
      · rw [show 59 + B + 3 = 62 + B by omega]; exact (vw_kd B (by decide)).trans a17
      · rw [show 59 + B + 3 = 62 + B by omega]; exact (vw_ln B _).trans a18
    · exact Or.inl ⟨((m5 e (by omega)).1 q).1, vw_an B ((m5 e (by omega)).1 q).2⟩
  · obtain ⟨rfl, rfl⟩ := hma e ma e1 e9 he
    exact ⟨0, by omega, (m5 1 (by omega)).2.2.1, (vw_iv B _ _ _).trans a19, fun i hi => by omega⟩
  · obtain ⟨rfl, rfl⟩ := hma e ma e1 e9 he
    exact ⟨0, by show 0 + 0 ≤ 8; omega, (m5 1 (by omega)).2.2.2, (vw_iv B _ _ _).trans a20, fun i hi => by omega⟩
  · intro e d ma md n1 n2 i j a x1 x2 x3 x4 x5 x6 x7 x8 x9 x10 x11 x12
    have : n1 = 0 := (nI_eq (b := 0) (by omega) (by decide)).mp (x7.symm.trans (m5 e (by omega)).2.2.1)
    omega
  · intro e d ma md n1 n2 i j a x1 x2 x3 x4 x5 x6 x7 x8 x9 x10 x11 x12
    have : n1 = 0 := (nI_eq (b := 0) (by omega) (by decide)).mp (x7.symm.trans (m5 e (by omega)).2.2.2)
    omega
  · exact (vw_kd B (by decide)).trans z1
  · exact vw_rv B z2
  · exact (vw_kd B (by decide)).trans z3
  · exact (vw_ln B _).trans z4
  · exact vw_rv B z5
  · exact (vw_kd B (by decide)).trans z6
  · exact (vw_iv B _ _ _).trans z7
  · exact ⟨vw_ar B (z8 k hk).1, (vw_kd B (by omega)).trans (z8 k hk).2, by show 9 + k + B ≠ 8 + B; omega⟩
  · exact z9
  · exact ⟨1, by omega, by omega, s_E.1 i hi⟩
  · exact ⟨0, 1, by omega, by omega, by omega, s_E.1 0 (by omega), s_E.1 1 (by omega)⟩
  · exact ⟨((m5 e (by omega)).1 (by omega)).1, (m5 e (by omega)).2⟩
  · exact ⟨1, by omega, by omega, s_E.2.1 i hi⟩
  · exact ⟨1, by omega, by omega, s_E.2.2.1 i hi⟩
  · exact ⟨1, by omega, by omega, s_E.2.2.2 i hi⟩
  · have p : ∀ i, i < 3 → ph (st_m 40 i) (st_m 44 i) = 0 := fun i hi => by
      rw [(s_U2 i hi).2.2.2.2.2.2.2]
      rfl
    unfold jN
    rw [p 0 (by omega), p 1 (by omega), p 2 (by omega)]
    exact Nat.le_refl 0
theorem lo_pure_all : ∀ B, lo_pure B := by
  intro B
  have nx2 : xk_nx (xk_sh ct_2 B) = 63 + B := ct_nx B
  refine ⟨xk_sh ct_2 B, xk_sh ct_4 B, fun k => ct_ad k + B, iV B, ct_init B, ct_initM B, ⟨?_, fun k hk hl => ?_, fun k hk hl => ?_, fun k k' hk hl hk' hl' e => ?_⟩, ?_, fun n K M h => ?_, fun n K M h => iV_next h, kp_find B, kp_begin B, kp_read B, kp_range B, kp_write B, kp_commit B, kp_giveUp B, kp_status B, kp_messages B, kp_message B, kp_deliver B, kp_lose B, kp_stop B, kp_start B, kp_pull B, kp_push B, kp_recover B, kp_log B, kp_storage B, kp_master B, kp_committed B, kp_coordinator B⟩
  · rw [nx2, kd_sh]
    exact ct_v1
  · rw [nx2, rv_sh, ct_v3 k hk hl]
    rfl
  · show xk_kd (xk_sh ct_4 B) (ct_ad k + B) = _ ∧ xk_ln (xk_sh ct_4 B) (ct_ad k + B) = _
    rw [kd_sh, ln_sh]
    exact ct_v4 k hk hl
  · have e : ct_ad k + B = ct_ad k' + B := e
    exact ct_v5 k k' hk hl hk' hl' (by omega)
  · rw [nx2, vw_M]
    exact st_0 B
  · obtain ⟨fz, V, E, P, c, R, hA⟩ := h
    exact hA.2.1.1
end
