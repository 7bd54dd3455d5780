theorem wl_m9 : Cond.methodLink Rn_Law 9 y_ES_init ∈ lw_tbl := List.mem_of_getElem? (i := 68) (by decide +kernel)
theorem wl_m12 : Cond.methodLink Rn_Law 12 y_EM_init ∈ lw_tbl := List.mem_of_getElem? (i := 768) (by decide +kernel)
theorem wl_i9 : Cond.instanceMethod y_ES_init ∈ lw_tbl := List.mem_of_getElem? (i := 69) (by decide +kernel)
set_option maxRecDepth 100000 in
theorem wl_k9 : Cond.code y_ES_init b_ES_init 2 none ∈ lw_tbl := List.mem_of_getElem? (i := 70) rfl
theorem wl_i12 : Cond.instanceMethod y_EM_init ∈ lw_tbl := List.mem_of_getElem? (i := 769) (by decide +kernel)
set_option maxRecDepth 100000 in
theorem wl_k12 : Cond.code y_EM_init b_EM_init 2 none ∈ lw_tbl := List.mem_of_getElem? (i := 770) rfl
theorem wl_c7 : Cond.classLink Rn_Law 7 Rn_ES ∈ lw_tbl := List.mem_of_getElem? (i := 66) (by decide +kernel)
theorem wl_c10 : Cond.classLink Rn_Law 10 Rn_EM ∈ lw_tbl := List.mem_of_getElem? (i := 766) (by decide +kernel)
theorem xw_in2 {w : Cond} (h : w ∈ lw_tbl) (hg : goodWord w = true) : GoodIn lw_tbl (w :: w_all) := fun v hv => by
  rcases List.mem_cons.mp hv with rfl | hv
  · exact ⟨h, good_of_word hg⟩
  · exact ⟨w_sub _ hv, w_good _ hv⟩
/-- what is left to show, of the two programs as functions: they start, and go on alike -/
def lo_pure (B : Nat) : Prop := ∃ (K2 K4 : xk) (ad : Nat → Nat) (Inv : Nat → xk → xm → Prop), kf_ES_init_0 (xk_new (xk_0 B) 1 0) B = some K2 ∧ kf_EM_init_0 (xk_new K2 13 0) (xk_nx K2) = some K4 ∧
  (xk_kd K4 (xk_nx K2) = xm_c + 1 ∧ (∀ k, k < xm_N → k ≠ xm_l → xk_rv K4 xm_c k (xk_nx K2) = some (ad k)) ∧ (∀ k, k < xm_N → k ≠ xm_l → xk_kd K4 (ad k) = 100 + xm_t k ∧ xk_ln K4 (ad k) = xm_n k) ∧ (∀ k k', k < xm_N → k ≠ xm_l → k' < xm_N → k' ≠ xm_l → ad k = ad k' → k = k')) ∧
  Inv 0 (xk_vw K4 (xk_nx K2) ad) (xm_vw K4 (xk_nx K2) ad) ∧ (∀ n K M, Inv n K M → xk_kd K B = 0 + 1) ∧ (∀ n K M, Inv n K M → Inv (n + 1) K M) ∧
  lo_s0 Inv B ∧ lo_s1 Inv B ∧ lo_s2 Inv B ∧ lo_s3 Inv B ∧ lo_s4 Inv B ∧ lo_s5 Inv B ∧ lo_s6 Inv B ∧ lo_s7 Inv B ∧ lo_s8 Inv B ∧ lo_s9 Inv B ∧ lo_s10 Inv B ∧ lo_s11 Inv B ∧ lo_s12 Inv B ∧ lo_s13 Inv B ∧ lo_s14 Inv B ∧ lo_s15 Inv B ∧ lo_s16 Inv B ∧ lo_s17 Inv B ∧ lo_s18 Inv B ∧ lo_s19 Inv B ∧ lo_s20 Inv B ∧ lo_s21 Inv B
set_option maxHeartbeats 4000000 in
set_option maxRecDepth 100000 in
theorem lo_begin (hpure : ∀ B, lo_pure B) {p : Program} {e : Env} {s : State} {m : MethodId} {below : List Frame} {meth : Method} {c : Code} (l : Launch) {b L : Nat} {xs : Nat → Int32} (hL : L ≤ 2048) (C0 : lw_At p s m meth c b L xs) : W p l e room_1 s m #[Value.ref b] below meth c s.heap [] 0 0 (lw_Z below #[Value.ref b] s) (entryFrame m ([Value.ref b] : List Value).toArray 4) := by
  obtain ⟨hx, hb, hr, hml, hown, hts, hX, hbl, hlk, -⟩ := C0
  obtain ⟨D, tc, hK⟩ := lo_K hts
  obtain ⟨K2, K4, ad, Inv, e1, e2, ⟨v1, v3, v4, v5⟩, hI, hk, hsk, h0, h1, h2, h3, h4, h5, h6, h7, h8, h9, h10, h11, h12, h13, h14, h15, h16, h17, h18, h19, h20, h21⟩ := hpure s.heap.size
  have hN := lo_N hts
  have C : xx_C p m c code 4 s #[Value.ref b] Rn_Law (D, tc, 0, fun _ => 0, s.heap.size, false) := ⟨⟨hx, hb, hml, hown, fun w hw => hts w (w_sub w hw)⟩, hK _ _ _ _, hN⟩
  have CF : CallFix p m c code 4 s #[Value.ref b] lw_tbl Rn_Law := ⟨hx, hb, hml, hown, hts⟩
  have X : xx_S (D, tc, 0, fun _ => 0, s.heap.size, false) (xk_0 s.heap.size) (fun _ _ => 0) s s.heap [] := ⟨xk_0W, va_S.rf⟩
  have hl := lv_entry ([.ref b]) (n := 4) (Nat.le_of_ble_eq_true rfl)
  rw [lg_entry_eq]
  generalize (lg_sl ([.ref b]) ++ List.replicate (4 - (lg_sl ([.ref b])).length) Slot.unset).toArray = ls at hl ⊢
  have hl : lv_has ls 4 [(0, .ref b)] := hl
  refine xr_new0 C X xc_ES (by decide) rfl xdf_ES (hts _ wl_c7) m_806 m_106 d_Law_0 (Nat.le_of_ble_eq_true rfl) (Nat.le_of_ble_eq_true rfl) (q := s.heap.size) (K' := xk_new (xk_0 s.heap.size) 1 0) rfl (fun H X => ?_)
  refine lv_dup hx hb d_Law_3 rfl ?_
  refine xr_kv (va_runI (As := []) (rest := [.ref s.heap.size]) CF (kc_ES_init l _ e1) (cwI 0 hts (xw_in2 wl_k9 rfl) rfl rfl rfl (hts _ (w_sub _ m_106)) (hts _ wl_m9) (hts _ wl_i9) rfl ky_ES_init ⟨(Nat.le_of_ble_eq_true rfl), (Nat.le_of_ble_eq_true rfl)⟩) (xr_pS C X) rfl rfl hl.1 rfl (lv_room (Nat.le_of_ble_eq_true rfl)) d_Law_4 ⟨(Nat.le_of_ble_eq_true rfl), (Nat.le_of_ble_eq_true rfl)⟩) X (fun H locs X => ?_)
  refine lv_astore_n hx hb d_Law_7 rfl hl (by decide) rfl (fun ls hl => ?_)
  have hl : lv_has ls 4 [(1, .ref s.heap.size), (0, .ref b)] := hl
  refine xr_new0 C X xc_EM (by decide) rfl xdf_EM (hts _ wl_c10) m_925 m_521 d_Law_8 (Nat.le_of_ble_eq_true rfl) (Nat.le_of_ble_eq_true rfl) (q := xk_nx K2) (K' := xk_new K2 13 0) rfl (fun H X => ?_)
  refine lv_dup hx hb d_Law_11 rfl ?_
  refine xr_kv (va_runI (As := []) (rest := [.ref (xk_nx K2)]) CF (kc_EM_init l _ e2) (cwI 0 hts (xw_in2 wl_k12 rfl) rfl rfl rfl (hts _ (w_sub _ m_521)) (hts _ wl_m12) (hts _ wl_i12) rfl ky_EM_init ⟨(Nat.le_of_ble_eq_true rfl), (Nat.le_of_ble_eq_true rfl)⟩) (xr_pS C X) rfl rfl hl.1 rfl (lv_room (Nat.le_of_ble_eq_true rfl)) d_Law_12 ⟨(Nat.le_of_ble_eq_true rfl), (Nat.le_of_ble_eq_true rfl)⟩) X (fun H locs X => ?_)
  refine lv_astore_n hx hb d_Law_15 rfl hl (by decide) rfl (fun ls hl => ?_)
  have hl : lv_has ls 4 [(2, .ref (xk_nx K2)), (1, .ref s.heap.size), (0, .ref b)] := hl
  refine lv_iconst hx hb d_Law_16 kn_i_0 ?_
  refine lv_istore_n hx hb d_Law_17 rfl hl (by decide) rfl (fun ls hl => ?_)
  have hl : lv_has ls 4 [(3, .int 0), (2, .ref (xk_nx K2)), (1, .ref s.heap.size), (0, .ref b)] := hl
  have C1 : xx_C p m c code 4 s #[Value.ref b] Rn_Law (D, tc, xk_nx K2, ad, s.heap.size, true) := ⟨⟨hx, hb, hml, hown, fun w hw => hts w (w_sub w hw)⟩, hK _ _ _ _, hN⟩
  have X1 : xx_S (D, tc, xk_nx K2, ad, s.heap.size, true) (xk_vw K4 (xk_nx K2) ad) (xm_vw K4 (xk_nx K2) ad) s H locs := ⟨xk_view (by omega) X.1 v1 v3 v4 v5, X.2⟩
  exact lo_loop C1 rfl hr hlk hX hbl rfl hL hk hsk h0 h1 h2 h3 h4 h5 h6 h7 h8 h9 h10 h11 h12 h13 h14 h15 h16 h17 h18 h19 h20 h21 512 0 (by omega) (by omega) X1 hI (lv_sub hl [3, 2, 1, 0] rfl)
