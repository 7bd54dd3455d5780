-- sending, on both sides
def rs_K (K : xk) (a : Nat) (t n e : Int32) : xk := xk_sR (xk_sR (xk_sI (xk_sI (xk_sI (xk_sI (xk_sI (xk_sI (xk_sI (xk_sI K 4 0 a t) 4 1 a n) 4 2 a e) 4 3 a 0) 4 4 a 0) 4 5 a 0) 4 6 a 0) 4 7 a 0) 4 8 a none) 4 9 a none
theorem rs_all {K : xk} {a : Nat} {t n e : Int32} (h : xk_kd K a = 4 + 1) : kf_Message_reset_0 K a t n e = some (rs_K K a t n e) := by
  unfold kf_Message_reset_0 kf_Message_reset_40
  rw [xIs_ok h, xb_some, xIs_ok (by exact h), xb_some, xIs_ok (by exact h), xb_some, xIs_ok (by exact h), xb_some, xIs_ok (by exact h), xb_some, xIs_ok (by exact h), xb_some, xIs_ok (by exact h), xb_some, xIs_ok (by exact h), xb_some, xRs_ok (by exact h), xb_some, xRs_ok (by exact h), xb_some]
  rfl
theorem sd_full {K : xk} {B : Nat} {t n e : Int32} (g1 : xk_kd K (6 + B) = 5 + 1) (g5 : xk_rv K 5 1 (6 + B) = some (8 + B)) (g6 : xk_kd K (8 + B) = 4 + 1) (hc : xk_iv K 5 2 (6 + B) = nI 24) : kf_Line_send_0 K (6 + B) t n e = some (some (8 + B), rs_K K (8 + B) t n e) := by
  unfold kf_Line_send_0 kf_Line_send_36
  have h24 : (24 : Int32) ≤ nI 24 := nI_le (a := 24) (b := 24) (Nat.le_refl _) (by decide)
  rw [xR_ok g1, xb_some, xI_ok g1, xb_some, hc, if_pos h24, g5, xb_some, xO_ok g6, xb_some, rs_all g6, xb_some]
theorem sd_room {K : xk} {B c a : Nat} {t n e : Int32} (g1 : xk_kd K (6 + B) = 5 + 1) (g2 : xk_rv K 5 0 (6 + B) = some (7 + B)) (g3 : xk_kd K (7 + B) = 100 + 7) (g4 : xk_ln K (7 + B) = 25) (hc : xk_iv K 5 2 (6 + B) = nI c) (hlt : c < 24) (ha : xk_ar K (7 + B) c = some a) (hk : xk_kd K a = 4 + 1) : kf_Line_send_0 K (6 + B) t n e = some (some a, rs_K (xk_sI K 5 2 (6 + B) (nI (c + 1))) a t n e) := by
  unfold kf_Line_send_0 kf_Line_send_36
  have h24 : ¬ (24 : Int32) ≤ nI c := nI_ge (a := c) (b := 24) hlt (by decide)
  rw [xR_ok g1, xb_some, xI_ok g1, xb_some, hc, if_neg h24, xR_ok g1, g2, xb_some, xb_some, xb_some, xRa_ok g3 g4 (by omega) (by decide), ha, xb_some, xb_some, nI_1, xIs_ok g1, xb_some, xb_some, xO_ok (by exact hk), xb_some, rs_all (by exact hk), xb_some]
def sd_M (M : xm) (m : Nat) (t w e v n : Int32) : xm := xm_s (xm_s (xm_s (xm_s (xm_s (xm_s (xm_s M 48 m t) 49 m w) 50 m e) 51 m v) 52 m n) 53 m 0) 54 m 0
theorem sm_25 {M : xm} {m : Nat} {t w e v n : Int32} (hm : m < 25) : kf_EM_send_25 M t w e v n (nI m) = some (nI m, sd_M M m t w e v n) := by
  unfold kf_EM_send_25 kf_EM_send_67
  rw [xMt_ok hm (by decide), xb_some, xMt_ok hm (by decide), xb_some, xMt_ok hm (by decide), xb_some, xMt_ok hm (by decide), xb_some, xMt_ok hm (by decide), xb_some, xMt_ok hm (by decide), xb_some, xMt_ok hm (by decide), xb_some]
  rfl
theorem sm_full {M : xm} {t w e v n : Int32} (h : M xm_l 0 = nI 24) : kf_EM_send_0 M t w e v n = some (nI 24, sd_M M 24 t w e v n) := by
  unfold kf_EM_send_0
  have h24 : (24 : Int32) ≤ nI 24 := nI_le (a := 24) (b := 24) (Nat.le_refl _) (by decide)
  rw [h, if_pos h24, sm_25 (by decide)]
theorem sm_room {M : xm} {c : Nat} {t w e v n : Int32} (h : M xm_l 0 = nI c) (hc : c < 24) : kf_EM_send_0 M t w e v n = some (nI c, sd_M (xm_s M xm_l 0 (nI (c + 1))) c t w e v n) := by
  unfold kf_EM_send_0
  have h24 : ¬ (24 : Int32) ≤ nI c := nI_ge (a := c) (b := 24) hc (by decide)
  rw [h, if_neg h24, nI_1]
  show (kf_EM_send_25 (xm_s M xm_l 0 (nI (c + 1))) t w e v n (nI c)) = _
  exact sm_25 (by omega)
