theorem sh_Message_init_0 (B : Nat) (K : xk) (th : Nat) : kf_Message_init_0 (xk_sh K B) (th + B) = (kf_Message_init_0 K th).map (fun z => xk_sh z B) := by
  unfold kf_Message_init_0
  simp only [xI_sh, xR_sh, xIs_sh, xZs_sh, xRs_sh, xRs_shs, xRs_shn, xIa_sh, xRa_sh, xIt_sh, xZt_sh, xRt_sh, xRt_shs, xNw_sh, xp_sh, xb_map, xm_bind, xm_xp, xm_some, xm_ite]
theorem sh_Line_init_26025 (B : Nat) (K : xk) (th : Nat) : kf_Line_init_26025 (xk_sh K B) (th + B) = (kf_Line_init_26025 K th).map (fun z => xk_sh z B) := by
  unfold kf_Line_init_26025
  simp only [xI_sh, xR_sh, xIs_sh, xZs_sh, xRs_sh, xRs_shs, xRs_shn, xIa_sh, xRa_sh, xIt_sh, xZt_sh, xRt_sh, xRt_shs, xNw_sh, xp_sh, xb_map, xm_bind, xm_xp, xm_some, xm_ite]
theorem sh_Line_init_26024 (B : Nat) (K : xk) (th : Nat) : kf_Line_init_26024 (xk_sh K B) (th + B) = (kf_Line_init_26024 K th).map (fun z => xk_sh z B) := by
  unfold kf_Line_init_26024
  simp only [xI_sh, xR_sh, xIs_sh, xZs_sh, xRs_sh, xRs_shs, xRs_shn, xIa_sh, xRa_sh, xIt_sh, xZt_sh, xRt_sh, xRt_shs, xNw_sh, xp_sh, xb_map, xm_bind, xm_xp, xm_some, xm_ite, sh_Line_init_26025, sh_Message_init_0]
theorem sh_Line_init_26023 (B : Nat) (K : xk) (th : Nat) : kf_Line_init_26023 (xk_sh K B) (th + B) = (kf_Line_init_26023 K th).map (fun z => xk_sh z B) := by
  unfold kf_Line_init_26023
  simp only [xI_sh, xR_sh, xIs_sh, xZs_sh, xRs_sh, xRs_shs, xRs_shn, xIa_sh, xRa_sh, xIt_sh, xZt_sh, xRt_sh, xRt_shs, xNw_sh, xp_sh, xb_map, xm_bind, xm_xp, xm_some, xm_ite, sh_Line_init_26024, sh_Message_init_0]
theorem sh_Line_init_26022 (B : Nat) (K : xk) (th : Nat) : kf_Line_init_26022 (xk_sh K B) (th + B) = (kf_Line_init_26022 K th).map (fun z => xk_sh z B) := by
  unfold kf_Line_init_26022
  simp only [xI_sh, xR_sh, xIs_sh, xZs_sh, xRs_sh, xRs_shs, xRs_shn, xIa_sh, xRa_sh, xIt_sh, xZt_sh, xRt_sh, xRt_shs, xNw_sh, xp_sh, xb_map, xm_bind, xm_xp, xm_some, xm_ite, sh_Line_init_26023, sh_Message_init_0]
theorem sh_Line_init_26021 (B : Nat) (K : xk) (th : Nat) : kf_Line_init_26021 (xk_sh K B) (th + B) = (kf_Line_init_26021 K th).map (fun z => xk_sh z B) := by
  unfold kf_Line_init_26021
  simp only [xI_sh, xR_sh, xIs_sh, xZs_sh, xRs_sh, xRs_shs, xRs_shn, xIa_sh, xRa_sh, xIt_sh, xZt_sh, xRt_sh, xRt_shs, xNw_sh, xp_sh, xb_map, xm_bind, xm_xp, xm_some, xm_ite, sh_Line_init_26022, sh_Message_init_0]
theorem sh_Line_init_26020 (B : Nat) (K : xk) (th : Nat) : kf_Line_init_26020 (xk_sh K B) (th + B) = (kf_Line_init_26020 K th).map (fun z => xk_sh z B) := by
  unfold kf_Line_init_26020
  simp only [xI_sh, xR_sh, xIs_sh, xZs_sh, xRs_sh, xRs_shs, xRs_shn, xIa_sh, xRa_sh, xIt_sh, xZt_sh, xRt_sh, xRt_shs, xNw_sh, xp_sh, xb_map, xm_bind, xm_xp, xm_some, xm_ite, sh_Line_init_26021, sh_Message_init_0]
theorem sh_Line_init_26019 (B : Nat) (K : xk) (th : Nat) : kf_Line_init_26019 (xk_sh K B) (th + B) = (kf_Line_init_26019 K th).map (fun z => xk_sh z B) := by
  unfold kf_Line_init_26019
  simp only [xI_sh, xR_sh, xIs_sh, xZs_sh, xRs_sh, xRs_shs, xRs_shn, xIa_sh, xRa_sh, xIt_sh, xZt_sh, xRt_sh, xRt_shs, xNw_sh, xp_sh, xb_map, xm_bind, xm_xp, xm_some, xm_ite, sh_Line_init_26020, sh_Message_init_0]
theorem sh_Line_init_26018 (B : Nat) (K : xk) (th : Nat) : kf_Line_init_26018 (xk_sh K B) (th + B) = (kf_Line_init_26018 K th).map (fun z => xk_sh z B) := by
  unfold kf_Line_init_26018
  simp only [xI_sh, xR_sh, xIs_sh, xZs_sh, xRs_sh, xRs_shs, xRs_shn, xIa_sh, xRa_sh, xIt_sh, xZt_sh, xRt_sh, xRt_shs, xNw_sh, xp_sh, xb_map, xm_bind, xm_xp, xm_some, xm_ite, sh_Line_init_26019, sh_Message_init_0]
theorem sh_Line_init_26017 (B : Nat) (K : xk) (th : Nat) : kf_Line_init_26017 (xk_sh K B) (th + B) = (kf_Line_init_26017 K th).map (fun z => xk_sh z B) := by
  unfold kf_Line_init_26017
  simp only [xI_sh, xR_sh, xIs_sh, xZs_sh, xRs_sh, xRs_shs, xRs_shn, xIa_sh, xRa_sh, xIt_sh, xZt_sh, xRt_sh, xRt_shs, xNw_sh, xp_sh, xb_map, xm_bind, xm_xp, xm_some, xm_ite, sh_Line_init_26018, sh_Message_init_0]
theorem sh_Line_init_26016 (B : Nat) (K : xk) (th : Nat) : kf_Line_init_26016 (xk_sh K B) (th + B) = (kf_Line_init_26016 K th).map (fun z => xk_sh z B) := by
  unfold kf_Line_init_26016
  simp only [xI_sh, xR_sh, xIs_sh, xZs_sh, xRs_sh, xRs_shs, xRs_shn, xIa_sh, xRa_sh, xIt_sh, xZt_sh, xRt_sh, xRt_shs, xNw_sh, xp_sh, xb_map, xm_bind, xm_xp, xm_some, xm_ite, sh_Line_init_26017, sh_Message_init_0]
theorem sh_Line_init_26015 (B : Nat) (K : xk) (th : Nat) : kf_Line_init_26015 (xk_sh K B) (th + B) = (kf_Line_init_26015 K th).map (fun z => xk_sh z B) := by
  unfold kf_Line_init_26015
  simp only [xI_sh, xR_sh, xIs_sh, xZs_sh, xRs_sh, xRs_shs, xRs_shn, xIa_sh, xRa_sh, xIt_sh, xZt_sh, xRt_sh, xRt_shs, xNw_sh, xp_sh, xb_map, xm_bind, xm_xp, xm_some, xm_ite, sh_Line_init_26016, sh_Message_init_0]
theorem sh_Line_init_26014 (B : Nat) (K : xk) (th : Nat) : kf_Line_init_26014 (xk_sh K B) (th + B) = (kf_Line_init_26014 K th).map (fun z => xk_sh z B) := by
  unfold kf_Line_init_26014
  simp only [xI_sh, xR_sh, xIs_sh, xZs_sh, xRs_sh, xRs_shs, xRs_shn, xIa_sh, xRa_sh, xIt_sh, xZt_sh, xRt_sh, xRt_shs, xNw_sh, xp_sh, xb_map, xm_bind, xm_xp, xm_some, xm_ite, sh_Line_init_26015, sh_Message_init_0]
theorem sh_Line_init_26013 (B : Nat) (K : xk) (th : Nat) : kf_Line_init_26013 (xk_sh K B) (th + B) = (kf_Line_init_26013 K th).map (fun z => xk_sh z B) := by
  unfold kf_Line_init_26013
  simp only [xI_sh, xR_sh, xIs_sh, xZs_sh, xRs_sh, xRs_shs, xRs_shn, xIa_sh, xRa_sh, xIt_sh, xZt_sh, xRt_sh, xRt_shs, xNw_sh, xp_sh, xb_map, xm_bind, xm_xp, xm_some, xm_ite, sh_Line_init_26014, sh_Message_init_0]
theorem sh_Line_init_26012 (B : Nat) (K : xk) (th : Nat) : kf_Line_init_26012 (xk_sh K B) (th + B) = (kf_Line_init_26012 K th).map (fun z => xk_sh z B) := by
  unfold kf_Line_init_26012
  simp only [xI_sh, xR_sh, xIs_sh, xZs_sh, xRs_sh, xRs_shs, xRs_shn, xIa_sh, xRa_sh, xIt_sh, xZt_sh, xRt_sh, xRt_shs, xNw_sh, xp_sh, xb_map, xm_bind, xm_xp, xm_some, xm_ite, sh_Line_init_26013, sh_Message_init_0]
theorem sh_Line_init_26011 (B : Nat) (K : xk) (th : Nat) : kf_Line_init_26011 (xk_sh K B) (th + B) = (kf_Line_init_26011 K th).map (fun z => xk_sh z B) := by
  unfold kf_Line_init_26011
  simp only [xI_sh, xR_sh, xIs_sh, xZs_sh, xRs_sh, xRs_shs, xRs_shn, xIa_sh, xRa_sh, xIt_sh, xZt_sh, xRt_sh, xRt_shs, xNw_sh, xp_sh, xb_map, xm_bind, xm_xp, xm_some, xm_ite, sh_Line_init_26012, sh_Message_init_0]
theorem sh_Line_init_26010 (B : Nat) (K : xk) (th : Nat) : kf_Line_init_26010 (xk_sh K B) (th + B) = (kf_Line_init_26010 K th).map (fun z => xk_sh z B) := by
  unfold kf_Line_init_26010
  simp only [xI_sh, xR_sh, xIs_sh, xZs_sh, xRs_sh, xRs_shs, xRs_shn, xIa_sh, xRa_sh, xIt_sh, xZt_sh, xRt_sh, xRt_shs, xNw_sh, xp_sh, xb_map, xm_bind, xm_xp, xm_some, xm_ite, sh_Line_init_26011, sh_Message_init_0]
theorem sh_Line_init_26009 (B : Nat) (K : xk) (th : Nat) : kf_Line_init_26009 (xk_sh K B) (th + B) = (kf_Line_init_26009 K th).map (fun z => xk_sh z B) := by
  unfold kf_Line_init_26009
  simp only [xI_sh, xR_sh, xIs_sh, xZs_sh, xRs_sh, xRs_shs, xRs_shn, xIa_sh, xRa_sh, xIt_sh, xZt_sh, xRt_sh, xRt_shs, xNw_sh, xp_sh, xb_map, xm_bind, xm_xp, xm_some, xm_ite, sh_Line_init_26010, sh_Message_init_0]
theorem sh_Line_init_26008 (B : Nat) (K : xk) (th : Nat) : kf_Line_init_26008 (xk_sh K B) (th + B) = (kf_Line_init_26008 K th).map (fun z => xk_sh z B) := by
  unfold kf_Line_init_26008
  simp only [xI_sh, xR_sh, xIs_sh, xZs_sh, xRs_sh, xRs_shs, xRs_shn, xIa_sh, xRa_sh, xIt_sh, xZt_sh, xRt_sh, xRt_shs, xNw_sh, xp_sh, xb_map, xm_bind, xm_xp, xm_some, xm_ite, sh_Line_init_26009, sh_Message_init_0]
theorem sh_Line_init_26007 (B : Nat) (K : xk) (th : Nat) : kf_Line_init_26007 (xk_sh K B) (th + B) = (kf_Line_init_26007 K th).map (fun z => xk_sh z B) := by
  unfold kf_Line_init_26007
  simp only [xI_sh, xR_sh, xIs_sh, xZs_sh, xRs_sh, xRs_shs, xRs_shn, xIa_sh, xRa_sh, xIt_sh, xZt_sh, xRt_sh, xRt_shs, xNw_sh, xp_sh, xb_map, xm_bind, xm_xp, xm_some, xm_ite, sh_Line_init_26008, sh_Message_init_0]
theorem sh_Line_init_26006 (B : Nat) (K : xk) (th : Nat) : kf_Line_init_26006 (xk_sh K B) (th + B) = (kf_Line_init_26006 K th).map (fun z => xk_sh z B) := by
  unfold kf_Line_init_26006
  simp only [xI_sh, xR_sh, xIs_sh, xZs_sh, xRs_sh, xRs_shs, xRs_shn, xIa_sh, xRa_sh, xIt_sh, xZt_sh, xRt_sh, xRt_shs, xNw_sh, xp_sh, xb_map, xm_bind, xm_xp, xm_some, xm_ite, sh_Line_init_26007, sh_Message_init_0]
theorem sh_Line_init_26005 (B : Nat) (K : xk) (th : Nat) : kf_Line_init_26005 (xk_sh K B) (th + B) = (kf_Line_init_26005 K th).map (fun z => xk_sh z B) := by
  unfold kf_Line_init_26005
  simp only [xI_sh, xR_sh, xIs_sh, xZs_sh, xRs_sh, xRs_shs, xRs_shn, xIa_sh, xRa_sh, xIt_sh, xZt_sh, xRt_sh, xRt_shs, xNw_sh, xp_sh, xb_map, xm_bind, xm_xp, xm_some, xm_ite, sh_Line_init_26006, sh_Message_init_0]
theorem sh_Line_init_26004 (B : Nat) (K : xk) (th : Nat) : kf_Line_init_26004 (xk_sh K B) (th + B) = (kf_Line_init_26004 K th).map (fun z => xk_sh z B) := by
  unfold kf_Line_init_26004
  simp only [xI_sh, xR_sh, xIs_sh, xZs_sh, xRs_sh, xRs_shs, xRs_shn, xIa_sh, xRa_sh, xIt_sh, xZt_sh, xRt_sh, xRt_shs, xNw_sh, xp_sh, xb_map, xm_bind, xm_xp, xm_some, xm_ite, sh_Line_init_26005, sh_Message_init_0]
theorem sh_Line_init_26003 (B : Nat) (K : xk) (th : Nat) : kf_Line_init_26003 (xk_sh K B) (th + B) = (kf_Line_init_26003 K th).map (fun z => xk_sh z B) := by
  unfold kf_Line_init_26003
  simp only [xI_sh, xR_sh, xIs_sh, xZs_sh, xRs_sh, xRs_shs, xRs_shn, xIa_sh, xRa_sh, xIt_sh, xZt_sh, xRt_sh, xRt_shs, xNw_sh, xp_sh, xb_map, xm_bind, xm_xp, xm_some, xm_ite, sh_Line_init_26004, sh_Message_init_0]
theorem sh_Line_init_26002 (B : Nat) (K : xk) (th : Nat) : kf_Line_init_26002 (xk_sh K B) (th + B) = (kf_Line_init_26002 K th).map (fun z => xk_sh z B) := by
  unfold kf_Line_init_26002
  simp only [xI_sh, xR_sh, xIs_sh, xZs_sh, xRs_sh, xRs_shs, xRs_shn, xIa_sh, xRa_sh, xIt_sh, xZt_sh, xRt_sh, xRt_shs, xNw_sh, xp_sh, xb_map, xm_bind, xm_xp, xm_some, xm_ite, sh_Line_init_26003, sh_Message_init_0]
theorem sh_Line_init_26001 (B : Nat) (K : xk) (th : Nat) : kf_Line_init_26001 (xk_sh K B) (th + B) = (kf_Line_init_26001 K th).map (fun z => xk_sh z B) := by
  unfold kf_Line_init_26001
  simp only [xI_sh, xR_sh, xIs_sh, xZs_sh, xRs_sh, xRs_shs, xRs_shn, xIa_sh, xRa_sh, xIt_sh, xZt_sh, xRt_sh, xRt_shs, xNw_sh, xp_sh, xb_map, xm_bind, xm_xp, xm_some, xm_ite, sh_Line_init_26002, sh_Message_init_0]
theorem sh_Line_init_26000 (B : Nat) (K : xk) (th : Nat) : kf_Line_init_26000 (xk_sh K B) (th + B) = (kf_Line_init_26000 K th).map (fun z => xk_sh z B) := by
  unfold kf_Line_init_26000
  simp only [xI_sh, xR_sh, xIs_sh, xZs_sh, xRs_sh, xRs_shs, xRs_shn, xIa_sh, xRa_sh, xIt_sh, xZt_sh, xRt_sh, xRt_shs, xNw_sh, xp_sh, xb_map, xm_bind, xm_xp, xm_some, xm_ite, sh_Line_init_26001, sh_Message_init_0]
theorem sh_Line_init_0 (B : Nat) (K : xk) (th : Nat) : kf_Line_init_0 (xk_sh K B) (th + B) = (kf_Line_init_0 K th).map (fun z => xk_sh z B) := by
  unfold kf_Line_init_0
  simp only [xI_sh, xR_sh, xIs_sh, xZs_sh, xRs_sh, xRs_shs, xRs_shn, xIa_sh, xRa_sh, xIt_sh, xZt_sh, xRt_sh, xRt_shs, xNw_sh, xp_sh, xb_map, xm_bind, xm_xp, xm_some, xm_ite, sh_Line_init_26000, sh_Message_init_0]
theorem sh_Coordinator_init_0 (B : Nat) (K : xk) (th : Nat) : kf_Coordinator_init_0 (xk_sh K B) (th + B) = (kf_Coordinator_init_0 K th).map (fun z => xk_sh z B) := by
  unfold kf_Coordinator_init_0
  simp only [xI_sh, xR_sh, xIs_sh, xZs_sh, xRs_sh, xRs_shs, xRs_shn, xIa_sh, xRa_sh, xIt_sh, xZt_sh, xRt_sh, xRt_shs, xNw_sh, xp_sh, xb_map, xm_bind, xm_xp, xm_some, xm_ite]
theorem sh_Log_init_0 (B : Nat) (K : xk) (th : Nat) (x1 : Int32) : kf_Log_init_0 (xk_sh K B) (th + B) x1 = (kf_Log_init_0 K th x1).map (fun z => xk_sh z B) := by
  unfold kf_Log_init_0
  simp only [xI_sh, xR_sh, xIs_sh, xZs_sh, xRs_sh, xRs_shs, xRs_shn, xIa_sh, xRa_sh, xIt_sh, xZt_sh, xRt_sh, xRt_shs, xNw_sh, xp_sh, xb_map, xm_bind, xm_xp, xm_some, xm_ite]
theorem sh_Storage_init_0 (B : Nat) (K : xk) (th : Nat) (x1 : Int32) : kf_Storage_init_0 (xk_sh K B) (th + B) x1 = (kf_Storage_init_0 K th x1).map (fun z => xk_sh z B) := by
  unfold kf_Storage_init_0
  simp only [xI_sh, xR_sh, xIs_sh, xZs_sh, xRs_sh, xRs_shs, xRs_shn, xIa_sh, xRa_sh, xIt_sh, xZt_sh, xRt_sh, xRt_shs, xNw_sh, xp_sh, xb_map, xm_bind, xm_xp, xm_some, xm_ite]
theorem sh_Writes_init_0 (B : Nat) (K : xk) (th : Nat) : kf_Writes_init_0 (xk_sh K B) (th + B) = (kf_Writes_init_0 K th).map (fun z => xk_sh z B) := by
  unfold kf_Writes_init_0
  simp only [xI_sh, xR_sh, xIs_sh, xZs_sh, xRs_sh, xRs_shs, xRs_shn, xIa_sh, xRa_sh, xIt_sh, xZt_sh, xRt_sh, xRt_shs, xNw_sh, xp_sh, xb_map, xm_bind, xm_xp, xm_some, xm_ite]
theorem sh_Client_init_0 (B : Nat) (K : xk) (th : Nat) (x1 : Int32) : kf_Client_init_0 (xk_sh K B) (th + B) x1 = (kf_Client_init_0 K th x1).map (fun z => xk_sh z B) := by
  unfold kf_Client_init_0
  simp only [xI_sh, xR_sh, xIs_sh, xZs_sh, xRs_sh, xRs_shs, xRs_shn, xIa_sh, xRa_sh, xIt_sh, xZt_sh, xRt_sh, xRt_shs, xNw_sh, xp_sh, xb_map, xm_bind, xm_xp, xm_some, xm_ite, sh_Writes_init_0]
theorem shb_Master_init_63 (B : Nat) (rec1 rec2 : xk → Nat → Int32 → Int32 → Option xk) (hr : ∀ (K : xk) (th : Nat) (x3 : Int32) (x4 : Int32), rec2 (xk_sh K B) (th + B) x3 x4 = (rec1 K th x3 x4).map (fun z => xk_sh z B)) (K : xk) (th : Nat) (x3 : Int32) (x4 : Int32) : kb_Master_init_63 rec2 (xk_sh K B) (th + B) x3 x4 = (kb_Master_init_63 rec1 K th x3 x4).map (fun z => xk_sh z B) := by
  unfold kb_Master_init_63
  simp only [xI_sh, xR_sh, xIs_sh, xZs_sh, xRs_sh, xRs_shs, xRs_shn, xIa_sh, xRa_sh, xIt_sh, xZt_sh, xRt_sh, xRt_shs, xNw_sh, xp_sh, xb_map, xm_bind, xm_xp, xm_some, xm_ite, hr]
theorem sh_Master_init_63 (B : Nat) : ∀ (n : Nat) (K : xk) (th : Nat) (x3 : Int32) (x4 : Int32), kf_Master_init_63 n (xk_sh K B) (th + B) x3 x4 = (kf_Master_init_63 n K th x3 x4).map (fun z => xk_sh z B) := by
  intro n
  induction n with
  | zero => intros; rfl
  | succ n ih => intro K th x3 x4; exact shb_Master_init_63 B _ _ ih K th x3 x4
theorem sh_Master_init_50 (B : Nat) (K : xk) (th : Nat) (x3 : Int32) : kf_Master_init_50 (xk_sh K B) (th + B) x3 = (kf_Master_init_50 K th x3).map (fun z => xk_sh z B) := by
  unfold kf_Master_init_50
  simp only [xI_sh, xR_sh, xIs_sh, xZs_sh, xRs_sh, xRs_shs, xRs_shn, xIa_sh, xRa_sh, xIt_sh, xZt_sh, xRt_sh, xRt_shs, xNw_sh, xp_sh, xb_map, xm_bind, xm_xp, xm_some, xm_ite, sh_Master_init_63]
theorem sh_Master_init_0 (B : Nat) (K : xk) (th : Nat) (x1 : Int32) (x2 : Int32) (x3 : Int32) : kf_Master_init_0 (xk_sh K B) (th + B) x1 x2 x3 = (kf_Master_init_0 K th x1 x2 x3).map (fun z => xk_sh z B) := by
  unfold kf_Master_init_0
  simp only [xI_sh, xR_sh, xIs_sh, xZs_sh, xRs_sh, xRs_shs, xRs_shn, xIa_sh, xRa_sh, xIt_sh, xZt_sh, xRt_sh, xRt_shs, xNw_sh, xp_sh, xb_map, xm_bind, xm_xp, xm_some, xm_ite, sh_Master_init_50]
theorem sh_ES_init_138003 (B : Nat) (K : xk) (th : Nat) : kf_ES_init_138003 (xk_sh K B) (th + B) = (kf_ES_init_138003 K th).map (fun z => xk_sh z B) := by
  unfold kf_ES_init_138003
  simp only [xI_sh, xR_sh, xIs_sh, xZs_sh, xRs_sh, xRs_shs, xRs_shn, xIa_sh, xRa_sh, xIt_sh, xZt_sh, xRt_sh, xRt_shs, xNw_sh, xp_sh, xb_map, xm_bind, xm_xp, xm_some, xm_ite, sh_Master_init_0]
theorem sh_ES_init_138002 (B : Nat) (K : xk) (th : Nat) : kf_ES_init_138002 (xk_sh K B) (th + B) = (kf_ES_init_138002 K th).map (fun z => xk_sh z B) := by
  unfold kf_ES_init_138002
  simp only [xI_sh, xR_sh, xIs_sh, xZs_sh, xRs_sh, xRs_shs, xRs_shn, xIa_sh, xRa_sh, xIt_sh, xZt_sh, xRt_sh, xRt_shs, xNw_sh, xp_sh, xb_map, xm_bind, xm_xp, xm_some, xm_ite, sh_Client_init_0, sh_ES_init_138003]
theorem sh_ES_init_138001 (B : Nat) (K : xk) (th : Nat) : kf_ES_init_138001 (xk_sh K B) (th + B) = (kf_ES_init_138001 K th).map (fun z => xk_sh z B) := by
  unfold kf_ES_init_138001
  simp only [xI_sh, xR_sh, xIs_sh, xZs_sh, xRs_sh, xRs_shs, xRs_shn, xIa_sh, xRa_sh, xIt_sh, xZt_sh, xRt_sh, xRt_shs, xNw_sh, xp_sh, xb_map, xm_bind, xm_xp, xm_some, xm_ite, sh_Client_init_0, sh_ES_init_138002]
theorem sh_ES_init_138000 (B : Nat) (K : xk) (th : Nat) : kf_ES_init_138000 (xk_sh K B) (th + B) = (kf_ES_init_138000 K th).map (fun z => xk_sh z B) := by
  unfold kf_ES_init_138000
  simp only [xI_sh, xR_sh, xIs_sh, xZs_sh, xRs_sh, xRs_shs, xRs_shn, xIa_sh, xRa_sh, xIt_sh, xZt_sh, xRt_sh, xRt_shs, xNw_sh, xp_sh, xb_map, xm_bind, xm_xp, xm_some, xm_ite, sh_Client_init_0, sh_ES_init_138001]
theorem sh_ES_init_111002 (B : Nat) (K : xk) (th : Nat) : kf_ES_init_111002 (xk_sh K B) (th + B) = (kf_ES_init_111002 K th).map (fun z => xk_sh z B) := by
  unfold kf_ES_init_111002
  simp only [xI_sh, xR_sh, xIs_sh, xZs_sh, xRs_sh, xRs_shs, xRs_shn, xIa_sh, xRa_sh, xIt_sh, xZt_sh, xRt_sh, xRt_shs, xNw_sh, xp_sh, xb_map, xm_bind, xm_xp, xm_some, xm_ite, sh_ES_init_138000]
theorem sh_ES_init_111001 (B : Nat) (K : xk) (th : Nat) : kf_ES_init_111001 (xk_sh K B) (th + B) = (kf_ES_init_111001 K th).map (fun z => xk_sh z B) := by
  unfold kf_ES_init_111001
  simp only [xI_sh, xR_sh, xIs_sh, xZs_sh, xRs_sh, xRs_shs, xRs_shn, xIa_sh, xRa_sh, xIt_sh, xZt_sh, xRt_sh, xRt_shs, xNw_sh, xp_sh, xb_map, xm_bind, xm_xp, xm_some, xm_ite, sh_ES_init_111002, sh_Storage_init_0]
theorem sh_ES_init_111000 (B : Nat) (K : xk) (th : Nat) : kf_ES_init_111000 (xk_sh K B) (th + B) = (kf_ES_init_111000 K th).map (fun z => xk_sh z B) := by
  unfold kf_ES_init_111000
  simp only [xI_sh, xR_sh, xIs_sh, xZs_sh, xRs_sh, xRs_shs, xRs_shn, xIa_sh, xRa_sh, xIt_sh, xZt_sh, xRt_sh, xRt_shs, xNw_sh, xp_sh, xb_map, xm_bind, xm_xp, xm_some, xm_ite, sh_ES_init_111001, sh_Storage_init_0]
theorem sh_ES_init_84003 (B : Nat) (K : xk) (th : Nat) : kf_ES_init_84003 (xk_sh K B) (th + B) = (kf_ES_init_84003 K th).map (fun z => xk_sh z B) := by
  unfold kf_ES_init_84003
  simp only [xI_sh, xR_sh, xIs_sh, xZs_sh, xRs_sh, xRs_shs, xRs_shn, xIa_sh, xRa_sh, xIt_sh, xZt_sh, xRt_sh, xRt_shs, xNw_sh, xp_sh, xb_map, xm_bind, xm_xp, xm_some, xm_ite, sh_ES_init_111000]
theorem sh_ES_init_84002 (B : Nat) (K : xk) (th : Nat) : kf_ES_init_84002 (xk_sh K B) (th + B) = (kf_ES_init_84002 K th).map (fun z => xk_sh z B) := by
  unfold kf_ES_init_84002
  simp only [xI_sh, xR_sh, xIs_sh, xZs_sh, xRs_sh, xRs_shs, xRs_shn, xIa_sh, xRa_sh, xIt_sh, xZt_sh, xRt_sh, xRt_shs, xNw_sh, xp_sh, xb_map, xm_bind, xm_xp, xm_some, xm_ite, sh_ES_init_84003, sh_Log_init_0]
theorem sh_ES_init_84001 (B : Nat) (K : xk) (th : Nat) : kf_ES_init_84001 (xk_sh K B) (th + B) = (kf_ES_init_84001 K th).map (fun z => xk_sh z B) := by
  unfold kf_ES_init_84001
  simp only [xI_sh, xR_sh, xIs_sh, xZs_sh, xRs_sh, xRs_shs, xRs_shn, xIa_sh, xRa_sh, xIt_sh, xZt_sh, xRt_sh, xRt_shs, xNw_sh, xp_sh, xb_map, xm_bind, xm_xp, xm_some, xm_ite, sh_ES_init_84002, sh_Log_init_0]
theorem sh_ES_init_84000 (B : Nat) (K : xk) (th : Nat) : kf_ES_init_84000 (xk_sh K B) (th + B) = (kf_ES_init_84000 K th).map (fun z => xk_sh z B) := by
  unfold kf_ES_init_84000
  simp only [xI_sh, xR_sh, xIs_sh, xZs_sh, xRs_sh, xRs_shs, xRs_shn, xIa_sh, xRa_sh, xIt_sh, xZt_sh, xRt_sh, xRt_shs, xNw_sh, xp_sh, xb_map, xm_bind, xm_xp, xm_some, xm_ite, sh_ES_init_84001, sh_Log_init_0]
theorem sh_ES_init_58003 (B : Nat) (K : xk) (th : Nat) : kf_ES_init_58003 (xk_sh K B) (th + B) = (kf_ES_init_58003 K th).map (fun z => xk_sh z B) := by
  unfold kf_ES_init_58003
  simp only [xI_sh, xR_sh, xIs_sh, xZs_sh, xRs_sh, xRs_shs, xRs_shn, xIa_sh, xRa_sh, xIt_sh, xZt_sh, xRt_sh, xRt_shs, xNw_sh, xp_sh, xb_map, xm_bind, xm_xp, xm_some, xm_ite, sh_ES_init_84000]
theorem sh_ES_init_58002 (B : Nat) (K : xk) (th : Nat) : kf_ES_init_58002 (xk_sh K B) (th + B) = (kf_ES_init_58002 K th).map (fun z => xk_sh z B) := by
  unfold kf_ES_init_58002
  simp only [xI_sh, xR_sh, xIs_sh, xZs_sh, xRs_sh, xRs_shs, xRs_shn, xIa_sh, xRa_sh, xIt_sh, xZt_sh, xRt_sh, xRt_shs, xNw_sh, xp_sh, xb_map, xm_bind, xm_xp, xm_some, xm_ite, sh_Coordinator_init_0, sh_ES_init_58003]
theorem sh_ES_init_58001 (B : Nat) (K : xk) (th : Nat) : kf_ES_init_58001 (xk_sh K B) (th + B) = (kf_ES_init_58001 K th).map (fun z => xk_sh z B) := by
  unfold kf_ES_init_58001
  simp only [xI_sh, xR_sh, xIs_sh, xZs_sh, xRs_sh, xRs_shs, xRs_shn, xIa_sh, xRa_sh, xIt_sh, xZt_sh, xRt_sh, xRt_shs, xNw_sh, xp_sh, xb_map, xm_bind, xm_xp, xm_some, xm_ite, sh_Coordinator_init_0, sh_ES_init_58002]
theorem sh_ES_init_58000 (B : Nat) (K : xk) (th : Nat) : kf_ES_init_58000 (xk_sh K B) (th + B) = (kf_ES_init_58000 K th).map (fun z => xk_sh z B) := by
  unfold kf_ES_init_58000
  simp only [xI_sh, xR_sh, xIs_sh, xZs_sh, xRs_sh, xRs_shs, xRs_shn, xIa_sh, xRa_sh, xIt_sh, xZt_sh, xRt_sh, xRt_shs, xNw_sh, xp_sh, xb_map, xm_bind, xm_xp, xm_some, xm_ite, sh_Coordinator_init_0, sh_ES_init_58001]
theorem sh_ES_init_0 (B : Nat) (K : xk) (th : Nat) : kf_ES_init_0 (xk_sh K B) (th + B) = (kf_ES_init_0 K th).map (fun z => xk_sh z B) := by
  unfold kf_ES_init_0
  simp only [xI_sh, xR_sh, xIs_sh, xZs_sh, xRs_sh, xRs_shs, xRs_shn, xIa_sh, xRa_sh, xIt_sh, xZt_sh, xRt_sh, xRt_shs, xNw_sh, xp_sh, xb_map, xm_bind, xm_xp, xm_some, xm_ite, sh_ES_init_58000, sh_Line_init_0]
theorem shb_EM_init_584 (B : Nat) (rec1 rec2 : xk → Nat → Int32 → Option xk) (hr : ∀ (K : xk) (th : Nat) (x1 : Int32), rec2 (xk_sh K B) (th + B) x1 = (rec1 K th x1).map (fun z => xk_sh z B)) (K : xk) (th : Nat) (x1 : Int32) : kb_EM_init_584 rec2 (xk_sh K B) (th + B) x1 = (kb_EM_init_584 rec1 K th x1).map (fun z => xk_sh z B) := by
  unfold kb_EM_init_584
  simp only [xI_sh, xR_sh, xIs_sh, xZs_sh, xRs_sh, xRs_shs, xRs_shn, xIa_sh, xRa_sh, xIt_sh, xZt_sh, xRt_sh, xRt_shs, xNw_sh, xp_sh, xb_map, xm_bind, xm_xp, xm_some, xm_ite, hr]
theorem sh_EM_init_584 (B : Nat) : ∀ (n : Nat) (K : xk) (th : Nat) (x1 : Int32), kf_EM_init_584 n (xk_sh K B) (th + B) x1 = (kf_EM_init_584 n K th x1).map (fun z => xk_sh z B) := by
  intro n
  induction n with
  | zero => intros; rfl
  | succ n ih => intro K th x1; exact shb_EM_init_584 B _ _ ih K th x1
theorem sh_EM_init_558 (B : Nat) (K : xk) (th : Nat) : kf_EM_init_558 (xk_sh K B) (th + B) = (kf_EM_init_558 K th).map (fun z => xk_sh z B) := by
  unfold kf_EM_init_558
  simp only [xI_sh, xR_sh, xIs_sh, xZs_sh, xRs_sh, xRs_shs, xRs_shn, xIa_sh, xRa_sh, xIt_sh, xZt_sh, xRt_sh, xRt_shs, xNw_sh, xp_sh, xb_map, xm_bind, xm_xp, xm_some, xm_ite, sh_EM_init_584]
theorem sh_EM_init_510 (B : Nat) (K : xk) (th : Nat) : kf_EM_init_510 (xk_sh K B) (th + B) = (kf_EM_init_510 K th).map (fun z => xk_sh z B) := by
  unfold kf_EM_init_510
  simp only [xI_sh, xR_sh, xIs_sh, xZs_sh, xRs_sh, xRs_shs, xRs_shn, xIa_sh, xRa_sh, xIt_sh, xZt_sh, xRt_sh, xRt_shs, xNw_sh, xp_sh, xb_map, xm_bind, xm_xp, xm_some, xm_ite, sh_EM_init_558]
theorem sh_EM_init_463 (B : Nat) (K : xk) (th : Nat) : kf_EM_init_463 (xk_sh K B) (th + B) = (kf_EM_init_463 K th).map (fun z => xk_sh z B) := by
  unfold kf_EM_init_463
  simp only [xI_sh, xR_sh, xIs_sh, xZs_sh, xRs_sh, xRs_shs, xRs_shn, xIa_sh, xRa_sh, xIt_sh, xZt_sh, xRt_sh, xRt_shs, xNw_sh, xp_sh, xb_map, xm_bind, xm_xp, xm_some, xm_ite, sh_EM_init_510]
theorem sh_EM_init_420 (B : Nat) (K : xk) (th : Nat) : kf_EM_init_420 (xk_sh K B) (th + B) = (kf_EM_init_420 K th).map (fun z => xk_sh z B) := by
  unfold kf_EM_init_420
  simp only [xI_sh, xR_sh, xIs_sh, xZs_sh, xRs_sh, xRs_shs, xRs_shn, xIa_sh, xRa_sh, xIt_sh, xZt_sh, xRt_sh, xRt_shs, xNw_sh, xp_sh, xb_map, xm_bind, xm_xp, xm_some, xm_ite, sh_EM_init_463]
theorem sh_EM_init_386 (B : Nat) (K : xk) (th : Nat) : kf_EM_init_386 (xk_sh K B) (th + B) = (kf_EM_init_386 K th).map (fun z => xk_sh z B) := by
  unfold kf_EM_init_386
  simp only [xI_sh, xR_sh, xIs_sh, xZs_sh, xRs_sh, xRs_shs, xRs_shn, xIa_sh, xRa_sh, xIt_sh, xZt_sh, xRt_sh, xRt_shs, xNw_sh, xp_sh, xb_map, xm_bind, xm_xp, xm_some, xm_ite, sh_EM_init_420]
theorem sh_EM_init_337 (B : Nat) (K : xk) (th : Nat) : kf_EM_init_337 (xk_sh K B) (th + B) = (kf_EM_init_337 K th).map (fun z => xk_sh z B) := by
  unfold kf_EM_init_337
  simp only [xI_sh, xR_sh, xIs_sh, xZs_sh, xRs_sh, xRs_shs, xRs_shn, xIa_sh, xRa_sh, xIt_sh, xZt_sh, xRt_sh, xRt_shs, xNw_sh, xp_sh, xb_map, xm_bind, xm_xp, xm_some, xm_ite, sh_EM_init_386]
theorem sh_EM_init_289 (B : Nat) (K : xk) (th : Nat) : kf_EM_init_289 (xk_sh K B) (th + B) = (kf_EM_init_289 K th).map (fun z => xk_sh z B) := by
  unfold kf_EM_init_289
  simp only [xI_sh, xR_sh, xIs_sh, xZs_sh, xRs_sh, xRs_shs, xRs_shn, xIa_sh, xRa_sh, xIt_sh, xZt_sh, xRt_sh, xRt_shs, xNw_sh, xp_sh, xb_map, xm_bind, xm_xp, xm_some, xm_ite, sh_EM_init_337]
theorem sh_EM_init_241 (B : Nat) (K : xk) (th : Nat) : kf_EM_init_241 (xk_sh K B) (th + B) = (kf_EM_init_241 K th).map (fun z => xk_sh z B) := by
  unfold kf_EM_init_241
  simp only [xI_sh, xR_sh, xIs_sh, xZs_sh, xRs_sh, xRs_shs, xRs_shn, xIa_sh, xRa_sh, xIt_sh, xZt_sh, xRt_sh, xRt_shs, xNw_sh, xp_sh, xb_map, xm_bind, xm_xp, xm_some, xm_ite, sh_EM_init_289]
theorem sh_EM_init_191 (B : Nat) (K : xk) (th : Nat) : kf_EM_init_191 (xk_sh K B) (th + B) = (kf_EM_init_191 K th).map (fun z => xk_sh z B) := by
  unfold kf_EM_init_191
  simp only [xI_sh, xR_sh, xIs_sh, xZs_sh, xRs_sh, xRs_shs, xRs_shn, xIa_sh, xRa_sh, xIt_sh, xZt_sh, xRt_sh, xRt_shs, xNw_sh, xp_sh, xb_map, xm_bind, xm_xp, xm_some, xm_ite, sh_EM_init_241]
theorem sh_EM_init_159 (B : Nat) (K : xk) (th : Nat) : kf_EM_init_159 (xk_sh K B) (th + B) = (kf_EM_init_159 K th).map (fun z => xk_sh z B) := by
  unfold kf_EM_init_159
  simp only [xI_sh, xR_sh, xIs_sh, xZs_sh, xRs_sh, xRs_shs, xRs_shn, xIa_sh, xRa_sh, xIt_sh, xZt_sh, xRt_sh, xRt_shs, xNw_sh, xp_sh, xb_map, xm_bind, xm_xp, xm_some, xm_ite, sh_EM_init_191]
theorem sh_EM_init_118 (B : Nat) (K : xk) (th : Nat) : kf_EM_init_118 (xk_sh K B) (th + B) = (kf_EM_init_118 K th).map (fun z => xk_sh z B) := by
  unfold kf_EM_init_118
  simp only [xI_sh, xR_sh, xIs_sh, xZs_sh, xRs_sh, xRs_shs, xRs_shn, xIa_sh, xRa_sh, xIt_sh, xZt_sh, xRt_sh, xRt_shs, xNw_sh, xp_sh, xb_map, xm_bind, xm_xp, xm_some, xm_ite, sh_EM_init_159]
theorem sh_EM_init_80 (B : Nat) (K : xk) (th : Nat) : kf_EM_init_80 (xk_sh K B) (th + B) = (kf_EM_init_80 K th).map (fun z => xk_sh z B) := by
  unfold kf_EM_init_80
  simp only [xI_sh, xR_sh, xIs_sh, xZs_sh, xRs_sh, xRs_shs, xRs_shn, xIa_sh, xRa_sh, xIt_sh, xZt_sh, xRt_sh, xRt_shs, xNw_sh, xp_sh, xb_map, xm_bind, xm_xp, xm_some, xm_ite, sh_EM_init_118]
theorem sh_EM_init_42 (B : Nat) (K : xk) (th : Nat) : kf_EM_init_42 (xk_sh K B) (th + B) = (kf_EM_init_42 K th).map (fun z => xk_sh z B) := by
  unfold kf_EM_init_42
  simp only [xI_sh, xR_sh, xIs_sh, xZs_sh, xRs_sh, xRs_shs, xRs_shn, xIa_sh, xRa_sh, xIt_sh, xZt_sh, xRt_sh, xRt_shs, xNw_sh, xp_sh, xb_map, xm_bind, xm_xp, xm_some, xm_ite, sh_EM_init_80]
theorem sh_EM_init_0 (B : Nat) (K : xk) (th : Nat) : kf_EM_init_0 (xk_sh K B) (th + B) = (kf_EM_init_0 K th).map (fun z => xk_sh z B) := by
  unfold kf_EM_init_0
  simp only [xI_sh, xR_sh, xIs_sh, xZs_sh, xRs_sh, xRs_shs, xRs_shn, xIa_sh, xRa_sh, xIt_sh, xZt_sh, xRt_sh, xRt_shs, xNw_sh, xp_sh, xb_map, xm_bind, xm_xp, xm_some, xm_ite, sh_EM_init_42]
