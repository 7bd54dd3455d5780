-- what each reader sees behind each store
theorem xkd_sI (K : xk) (ci k a : Nat) (v : Int32) : xk_kd (xk_sI K ci k a v) = xk_kd K := rfl
theorem xln_sI (K : xk) (ci k a : Nat) (v : Int32) : xk_ln (xk_sI K ci k a v) = xk_ln K := rfl
theorem xiv_sI (K : xk) (ci k a : Nat) (v : Int32) (c j b : Nat) : xk_iv (xk_sI K ci k a v) c j b = if c = ci ∧ j = k ∧ b = a then v else xk_iv K c j b := rfl
theorem xrv_sI (K : xk) (ci k a : Nat) (v : Int32) : xk_rv (xk_sI K ci k a v) = xk_rv K := rfl
theorem xai_sI (K : xk) (ci k a : Nat) (v : Int32) : xk_ai (xk_sI K ci k a v) = xk_ai K := rfl
theorem xar_sI (K : xk) (ci k a : Nat) (v : Int32) : xk_ar (xk_sI K ci k a v) = xk_ar K := rfl
theorem xnx_sI (K : xk) (ci k a : Nat) (v : Int32) : xk_nx (xk_sI K ci k a v) = xk_nx K := rfl
theorem xkd_sR (K : xk) (ci k a : Nat) (v : Option Nat) : xk_kd (xk_sR K ci k a v) = xk_kd K := rfl
theorem xln_sR (K : xk) (ci k a : Nat) (v : Option Nat) : xk_ln (xk_sR K ci k a v) = xk_ln K := rfl
theorem xiv_sR (K : xk) (ci k a : Nat) (v : Option Nat) : xk_iv (xk_sR K ci k a v) = xk_iv K := rfl
theorem xrv_sR (K : xk) (ci k a : Nat) (v : Option Nat) (c j b : Nat) : xk_rv (xk_sR K ci k a v) c j b = if c = ci ∧ j = k ∧ b = a then v else xk_rv K c j b := rfl
theorem xai_sR (K : xk) (ci k a : Nat) (v : Option Nat) : xk_ai (xk_sR K ci k a v) = xk_ai K := rfl
theorem xar_sR (K : xk) (ci k a : Nat) (v : Option Nat) : xk_ar (xk_sR K ci k a v) = xk_ar K := rfl
theorem xnx_sR (K : xk) (ci k a : Nat) (v : Option Nat) : xk_nx (xk_sR K ci k a v) = xk_nx K := rfl
theorem xkd_tI (K : xk) (a i : Nat) (v : Int32) : xk_kd (xk_tI K a i v) = xk_kd K := rfl
theorem xln_tI (K : xk) (a i : Nat) (v : Int32) : xk_ln (xk_tI K a i v) = xk_ln K := rfl
theorem xiv_tI (K : xk) (a i : Nat) (v : Int32) : xk_iv (xk_tI K a i v) = xk_iv K := rfl
theorem xrv_tI (K : xk) (a i : Nat) (v : Int32) : xk_rv (xk_tI K a i v) = xk_rv K := rfl
theorem xai_tI (K : xk) (a i : Nat) (v : Int32) (b j : Nat) : xk_ai (xk_tI K a i v) b j = if b = a ∧ j = i then v else xk_ai K b j := rfl
theorem xar_tI (K : xk) (a i : Nat) (v : Int32) : xk_ar (xk_tI K a i v) = xk_ar K := rfl
theorem xnx_tI (K : xk) (a i : Nat) (v : Int32) : xk_nx (xk_tI K a i v) = xk_nx K := rfl
theorem xkd_tR (K : xk) (a i : Nat) (v : Option Nat) : xk_kd (xk_tR K a i v) = xk_kd K := rfl
theorem xln_tR (K : xk) (a i : Nat) (v : Option Nat) : xk_ln (xk_tR K a i v) = xk_ln K := rfl
theorem xiv_tR (K : xk) (a i : Nat) (v : Option Nat) : xk_iv (xk_tR K a i v) = xk_iv K := rfl
theorem xrv_tR (K : xk) (a i : Nat) (v : Option Nat) : xk_rv (xk_tR K a i v) = xk_rv K := rfl
theorem xai_tR (K : xk) (a i : Nat) (v : Option Nat) : xk_ai (xk_tR K a i v) = xk_ai K := rfl
theorem xar_tR (K : xk) (a i : Nat) (v : Option Nat) (b j : Nat) : xk_ar (xk_tR K a i v) b j = if b = a ∧ j = i then v else xk_ar K b j := rfl
theorem xnx_tR (K : xk) (a i : Nat) (v : Option Nat) : xk_nx (xk_tR K a i v) = xk_nx K := rfl
theorem xkd_new (K : xk) (n len : Nat) (b : Nat) : xk_kd (xk_new K n len) b = if b = xk_nx K then n else xk_kd K b := rfl
theorem xln_new (K : xk) (n len : Nat) (b : Nat) : xk_ln (xk_new K n len) b = if b = xk_nx K then len else xk_ln K b := rfl
theorem xiv_new (K : xk) (n len : Nat) (c j b : Nat) : xk_iv (xk_new K n len) c j b = if b = xk_nx K then 0 else xk_iv K c j b := rfl
theorem xrv_new (K : xk) (n len : Nat) (c j b : Nat) : xk_rv (xk_new K n len) c j b = if b = xk_nx K then none else xk_rv K c j b := rfl
theorem xai_new (K : xk) (n len : Nat) (b j : Nat) : xk_ai (xk_new K n len) b j = if b = xk_nx K then 0 else xk_ai K b j := rfl
theorem xar_new (K : xk) (n len : Nat) (b j : Nat) : xk_ar (xk_new K n len) b j = if b = xk_nx K then none else xk_ar K b j := rfl
theorem xnx_new (K : xk) (n len : Nat) : xk_nx (xk_new K n len) = xk_nx K + 1 := rfl
