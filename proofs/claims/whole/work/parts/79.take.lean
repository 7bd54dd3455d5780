-- a row of references, replaced as a whole
def xk_row (K : xk) (a : Nat) (g : Nat → Option Nat) : xk := (K.1, K.2.1, K.2.2.1, K.2.2.2.1, K.2.2.2.2.1, fun b j => if b = a then g j else K.2.2.2.2.2.1 b j, K.2.2.2.2.2.2)
theorem row_ar (K : xk) (a : Nat) (g : Nat → Option Nat) (j : Nat) : xk_ar (xk_row K a g) a j = g j := by show (if a = a then _ else _) = _; rw [if_pos rfl]
theorem row_ne (K : xk) {a b : Nat} (g : Nat → Option Nat) (j : Nat) (h : b ≠ a) : xk_ar (xk_row K a g) b j = xk_ar K b j := by show (if b = a then _ else _) = _; rw [if_neg h]; rfl
theorem row_self (K : xk) (a : Nat) : xk_row K a (xk_ar K a) = K := by
  have h : (fun b j => if b = a then xk_ar K a j else K.2.2.2.2.2.1 b j) = K.2.2.2.2.2.1 := by
    funext b j
    by_cases hb : b = a
    · subst hb; rw [if_pos rfl]; rfl
    · rw [if_neg hb]
  show (K.1, K.2.1, K.2.2.1, K.2.2.2.1, K.2.2.2.2.1, _, K.2.2.2.2.2.2) = K
  rw [h]
theorem row_tR (K : xk) (a i : Nat) (g : Nat → Option Nat) (v : Option Nat) : xk_tR (xk_row K a g) a i v = xk_row K a (fun j => if j = i then v else g j) := by
  have h : (fun b j => if b = a ∧ j = i then v else (xk_row K a g).2.2.2.2.2.1 b j) = (xk_row K a (fun j => if j = i then v else g j)).2.2.2.2.2.1 := by
    funext b j
    show (if b = a ∧ j = i then v else if b = a then g j else K.2.2.2.2.2.1 b j) = if b = a then (if j = i then v else g j) else K.2.2.2.2.2.1 b j
    by_cases hb : b = a
    · by_cases hj : j = i
      · rw [if_pos ⟨hb, hj⟩, if_pos hb, if_pos hj]
      · rw [if_neg (fun q => hj q.2), if_pos hb, if_pos hb, if_neg hj]
    · rw [if_neg (fun q => hb q.1), if_neg hb, if_neg hb]
  show ((xk_row K a g).1, (xk_row K a g).2.1, (xk_row K a g).2.2.1, (xk_row K a g).2.2.2.1, (xk_row K a g).2.2.2.2.1, _, (xk_row K a g).2.2.2.2.2.2) = _
  rw [h]
  rfl
/-- the row behind a message that is taken -/
def tk_row (g : Nat → Option Nat) (x : Option Nat) (i : Nat) : Nat → Option Nat := fun j => if j < i then g j else if j < 24 then g (j + 1) else if j = 24 then x else g j
theorem tk_loop {K : xk} {B : Nat} {x : Option Nat} (g1 : xk_kd K (6 + B) = 5 + 1) (g2 : xk_rv K 5 0 (6 + B) = some (7 + B)) (g3 : xk_kd K (7 + B) = 100 + 7) (g4 : xk_ln K (7 + B) = 25) (hx : x.elim (4 + 1) (xk_kd K) = 4 + 1) :
    ∀ (d i n : Nat) (g : Nat → Option Nat), i + d = 24 → d < n → (∀ j, j ≤ 24 → (g j).elim (4 + 1) (xk_kd K) = 4 + 1) →
      kf_Line_take_9 n (xk_row K (7 + B) g) (6 + B) x (nI i) = some (x, xk_sI (xk_row K (7 + B) (tk_row g x i)) 5 2 (6 + B) (xk_iv K 5 2 (6 + B) - 1)) := by
  intro d
  induction d with
  | zero =>
    intro i n g hi hn hg
    obtain ⟨n, rfl⟩ : ∃ m, n = m + 1 := ⟨n - 1, by omega⟩
    have i24 : i = 24 := by omega
    subst i24
    show kb_Line_take_9 (kf_Line_take_9 n) (xk_row K (7 + B) g) (6 + B) x (nI 24) = _
    unfold kb_Line_take_9 kf_Line_take_53
    have h24 : (24 : Int32) ≤ nI 24 := nI_le (a := 24) (b := 24) (Nat.le_refl _) (by decide)
    have e0 : xR (xk_row K (7 + B) g) 5 0 (6 + B) = some (some (7 + B)) := by rw [xR_ok (by exact g1)]; exact congrArg some g2
    have e1 : xRt (xk_row K (7 + B) g) 7 4 (7 + B) (nI 24) x = some (xk_row K (7 + B) (fun j => if j = 24 then x else g j)) := by rw [xRt_ok (n := 25) (by exact g3) (by exact g4) (by decide) (by decide) (by exact hx), row_tR]
    rw [if_pos h24, e0, xb_some, xb_some]
    show ((xRt (xk_row K (7 + B) g) 7 4 (7 + B) (nI 24) x).bind _) = _
    rw [e1, xb_some, xI_ok (by exact g1), xb_some, xIs_ok (by exact g1), xb_some]
    have er : (fun j => if j = 24 then x else g j) = tk_row g x 24 := by
      funext j
      unfold tk_row
      by_cases hj : j < 24
      · rw [if_neg (by omega), if_pos hj]
      · rw [if_neg hj, if_neg hj]
    rw [er]
    rfl
  | succ d ih =>
    intro i n g hi hn hg
    obtain ⟨n, rfl⟩ : ∃ m, n = m + 1 := ⟨n - 1, by omega⟩
    show kb_Line_take_9 (kf_Line_take_9 n) (xk_row K (7 + B) g) (6 + B) x (nI i) = _
    unfold kb_Line_take_9
    have h24 : ¬ (24 : Int32) ≤ nI i := nI_ge (a := i) (b := 24) (by omega) (by decide)
    have e0 : xR (xk_row K (7 + B) g) 5 0 (6 + B) = some (some (7 + B)) := by rw [xR_ok (by exact g1)]; exact congrArg some g2
    have e1 : xRa (xk_row K (7 + B) g) 7 (7 + B) (nI (i + 1)) = some (g (i + 1)) := by rw [xRa_ok (n := 25) (by exact g3) (by exact g4) (by omega) (by decide), row_ar]
    have e2 : xRt (xk_row K (7 + B) g) 7 4 (7 + B) (nI i) (g (i + 1)) = some (xk_row K (7 + B) (fun j => if j = i then g (i + 1) else g j)) := by rw [xRt_ok (n := 25) (by exact g3) (by exact g4) (by omega) (by decide) (by exact hg (i + 1) (by omega)), row_tR]
    rw [if_neg h24, e0, xb_some, xb_some, xb_some, nI_1, e1, xb_some, xb_some, e2, xb_some, ih (i + 1) n _ (by omega) (by omega) (fun j hj => ?_)]
    · have er : tk_row (fun j => if j = i then g (i + 1) else g j) x (i + 1) = tk_row g x i := by
        funext j
        unfold tk_row
        dsimp only
        by_cases h1 : j < i
        · rw [if_pos (by omega), if_pos h1, if_neg (by omega)]
        · by_cases h2 : j = i
          · subst h2
            rw [if_pos (by omega), if_pos rfl, if_neg h1, if_pos (by omega)]
          · rw [if_neg (by omega), if_neg h1]
            by_cases h3 : j < 24
            · rw [if_pos h3, if_pos h3, if_neg (by omega)]
            · rw [if_neg h3, if_neg h3]
              by_cases h4 : j = 24
              · rw [if_pos h4, if_pos h4]
              · rw [if_neg h4, if_neg h4, if_neg (by omega)]
      rw [er]
    · by_cases h1 : j = i
      · rw [if_pos h1]; exact hg (i + 1) (by omega)
      · rw [if_neg h1]; exact hg j hj
theorem tk_class {K : xk} {B k : Nat} (g1 : xk_kd K (6 + B) = 5 + 1) (g2 : xk_rv K 5 0 (6 + B) = some (7 + B)) (g3 : xk_kd K (7 + B) = 100 + 7) (g4 : xk_ln K (7 + B) = 25) (hk : k < 24) (hg : ∀ j, j ≤ 24 → (xk_ar K (7 + B) j).elim (4 + 1) (xk_kd K) = 4 + 1) :
    kf_Line_take_0 K (6 + B) (nI k) = some (xk_ar K (7 + B) k, xk_sI (xk_row K (7 + B) (tk_row (xk_ar K (7 + B)) (xk_ar K (7 + B) k) k)) 5 2 (6 + B) (xk_iv K 5 2 (6 + B) - 1)) := by
  unfold kf_Line_take_0
  rw [xR_ok g1, g2, xb_some, xb_some, xRa_ok g3 g4 (by omega) (by decide), xb_some]
  have := tk_loop g1 g2 g3 g4 (hg k (by omega)) (24 - k) k 1000 (xk_ar K (7 + B)) (by omega) (by omega) hg
  rw [row_self] at this
  exact this
