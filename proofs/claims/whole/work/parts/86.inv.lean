section
-- what holds between the two sides, component by component
def iX (K : xk) (B : Nat) : Prop := 119 + B ≤ xk_nx K ∧ ∀ a, xk_nx K ≤ a → xk_kd K a = 0
/-- a Writes object and what it holds: the values of written keys alone -/
def wr (K : xk) (w : Nat) (m : Int32) (f : Nat → Int32) : Prop := xk_kd K w = 2 + 1 ∧ xk_iv K 2 0 w = m ∧ xk_rv K 2 1 w = some (w + 1) ∧ xk_kd K (w + 1) = 100 + 0 ∧ xk_ln K (w + 1) = 8 ∧ ∀ x, x < 8 → bt m x = true → xk_ai K (w + 1) x = f x
/-- an Entry; its writes are among those that nobody changes any more (fz), its version among those ever given (V) -/
def en (K : xk) (fz : Nat → Prop) (V : List Int32) (a : Nat) (v b m : Int32) (f : Nat → Int32) : Prop := xk_kd K a = 3 + 1 ∧ xk_iv K 3 0 a = v ∧ xk_iv K 3 1 a = b ∧ v ∈ V ∧ ∃ w, xk_rv K 3 2 a = some w ∧ fz w ∧ wr K w m f
def mb (M : xm) (E : Nat) (h : Nat → Int32) : Prop := ∃ c e : Nat, c < 3 ∧ h 49 = nI c ∧ 1 ≤ e ∧ e ≤ E ∧ h 50 = nI e ∧ bt (M 18 e) c = true
/-- a message: f, g its fields in the class, h, ct its row in the reference -/
def mv (K : xk) (M : xm) (fz : Nat → Prop) (V : List Int32) (E : Nat) (f : Nat → Int32) (g : Nat → Option Nat) (h ct : Nat → Int32) : Prop :=
  f 0 = h 48 ∧ f 1 = h 49 ∧ f 2 = h 50 ∧ f 3 = h 51 ∧ (∃ c : Nat, c < 3 ∧ h 49 = nI c) ∧ (∃ e : Nat, 1 ≤ e ∧ e ≤ 9 ∧ h 50 = nI e) ∧
  ((h 48 = 1 ∧ h 51 = 0 ∧ f 4 = h 52) ∨ (h 48 = 2 ∧ h 51 = 0 ∧ f 5 = h 52) ∨ (h 48 = 3 ∧ h 51 = 0 ∧ f 5 = h 52 ∧ mb M E h) ∨ (h 48 = 4 ∧ f 4 = h 52) ∨
   (h 48 = 5 ∧ f 4 = h 52 ∧ f 7 = h 53 ∧ ∃ w, g 8 = some w ∧ fz w ∧ wr K w (h 54) ct) ∨ (h 48 = 6 ∧ ∃ a, g 9 = some a ∧ en K fz V a (h 51) (h 53) (h 54) ct) ∨ (h 48 = 7 ∧ mb M E h) ∨
   (h 48 = 8 ∧ f 4 = h 52 ∧ f 6 = h 54 ∧ (h 54 = 4 ∨ h 54 = 5 ∧ h 51 = 0 ∨ h 54 = 6 ∧ h 51 = 0)))
def jB (M : xm) : Prop := ∀ i, i < 3 → (M 1 i = 0 ∨ M 1 i = 1) ∧ (M 3 i = 0 ∨ M 3 i = 1) ∧ (M 11 i = 0 ∨ M 11 i = 1)
def jL (K : xk) (M : xm) (B : Nat) (fz : Nat → Prop) (V : List Int32) : Prop := ∀ i, i < 3 → xk_rv K 9 4 (37 + 3 * i + B) = some (38 + 3 * i + B) ∧ xk_rv K 9 5 (37 + 3 * i + B) = some (39 + 3 * i + B) ∧ xk_kd K (38 + 3 * i + B) = 100 + 0 ∧ xk_ln K (38 + 3 * i + B) = 10 ∧ (∀ e, e < 10 → xk_ai K (38 + 3 * i + B) e = M 9 (10 * i + e)) ∧ xk_kd K (39 + 3 * i + B) = 100 + 8 ∧ xk_ln K (39 + 3 * i + B) = 100 ∧
  ∃ n : Nat, n ≤ 100 ∧ M 5 i = nI n ∧ ∀ j, j < n → ∃ a b, xk_ar K (39 + 3 * i + B) j = some a ∧ en K fz V a (M 6 (100 * i + j)) b (M 7 (100 * i + j)) (fun x => M 8 (8 * (100 * i + j) + x))
def jT (K : xk) (M : xm) (B : Nat) (fz : Nat → Prop) (V : List Int32) (P : Nat) : Prop := ∀ i, i < 2 → xk_iv K 10 0 (46 + 2 * i + B) = (if i = 0 then 15 else 240) ∧ xk_rv K 10 4 (46 + 2 * i + B) = some (47 + 2 * i + B) ∧ xk_kd K (47 + 2 * i + B) = 100 + 8 ∧ xk_ln K (47 + 2 * i + B) = 100 ∧
  ∃ n : Nat, n ≤ P ∧ n ≤ V.length ∧ M 13 i = nI n ∧ (∀ j, j < n → ∃ a b m, xk_ar K (47 + 2 * i + B) j = some a ∧ M 15 (128 * i + j) = (m &&& (if i = 0 then 15 else 240)) ∧ en K fz V a (M 14 (128 * i + j)) b m (fun x => M 16 (8 * (128 * i + j) + x))) ∧
    (∀ j, j < n → M 14 (128 * i + j) ≤ M 12 i) ∧ ∀ j k, j < k → k < n → M 14 (128 * i + j) < M 14 (128 * i + k)
def jU (K : xk) (M : xm) (B : Nat) (fz : Nat → Prop) : Prop := (∀ i, i < 3 → ∃ w, xk_rv K 11 8 (50 + 3 * i + B) = some w ∧ wr K w (M 44 i) (fun x => M 45 (8 * i + x)) ∧ (M 40 i = 1 ∨ M 40 i = 2 → ¬ fz w)) ∧ ∀ i k w, i < 3 → k < 3 → xk_rv K 11 8 (50 + 3 * i + B) = some w → xk_rv K 11 8 (50 + 3 * k + B) = some w → i = k
def jMa (K : xk) (M : xm) (e ma : Nat) : Prop := xk_kd K ma = 8 + 1 ∧ xk_iv K 8 0 ma = nI e ∧ xk_iv K 8 1 ma = M 18 e ∧ xk_iv K 8 2 ma = M 19 e ∧ xk_iv K 8 3 ma = M 20 e ∧ xk_iv K 8 4 ma = M 21 e ∧ xk_iv K 8 5 ma = M 22 e ∧ xk_iv K 8 9 ma = M 24 e ∧ xk_rv K 8 6 ma = some (ma + 1) ∧ xk_kd K (ma + 1) = 100 + 0 ∧ xk_ln K (ma + 1) = 8 ∧ (∀ k, k < 8 → xk_ai K (ma + 1) k = M 23 (8 * e + k)) ∧
  xk_rv K 8 7 ma = some (ma + 2) ∧ xk_kd K (ma + 2) = 100 + 9 ∧ xk_ln K (ma + 2) = 8 ∧ xk_rv K 8 10 ma = some (ma + 3) ∧ xk_kd K (ma + 3) = 100 + 10 ∧ xk_ln K (ma + 3) = 8
def jM (K : xk) (M : xm) (B : Nat) : Prop := xk_kd K (5 + B) = 100 + 6 ∧ xk_ln K (5 + B) = 10 ∧ ∀ e, 1 ≤ e → e ≤ 9 → (M 17 e = 0 ∧ xk_ar K (5 + B) e = none) ∨ (M 17 e = 1 ∧ ∃ ma, xk_ar K (5 + B) e = some ma ∧ jMa K M e ma)
def jQ (K : xk) (M : xm) (B : Nat) : Prop := ∀ e ma, 1 ≤ e → e ≤ 9 → xk_ar K (5 + B) e = some ma → ∃ n : Nat, n ≤ 8 ∧ M 25 e = nI n ∧ xk_iv K 8 8 ma = nI n ∧ ∀ i, i < n → ∃ q, xk_ar K (ma + 2) i = some q ∧ xk_kd K q = 6 + 1 ∧ xk_iv K 6 0 q = M 26 (8 * e + i) ∧ xk_iv K 6 1 q = M 27 (8 * e + i) ∧ xk_iv K 6 2 q = M 28 (8 * e + i) ∧ xk_iv K 6 3 q = M 29 (8 * e + i) ∧ (∃ c : Nat, c < 3 ∧ M 27 (8 * e + i) = nI c) ∧ ∀ b, b < 32 → bt (M 29 (8 * e + i)) b = true → bt (M 18 e) b = true
def jY (K : xk) (M : xm) (B : Nat) (fz : Nat → Prop) (V : List Int32) (D : Nat → Nat) : Prop := ∀ e ma, 1 ≤ e → e ≤ 9 → xk_ar K (5 + B) e = some ma → ∃ n : Nat, n + D e ≤ 8 ∧ M 30 e = nI n ∧ xk_iv K 8 11 ma = nI (n + D e) ∧ ∀ i, i < n → ∃ y, xk_ar K (ma + 3) (i + D e) = some y ∧ xk_kd K y = 7 + 1 ∧ xk_iv K 7 1 y = M 36 (8 * e + i) ∧ xk_iv K 7 2 y = M 37 (8 * e + i) ∧ xk_iv K 7 3 y = M 35 (8 * e + i) ∧ (∃ c : Nat, c < 3 ∧ M 36 (8 * e + i) = nI c) ∧ (∀ b, b < 32 → bt (M 35 (8 * e + i)) b = true → bt (M 18 e) b = true) ∧
  ∃ a, xk_rv K 7 0 y = some a ∧ en K fz V a (M 31 (8 * e + i)) (M 32 (8 * e + i)) (M 33 (8 * e + i)) (fun x => M 34 (8 * (8 * e + i) + x))
def jDq (K : xk) (M : xm) (B : Nat) : Prop := ∀ e d ma md n k i j a, 1 ≤ e → e ≤ 9 → 1 ≤ d → d ≤ 9 → xk_ar K (5 + B) e = some ma → xk_ar K (5 + B) d = some md → M 25 e = nI n → n ≤ 8 → M 25 d = nI k → k ≤ 8 → i < n → j < k → xk_ar K (ma + 2) i = some a → xk_ar K (md + 2) j = some a → e = d ∧ i = j
def jDy (K : xk) (M : xm) (B : Nat) (D : Nat → Nat) : Prop := ∀ e d ma md n k i j a, 1 ≤ e → e ≤ 9 → 1 ≤ d → d ≤ 9 → xk_ar K (5 + B) e = some ma → xk_ar K (5 + B) d = some md → M 30 e = nI n → n ≤ 8 → M 30 d = nI k → k ≤ 8 → i < n → j < k → xk_ar K (ma + 3) (i + D e) = some a → xk_ar K (md + 3) (j + D d) = some a → e = d ∧ i = j
def jS (K : xk) (B c : Nat) (R : Nat → Nat) : Prop := xk_kd K (6 + B) = 5 + 1 ∧ xk_rv K 5 0 (6 + B) = some (7 + B) ∧ xk_kd K (7 + B) = 100 + 7 ∧ xk_ln K (7 + B) = 25 ∧ xk_rv K 5 1 (6 + B) = some (8 + B) ∧ xk_kd K (8 + B) = 4 + 1 ∧ c ≤ 24 ∧ xk_iv K 5 2 (6 + B) = nI c ∧ (∀ k, k < 25 → xk_ar K (7 + B) k = some (R k) ∧ xk_kd K (R k) = 4 + 1 ∧ R k ≠ 8 + B) ∧ ∀ j k, j < 25 → k < 25 → R j = R k → j = k
def jG (K : xk) (M : xm) (fz : Nat → Prop) (V : List Int32) (E c : Nat) (R : Nat → Nat) : Prop := M xm_l 0 = nI c ∧ ∀ k, k < c → mv K M fz V E (fun j => xk_iv K 4 j (R k)) (fun j => xk_rv K 4 j (R k)) (fun j => M j k) (fun x => M 55 (8 * k + x))
def jE (M : xm) (E : Nat) : Prop := 1 ≤ E ∧ E ≤ 9 ∧ (∀ i, i < 3 → ∃ e : Nat, 1 ≤ e ∧ e ≤ E ∧ M 0 i = nI e) ∧ (∃ i k, i < 3 ∧ k < 3 ∧ i ≠ k ∧ M 0 i = nI E ∧ M 0 k = nI E) ∧ (∀ e, E < e → e ≤ 9 → M 17 e = 0 ∧ M 24 e = 0 ∧ M 25 e = 0 ∧ M 30 e = 0) ∧
  (∀ i, i < 3 → ∃ e : Nat, 1 ≤ e ∧ e ≤ E ∧ M 2 i = nI e ∧ bt (M 18 e) i = true) ∧ (∀ i, i < 2 → ∃ e : Nat, 1 ≤ e ∧ e ≤ 9 ∧ M 10 i = nI e) ∧ ∀ i, i < 3 → ∃ e : Nat, 1 ≤ e ∧ e ≤ 9 ∧ M 38 i = nI e
/-- how many calls a transaction has cost so far -/
def ph (s m : Int32) : Nat := if s = 1 then (if m = 0 then 1 else 2) else if s = 2 then (if m = 0 then 2 else 3) else 0
def cN (t : Nat → Int32) : Nat → Nat
  | 0 => 0
  | c + 1 => cN t c + (if t c = 5 then 1 else 0)
def jN (M : xm) (V : List Int32) (P n c : Nat) : Prop := 5 * V.length + P + (ph (M 40 0) (M 44 0) + ph (M 40 1) (M 44 1) + ph (M 40 2) (M 44 2)) + 4 * cN (M 48) c ≤ n
def iA (B : Nat) (fz : Nat → Prop) (V : List Int32) (E P : Nat) (D : Nat → Nat) (c : Nat) (R : Nat → Nat) (n : Nat) (K : xk) (M : xm) : Prop :=
  iX K B ∧ iO K B ∧ iC K M B ∧ iL K M B ∧ iT K M B ∧ iU K M B ∧ jB M ∧ jL K M B fz V ∧ jT K M B fz V P ∧ jU K M B fz ∧ jM K M B ∧ jQ K M B ∧ jY K M B fz V D ∧ jDq K M B ∧ jDy K M B D ∧ jS K B c R ∧ jG K M fz V E c R ∧ jE M E ∧ jN M V P n c
def iV (B : Nat) (n : Nat) (K : xk) (M : xm) : Prop := ∃ fz V E P c R, iA B fz V E P (fun _ => 0) c R n K M
end
