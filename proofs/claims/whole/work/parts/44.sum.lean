/-! pure: bounds of sums, so that a divisor is told -/
def bnd (x : Int32) (X : Nat) : Prop := 0 ≤ x.toInt ∧ x.toInt ≤ X
def bab (x : Int32) (X : Nat) : Prop := -(X : Int) ≤ x.toInt ∧ x.toInt ≤ X
theorem bnd_nI {k : Nat} (h : k < 2 ^ 31) : bnd (nI k) k := by
  unfold bnd
  rw [nI_toInt h]
  omega
theorem bab_add {x y : Int32} {X Y : Nat} (h1 : bab x X) (h2 : bab y Y) (h : X + Y < 2 ^ 31) : bab (x + y) (X + Y) := by
  unfold bab at *
  rw [Int32.toInt_add, Int.bmod_eq_of_le (by omega) (by omega)]
  omega
theorem bnd_add {x y : Int32} {X Y : Nat} (h1 : bnd x X) (h2 : bnd y Y) (h : X + Y < 2 ^ 31) : bnd (x + y) (X + Y) := by
  unfold bnd at *
  rw [Int32.toInt_add, Int.bmod_eq_of_le (by omega) (by omega)]
  omega
theorem bab_sub {x y : Int32} {X : Nat} (h1 : bnd x X) (h2 : bnd y X) (h : X < 2 ^ 30) : bab (x - y) X := by
  unfold bnd bab at *
  rw [Int32.toInt_sub, Int.bmod_eq_of_le (by omega) (by omega)]
  omega
theorem bab_mul {x y : Int32} {X Y : Nat} (h1 : bnd x X) (h2 : bab y Y) (h : X * Y < 2 ^ 31) : bab (x * y) (X * Y) := by
  unfold bnd bab at *
  have a1 : x.toInt * y.toInt ≤ (X : Int) * Y := by
    by_cases q : 0 ≤ y.toInt
    · exact Int.mul_le_mul h1.2 h2.2 q (by omega)
    · have : x.toInt * y.toInt ≤ 0 := Int.mul_nonpos_of_nonneg_of_nonpos h1.1 (by omega)
      have : (0 : Int) ≤ (X : Int) * Y := Int.mul_nonneg (by omega) (by omega)
      omega
  have a2 : -((X : Int) * Y) ≤ x.toInt * y.toInt := by
    have : x.toInt * (-y.toInt) ≤ (X : Int) * Y := by
      by_cases q : 0 ≤ -y.toInt
      · exact Int.mul_le_mul h1.2 (by omega) q (by omega)
      · have : x.toInt * (-y.toInt) ≤ 0 := Int.mul_nonpos_of_nonneg_of_nonpos h1.1 (by omega)
        have : (0 : Int) ≤ (X : Int) * Y := Int.mul_nonneg (by omega) (by omega)
        omega
    rw [Int.mul_neg] at this
    omega
  have a3 : ((X * Y : Nat) : Int) = (X : Int) * Y := Int.natCast_mul X Y
  rw [Int32.toInt_mul, Int.bmod_eq_of_le (by omega) (by omega)]
  omega
theorem bnd_mx {x y : Int32} {X : Nat} (h1 : bnd x X) (h2 : bnd y X) : bnd (mx x y) X := by
  unfold mx
  split
  · first | exact h1 | exact h2
  · first | exact h2 | exact h1
theorem bnd_le {x : Int32} {X Y : Nat} (h : bnd x X) (hl : X ≤ Y) : bnd x Y := ⟨h.1, by have := h.2; omega⟩
theorem goL_bnd {len wt : Nat → Int32} {law : Nat} {g : Nat → Int32} {z : Nat} : ∀ (f X p : Nat) (hour : Int32) (row : Nat → Nat) (hrs w : Nat → Int32), X + f < 2 ^ 30 → bnd hour X → (∀ i, bnd (hrs i) X) → ∀ i, bnd ((goL len wt law g z f p hour row hrs w).2.1 i) (X + f) := by
  intro f
  induction f with
  | zero => intro X p hour row hrs w hX h1 h2 i; exact h2 i
  | succ f ih =>
    intro X p hour row hrs w hX h1 h2 i
    have nx : ∀ a b, bnd (nI 1 + mx hour (mx (hrs a) (hrs b))) (X + 1) := fun a b => by
      rw [Nat.add_comm]
      exact bnd_add (bnd_nI (by omega)) (bnd_mx h1 (bnd_mx (h2 a) (h2 b))) (by omega)
    have ux : ∀ (h' : Nat → Int32) (a : Nat) (x : Int32), (∀ i, bnd (h' i) (X + 1)) → bnd x (X + 1) → ∀ i, bnd (upd h' a x i) (X + 1) := fun h' a x q1 q2 i => by
      unfold upd
      split
      · exact q2
      · exact q1 i
    have h2' : ∀ i, bnd (hrs i) (X + 1) := fun i => bnd_le (h2 i) (by omega)
    by_cases hp : p < z
    · rw [show X + (f + 1) = X + 1 + f by omega]
      cases ht : twoF len row z p with
      | true =>
        rw [goL_two hp ht]
        refine ih (X + 1) _ _ _ _ _ (by omega) (nx (row p) (row (p + 1))) (fun j => ?_) i
        refine ux _ (row (p + 1)) _ (fun j => ?_) (nx (row p) (row (p + 1))) j
        exact ux hrs (row p) _ h2' (nx (row p) (row (p + 1))) j
      | false =>
        rw [goL_one hp ht]
        refine ih (X + 1) _ _ _ _ _ (by omega) (nx (row p) (row p)) (fun j => ?_) i
        exact ux _ (row p) _ (fun j => ux hrs (row p) _ h2' (nx (row p) (row p)) j) (nx (row p) (row p)) j
    · rw [goL_end hp]
      exact bnd_le (h2 i) (by omega)
theorem gos_bnd {C : CF} {z : Nat} : ∀ (k X : Nat) (S : ST), X + k * z < 2 ^ 29 → z < 2 ^ 20 → (∀ i, bnd (sHrs S i) X) → ∀ i, bnd (sHrs (gos C z k S) i) (X + k * z)
  | 0, X, S, _, _, h => fun i => by rw [Nat.zero_mul]; exact h i
  | k + 1, X, S, hX, hz, h => fun i => by
    have e : (k + 1) * z = z + k * z := by rw [Nat.succ_mul, Nat.add_comm]
    rw [e] at hX ⊢
    rw [← Nat.add_assoc] at hX ⊢
    exact gos_bnd k (X + z) (pass1 C z S) hX hz (fun j => goL_bnd z X 0 (nI 0) _ _ _ (by omega) (bnd_le (bnd_nI (k := 0) (by omega)) (Nat.zero_le _)) h j) i
theorem gH_bnd {row : Nat → Nat} {hrs : Nat → Int32} {X : Nat} (h : ∀ i, bnd (hrs i) X) : ∀ z, bnd (gH row hrs z) X
  | 0 => bnd_le (bnd_nI (k := 0) (by omega)) (Nat.zero_le _)
  | z + 1 => bnd_mx (gH_bnd h z) (h _)
theorem lh_bnd {C : CF} {S : ST} (hC : C.1 ≤ 6) (hL : C.2.1 ≤ 5) (s : Nat) : bnd (lh C S s) 30 := by
  have hz := fR_le (sRow S) s C.1
  have hm : (C.2.1 - sPsd S) * (fR (sRow S) s C.1).1 ≤ 5 * 6 := Nat.mul_le_mul (by omega) (by omega)
  exact gH_bnd (fun i => bnd_le (gos_bnd (C.2.1 - sPsd S) 0 (lhS C S s) (by omega) (by omega) (fun j => bnd_nI (k := 0) (by omega)) i) (by omega)) _
theorem fct_720 : ∀ n, n < 7 → fct n ≤ 720 := by decide +kernel
theorem fcp_ok : ∀ n, n < 7 → ∀ k, k < n → fct k * fct (n - 1 - k) ≤ 120 := by decide +kernel
theorem shrL_bnd {C : CF} {S : ST} {v : Nat} (hC : C.1 ≤ 6) (hL : C.2.1 ≤ 5) (hv : v < C.1) : ∀ (f k A : Nat) (acc : Int32), k + f ≤ 2 ^ C.1 → A + f * 3600 < 2 ^ 31 → bab acc A → bab (shrL C S v f k acc) (A + f * 3600)
  | 0, k, A, acc, _, _, h => by rw [Nat.zero_mul]; exact h
  | f + 1, k, A, acc, hk, hA, h => by
    rw [shrL]
    have e1 : A + (f + 1) * 3600 = A + 3600 + f * 3600 := by omega
    rw [e1]
    split
    · rename_i c
      have hb := bc_le C.1 (by omega) k (by omega) v hv c
      have hf := fcp_ok C.1 (by omega) (bc k) hb
      have t : bab (nI (fct (bc k)) * nI (fct (C.1 - 1 - bc k)) * (lh C S (k + 2 ^ v) - lh C S k)) 3600 := by
        rw [nI_mul]
        have m1 := bab_mul (X := fct (bc k) * fct (C.1 - 1 - bc k)) (Y := 30) (bnd_nI (by omega)) (bab_sub (lh_bnd (S := S) hC hL (k + 2 ^ v)) (lh_bnd (S := S) hC hL k) (by omega)) (by omega)
        refine ⟨?_, ?_⟩
        · have := m1.1; omega
        · have := m1.2; omega
      exact shrL_bnd hC hL hv f (k + 1) (A + 3600) _ (by omega) (by omega) (bab_add h t (by omega))
    · exact shrL_bnd hC hL hv f (k + 1) (A + 3600) _ (by omega) (by omega) ⟨by have := h.1; omega, by have := h.2; omega⟩
/-- the divisor that the model takes, and what the program tells -/
theorem abs_eq (a : Int32) : (if a < 0 then -a else a) = (if 0 ≤ a then a else 0 - a) := by
  by_cases h : a < 0
  · rw [if_pos h, if_neg (fun z => absurd h (Int32.not_lt.mpr z)), Int32.zero_sub]
  · rw [if_neg h, if_pos (Int32.not_lt.mp h)]
theorem abs_nI {a : Int32} {A : Nat} (h : bab a A) (hA : A < 2 ^ 31) : ∃ k, k ≤ A ∧ (if a < 0 then -a else a) = nI k := by
  by_cases e : a < 0
  · rw [if_pos e]
    have e2 : a.toInt < 0 := Int32.lt_iff_toInt_lt.mp e
    refine ⟨(-a.toInt).toNat, by have := h.1; omega, ?_⟩
    apply Int32.toInt_inj.mp
    rw [nI_toInt (by have := h.1; omega), Int32.toInt_neg, Int.bmod_eq_of_le (by have := h.1; omega) (by have := h.1; omega)]
    omega
  · rw [if_neg e]
    obtain ⟨k, hk, rfl⟩ := nI_of e
    refine ⟨k, ?_, rfl⟩
    have := h.2
    rw [nI_toInt hk] at this
    omega
theorem div_1 (x : Int32) : x / nI 1 = x := by
  show x / 1 = x
  exact Int32.div_one
theorem tf_eq {a : Int32} {A B : Nat} (up : Bool) (h : bab a A) (hA : A < 2 ^ 31) (hB : 0 < B) (hB2 : B < 2 ^ 17) : eucT 35 (if a < 0 then -a else a) (nI B) ∧ ¬ eucL 35 (if a < 0 then -a else a) (nI B) = 0 ∧ (if up = true then a else nI B) / eucL 35 (if a < 0 then -a else a) (nI B) = tfF a (nI B) up := by
  obtain ⟨k, hk, e⟩ := abs_nI h hA
  rw [tfF, ← abs_eq, e]
  have t := eucT_ok 17 k B (by omega) hB2 (by omega)
  have g := eucL_gcd 35 k B (by omega) (by omega) t
  rw [eucL_mono 35 100 _ _ t (by omega), g]
  have g0 : 0 < Nat.gcd k B := Nat.gcd_pos_of_pos_right _ hB
  have g1 : Nat.gcd k B ≤ B := Nat.gcd_le_right _ hB
  refine ⟨t, nI_ne0 g0 (by omega), ?_⟩
  by_cases q : nI 1 < nI (Nat.gcd k B)
  · rw [if_pos q]
  · rw [if_neg q]
    rw [nI_ltI (by omega) (by omega)] at q
    rw [show Nat.gcd k B = 1 by omega, div_1]

