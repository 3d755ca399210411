/-! pure: two readings of an order agree -/
def ocN (P : Nat → Prop) [DecidablePred P] : Nat → Nat
  | 0 => 0
  | k + 1 => ocN P k + if P (k + 1) then 1 else 0
theorem ocN_le (P : Nat → Prop) [DecidablePred P] : ∀ k, ocN P k ≤ k
  | 0 => Nat.le_refl _
  | k + 1 => by
    have := ocN_le P k
    rw [ocN]
    split <;> omega
theorem ocN_all {P : Nat → Prop} [DecidablePred P] : ∀ k, ocN P k = k → ∀ v, 1 ≤ v → v ≤ k → P v
  | 0, _, v, h1, h2 => by omega
  | k + 1, h, v, h1, h2 => by
    have := ocN_le P k
    rw [ocN] at h
    by_cases e : P (k + 1)
    · rw [if_pos e] at h
      by_cases q : v = k + 1
      · rw [q]; exact e
      · exact ocN_all k (by omega) v h1 (by omega)
    · rw [if_neg e] at h; omega
theorem ocN_full {P : Nat → Prop} [DecidablePred P] : ∀ k, (∀ v, 1 ≤ v → v ≤ k → P v) → ocN P k = k
  | 0, _ => rfl
  | k + 1, h => by rw [ocN, if_pos (h _ (by omega) (by omega)), ocN_full k (fun v h1 h2 => h v h1 (by omega))]
theorem ocN_congr {P Q : Nat → Prop} [DecidablePred P] [DecidablePred Q] : ∀ k, (∀ v, 1 ≤ v → v ≤ k → (P v ↔ Q v)) → ocN P k = ocN Q k
  | 0, _ => rfl
  | k + 1, h => by
    rw [ocN, ocN, ocN_congr k (fun v h1 h2 => h v h1 (by omega))]
    by_cases e : P (k + 1)
    · rw [if_pos e, if_pos ((h _ (by omega) (by omega)).mp e)]
    · rw [if_neg e, if_neg (fun z => e ((h _ (by omega) (by omega)).mpr z))]
theorem ocN_add {P : Nat → Prop} [DecidablePred P] (d : Nat) : ∀ k, ocN (fun v => P v ∨ v = d) k ≤ ocN P k + (if d ≤ k then 1 else 0)
  | 0 => by show 0 ≤ _; exact Nat.zero_le _
  | k + 1 => by
    have := ocN_add (P := P) d k
    rw [ocN, ocN]
    by_cases e : P (k + 1)
    · rw [if_pos (Or.inl e), if_pos e]
      by_cases q : d ≤ k
      · rw [if_pos q] at this; rw [if_pos (by omega)]; omega
      · rw [if_neg q] at this; split <;> omega
    · rw [if_neg e]
      by_cases q : k + 1 = d
      · rw [if_pos (Or.inr q), if_pos (by omega)]
        rw [if_neg (by omega)] at this
        omega
      · rw [if_neg (fun z => z.elim e q)]
        by_cases q2 : d ≤ k
        · rw [if_pos q2] at this; rw [if_pos (by omega)]; omega
        · rw [if_neg q2] at this; rw [if_neg (by omega)]; omega
theorem ocN_new {P : Nat → Prop} [DecidablePred P] {d : Nat} (hd : ¬ P d) (h1 : 1 ≤ d) : ∀ k, d ≤ k → ocN (fun v => P v ∨ v = d) k = ocN P k + 1
  | 0, h => by omega
  | k + 1, h => by
    rw [ocN, ocN]
    by_cases q : k + 1 = d
    · rw [if_pos (Or.inr q), if_neg (by rw [q]; exact hd), ocN_congr k (Q := P) (fun v _ h2 => ⟨fun z => z.elim id (fun z => by omega), Or.inl⟩)]
    · rw [ocN_new hd h1 k (by omega)]
      by_cases e : P (k + 1)
      · rw [if_pos (Or.inl e), if_pos e]
      · rw [if_neg (fun z => z.elim e q), if_neg e]
theorem ocN_cov {n : Nat} {D : Nat → Nat} : ∀ (f : Nat) (P : Nat → Prop) [DecidablePred P], (∀ v, 1 ≤ v → v ≤ n → P v ∨ ∃ i, i < f ∧ D i = v) → n ≤ ocN P n + f
  | 0, P, _, h => by
    rw [ocN_full n (fun v h1 h2 => (h v h1 h2).elim id (fun z => by obtain ⟨i, hi, -⟩ := z; omega))]
    omega
  | f + 1, P, _, h => by
    have a1 := ocN_cov (n := n) (D := D) f (fun v => P v ∨ v = D f) (fun v h1 h2 => by
      rcases h v h1 h2 with q | ⟨i, hi, e⟩
      · exact Or.inl (Or.inl q)
      · by_cases z : i = f
        · exact Or.inl (Or.inr (by rw [← e, z]))
        · exact Or.inr ⟨i, by omega, e⟩)
    have a2 := ocN_add (P := P) (D f) n
    have a3 : (if D f ≤ n then 1 else 0) ≤ 1 := by split <;> omega
    omega
theorem tb_set1 : ∀ s, s < 64 → ∀ v, v < 6 → tb s v = 0 → s + 2 ^ v < 64 := by decide +kernel
theorem tb_set2 : ∀ s, s < 64 → ∀ v, v < 6 → ∀ u, u < 6 → tb s v = 0 → tb (s + 2 ^ v) u = (if u = v then 1 else tb s u) := by decide +kernel
theorem tb_set (s : Nat) (hs : s < 64) (v : Nat) (hv : v < 6) (h : tb s v = 0) : s + 2 ^ v < 64 ∧ ∀ u, u < 6 → (tb (s + 2 ^ v) u = 1 ↔ (tb s u = 1 ∨ u = v)) := ⟨tb_set1 s hs v hv h, fun u hu => by
  rw [tb_set2 s hs v hv u hu h]
  by_cases e : u = v
  · rw [if_pos e]; exact ⟨fun _ => Or.inr e, fun _ => rfl⟩
  · rw [if_neg e]; exact ⟨Or.inl, fun z => z.elim id (fun q => absurd q e)⟩⟩
theorem ioN_spec {n : Nat} (hn : n ≤ 6) : ∀ (f m met : Nat), met < 64 → ocN (fun v => tb met (v - 1) = 1) n + f = n → (ioN n f m met = true ↔ (m / 10 ^ f = 0 ∧ (∀ v, 1 ≤ v → v ≤ n → tb met (v - 1) = 1 ∨ ∃ i, i < f ∧ m / 10 ^ i % 10 = v) ∧ ∀ i, i < f → 1 ≤ m / 10 ^ i % 10 ∧ m / 10 ^ i % 10 ≤ n))
  | 0, m, met, _, ho => by
    have hall := ocN_all n (show ocN (fun v => tb met (v - 1) = 1) n = n by omega)
    rw [ioN]
    constructor
    · intro h
      have := of_decide_eq_true h
      exact ⟨by rw [this, Nat.pow_zero], fun v h1 h2 => Or.inl (hall v h1 h2), fun i hi => by omega⟩
    · intro h
      have h1 := h.1
      rw [Nat.pow_zero, Nat.div_one] at h1
      exact decide_eq_true h1
  | f + 1, m, met, hm, ho => by
    have hdig : ∀ i, m / 10 ^ (i + 1) = m / 10 / 10 ^ i := fun i => by rw [Nat.pow_succ, Nat.mul_comm, Nat.div_div_eq_div_mul]
    rw [ioN]
    by_cases c : 1 ≤ m % 10 ∧ m % 10 ≤ n ∧ tb met (m % 10 - 1) = 0
    · rw [if_pos c]
      obtain ⟨c1, c2, c3⟩ := c
      obtain ⟨s1, s2⟩ := tb_set met hm (m % 10 - 1) (by omega) c3
      have hoc : ocN (fun v => tb (met + 2 ^ (m % 10 - 1)) (v - 1) = 1) n + f = n := by
        rw [ocN_congr n (Q := fun v => tb met (v - 1) = 1 ∨ v = m % 10) (fun v h1 h2 => by
          rw [s2 (v - 1) (by omega)]
          exact ⟨fun z => z.elim Or.inl (fun z => Or.inr (by omega)), fun z => z.elim Or.inl (fun z => Or.inr (by omega))⟩), ocN_new (P := fun v => tb met (v - 1) = 1) (d := m % 10) (by rw [c3]; decide) c1 n c2]
        omega
      rw [ioN_spec hn f (m / 10) _ s1 hoc, hdig]
      constructor
      · rintro ⟨h1, h2, h3⟩
        refine ⟨h1, fun v v1 v2 => ?_, fun i hi => ?_⟩
        · rcases h2 v v1 v2 with q | ⟨i, hi, e⟩
          · rcases (s2 (v - 1) (by omega)).mp q with q | q
            · exact Or.inl q
            · exact Or.inr ⟨0, by omega, by rw [Nat.pow_zero, Nat.div_one]; omega⟩
          · exact Or.inr ⟨i + 1, by omega, by rw [hdig]; exact e⟩
        · cases i with
          | zero => rw [Nat.pow_zero, Nat.div_one]; exact ⟨c1, c2⟩
          | succ i => rw [hdig]; exact h3 i (by omega)
      · rintro ⟨h1, h2, h3⟩
        refine ⟨h1, fun v v1 v2 => ?_, fun i hi => ?_⟩
        · rcases h2 v v1 v2 with q | ⟨i, hi, e⟩
          · exact Or.inl ((s2 (v - 1) (by omega)).mpr (Or.inl q))
          · cases i with
            | zero =>
              rw [Nat.pow_zero, Nat.div_one] at e
              exact Or.inl ((s2 (v - 1) (by omega)).mpr (Or.inr (by omega)))
            | succ i => exact Or.inr ⟨i, by omega, by rw [← hdig]; exact e⟩
        · have := h3 (i + 1) (by omega)
          rw [hdig] at this
          exact this
    · rw [if_neg c]
      constructor
      · intro h; cases h
      · rintro ⟨h1, h2, h3⟩
        exfalso
        have d0 := h3 0 (by omega)
        rw [Nat.pow_zero, Nat.div_one] at d0
        have t2 := tb_le met (m % 10 - 1)
        have hm1 : tb met (m % 10 - 1) = 1 := by
          by_cases q : tb met (m % 10 - 1) = 0
          · exact absurd ⟨d0.1, d0.2, q⟩ c
          · omega
        have := ocN_cov (n := n) (D := fun i => m / 10 ^ (i + 1) % 10) f (fun v => tb met (v - 1) = 1) (fun v v1 v2 => by
          rcases h2 v v1 v2 with q | ⟨i, hi, e⟩
          · exact Or.inl q
          · cases i with
            | zero =>
              rw [Nat.pow_zero, Nat.div_one] at e
              rw [← e]; exact Or.inl hm1
            | succ i => exact Or.inr ⟨i, by omega, e⟩)
        omega
theorem tb_or1 (s v : Nat) : tb s v = (s.testBit v).toNat := by
  rw [tb, Nat.testBit_eq_decide_div_mod_eq]
  have : s / 2 ^ v % 2 < 2 := Nat.mod_lt _ (by decide)
  by_cases e : s / 2 ^ v % 2 = 1
  · rw [decide_eq_true e, e]; rfl
  · rw [decide_eq_false e]
    show _ = 0
    omega
theorem tb_or (s : Nat) (hs : s < 1024) (d : Nat) (hd : d < 10) : s ||| 2 ^ d < 1024 ∧ ∀ v, v < 10 → (tb (s ||| 2 ^ d) v = 1 ↔ (tb s v = 1 ∨ d = v)) := by
  refine ⟨Nat.or_lt_two_pow (n := 10) hs (Nat.pow_lt_pow_right (by decide) hd), fun v _ => ?_⟩
  rw [tb_or1, tb_or1, Nat.testBit_or, Nat.testBit_two_pow]
  by_cases e : d = v
  · rw [decide_eq_true e, Bool.or_true]
    exact ⟨fun _ => Or.inr e, fun _ => rfl⟩
  · rw [decide_eq_false e, Bool.or_false]
    exact ⟨Or.inl, fun z => z.elim id (fun q => absurd q e)⟩
theorem tb_fl : ∀ n, n < 7 → ∀ v, v < 10 → (tb (2 ^ (n + 1) - 2) v = 1 ↔ (1 ≤ v ∧ v ≤ n)) := by decide +kernel
theorem tb_f2 : ∀ n, n < 7 → 2 ^ (n + 1) - 2 < 1024 := by decide +kernel
theorem tb_full (n : Nat) (hn : n < 7) (s : Nat) (hs : s < 1024) : s = 2 ^ (n + 1) - 2 ↔ ∀ v, v < 10 → (tb s v = 1 ↔ (1 ≤ v ∧ v ≤ n)) := by
  constructor
  · intro h v hv
    rw [h]
    exact tb_fl n hn v hv
  · intro h
    apply Nat.eq_of_testBit_eq
    intro v
    by_cases hv : v < 10
    · have a := h v hv
      rw [← tb_fl n hn v hv, tb_or1, tb_or1] at a
      cases e1 : s.testBit v <;> cases e2 : (2 ^ (n + 1) - 2).testBit v <;> rw [e1, e2] at a
      · exact absurd (a.mpr rfl) (by decide)
      · exact absurd (a.mp rfl) (by decide)
    · rw [Nat.testBit_lt_two_pow (Nat.lt_of_lt_of_le hs (show 2 ^ 10 ≤ 2 ^ v from Nat.pow_le_pow_right (by decide) (by omega))), Nat.testBit_lt_two_pow (Nat.lt_of_lt_of_le (tb_f2 n hn) (show 2 ^ 10 ≤ 2 ^ v from Nat.pow_le_pow_right (by decide) (by omega)))]
theorem seenN_spec (m n : Nat) : ∀ k, seenN m n k < 1024 ∧ ∀ v, v < 10 → (tb (seenN m n k) v = 1 ↔ ∃ p, p < k ∧ dgt m n p = v)
  | 0 => ⟨by show 0 < 1024; omega, fun v hv => ⟨fun z => by
      have h0 : ∀ v, v < 10 → ¬ tb 0 v = 1 := by decide
      exact absurd z (h0 v hv), fun z => by obtain ⟨p, hp, -⟩ := z; omega⟩⟩
  | k + 1 => by
    obtain ⟨h1, h2⟩ := seenN_spec m n k
    obtain ⟨a1, a2⟩ := tb_or _ h1 (dgt m n k) (dgt_lt m n k)
    refine ⟨a1, fun v hv => ?_⟩
    rw [seenN, a2 v hv, h2 v hv]
    constructor
    · rintro (⟨p, hp, e⟩ | e)
      · exact ⟨p, by omega, e⟩
      · exact ⟨k, by omega, e⟩
    · rintro ⟨p, hp, e⟩
      by_cases q : p = k
      · rw [q] at e; exact Or.inr e
      · exact Or.inl ⟨p, by omega, e⟩
theorem ioB_eq (x : Int32) {n : Nat} (hn : n ≤ 6) : ioB x n = ordB x n := by
  rw [ioB, ordB]
  by_cases hx : x < 0
  · rw [if_pos hx, decide_eq_false (fun z => z hx)]; rfl
  · rw [if_neg hx, decide_eq_true hx, Bool.true_and]
    obtain ⟨m, hm, rfl⟩ := nI_of hx
    rw [nI_clamp hm]
    have h0 : ∀ v, v < 6 → ¬ tb 0 v = 1 := by decide
    have hz : ocN (fun v => tb 0 (v - 1) = 1) n = 0 := by
      have : ∀ k, k ≤ 6 → ocN (fun v => tb 0 (v - 1) = 1) k = 0 := by decide
      exact this n hn
    have sp := ioN_spec hn n m 0 (by omega) (by omega)
    obtain ⟨q1, q2⟩ := seenN_spec m n n
    have hf := tb_full n (by omega) _ q1
    rw [Bool.eq_iff_iff, sp, Bool.and_eq_true, decide_eq_true_iff, decide_eq_true_iff, hf]
    refine and_congr_right (fun hdiv => ⟨fun h v hv => ?_, fun h => ⟨fun v v1 v2 => Or.inr ?_, fun i hi => ?_⟩⟩)
    · rw [q2 v hv]
      constructor
      · rintro ⟨p, hp, e⟩
        have := h.2 (n - 1 - p) (by omega)
        rw [← e]; exact this
      · rintro ⟨v1, v2⟩
        rcases h.1 v v1 v2 with z | ⟨i, hi, e⟩
        · exact absurd z (h0 _ (by omega))
        · refine ⟨n - 1 - i, by omega, ?_⟩
          unfold dgt
          rw [show n - 1 - (n - 1 - i) = i by omega]
          exact e
    · obtain ⟨p, hp, e⟩ := (q2 v (by omega)).mp ((h v (by omega)).mpr ⟨v1, v2⟩)
      exact ⟨n - 1 - p, by omega, e⟩
    · have h10 : m / 10 ^ i % 10 < 10 := Nat.mod_lt _ (by decide)
      refine (h _ h10).mp ((q2 _ h10).mpr ⟨n - 1 - i, by omega, ?_⟩)
      unfold dgt
      rw [show n - 1 - (n - 1 - i) = i by omega]

