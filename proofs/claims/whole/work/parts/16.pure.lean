/-! numbers -/
theorem nI_div {a b : Nat} (ha : a < 2 ^ 31) (hb : b < 2 ^ 31) : nI a / nI b = nI (a / b) := by
  apply Int32.toInt_inj.mp
  have h3 : a / b < 2 ^ 31 := Nat.lt_of_le_of_lt (Nat.div_le_self a b) ha
  rw [Int32.toInt_div, nI_toInt ha, nI_toInt hb, nI_toInt h3, ← Int.ofNat_tdiv]
  generalize a / b = q at h3 ⊢
  exact Int.bmod_eq_of_le (by omega) (by omega)
theorem nI_rem {a b : Nat} (ha : a < 2 ^ 31) (hb : b < 2 ^ 31) : nI a - nI a / nI b * nI b = nI (a % b) := by
  rw [nI_div ha hb, nI_mul, nI_sub (Nat.div_mul_le_self a b)]
  congr 1
  have := Nat.div_add_mod a b
  rw [Nat.mul_comm] at this
  omega
section VE
variable {G : Gm} {l : Launch} {own : String} {cc : ByteArray} {nL dep : Nat} {lg : Bool} {ret : Option FieldType} {Q : Option Value → Mem → Prop} {pc n : Nat} {lo : List (Option Value)} {st : List Value} {μ : Mem}
theorem R_idiv_n {x y : Nat} (hdg : decode cc pc = .ok (.idiv, 1)) (hx : x < 2 ^ 31) (hy : 0 < y) (hy2 : y < 2 ^ 31) (hn : pc + 1 = n) (k : V G l own cc nL dep lg ret Q n lo (.int (nI (x / y)) :: st) μ) : V G l own cc nL dep lg ret Q pc lo (.int (nI y) :: .int (nI x) :: st) μ := R_idiv hdg (nI_ne0 hy hy2) hn (by rw [nI_div hx hy2]; exact k)
theorem R_irem_n {x y : Nat} (hdg : decode cc pc = .ok (.irem, 1)) (hx : x < 2 ^ 31) (hy : 0 < y) (hy2 : y < 2 ^ 31) (hn : pc + 1 = n) (k : V G l own cc nL dep lg ret Q n lo (.int (nI (x % y)) :: st) μ) : V G l own cc nL dep lg ret Q pc lo (.int (nI y) :: .int (nI x) :: st) μ := R_irem hdg (nI_ne0 hy hy2) hn (by rw [nI_rem hx hy2]; exact k)
end VE
/-! rows that hold every barge once -/
def Pm (n : Nat) (row : Nat → Nat) : Prop := (∀ p, p < n → row p < n) ∧ (∀ p q, p < n → q < n → row p = row q → p = q) ∧ ∀ v, v < n → ∃ p, p < n ∧ row p = v
def posF (row : Nat → Nat) (v : Nat) : Nat → Nat
  | 0 => 0
  | k + 1 => if row k = v then k else posF row v k
theorem posF_eq {n : Nat} {row : Nat → Nat} (h : Pm n row) {p : Nat} : ∀ (k : Nat), k ≤ n → p < k → posF row (row p) k = p := by
  intro k
  induction k with
  | zero => intro _ h; exact absurd h (by omega)
  | succ k ih =>
    intro hk hp
    rw [posF]
    by_cases e : row k = row p
    · rw [if_pos e]; exact h.2.1 k p (by omega) (by omega) e
    · rw [if_neg e]
      refine ih (by omega) ?_
      rcases Nat.lt_or_ge p k with q | q
      · exact q
      · exact absurd (by rw [show p = k by omega]) e
theorem pos_spec {n : Nat} {row : Nat → Nat} (h : Pm n row) {v : Nat} (hv : v < n) : posF row v n < n ∧ row (posF row v n) = v ∧ ∀ q, q < posF row v n → row q ≠ v := by
  obtain ⟨p, hp, rfl⟩ := h.2.2 v hv
  have e := posF_eq h n (Nat.le_refl _) hp
  rw [e]
  exact ⟨hp, rfl, fun q hq z => absurd (h.2.1 q p (by omega) hp z) (by omega)⟩
def trn (p q : Nat) : Nat := if q = p + 1 then p else if q = p then p + 1 else q
theorem swp_trn (row : Nat → Nat) (p q : Nat) : swp row p q = row (trn p q) := by
  unfold swp trn
  split
  · rfl
  · split <;> rfl
theorem trn_lt {n p q : Nat} (hp : p + 1 < n) (hq : q < n) : trn p q < n := by
  unfold trn
  split
  · omega
  · split <;> omega
theorem trn_trn (p q : Nat) : trn p (trn p q) = q := by
  unfold trn
  by_cases h1 : q = p + 1
  · rw [if_pos h1, if_neg (by omega), if_pos rfl, h1]
  · rw [if_neg h1]
    by_cases h2 : q = p
    · rw [if_pos h2, if_pos rfl, h2]
    · rw [if_neg h2, if_neg h1, if_neg h2]
theorem pm_swp {n p : Nat} {row : Nat → Nat} (hp : p + 1 < n) (h : Pm n row) : Pm n (swp row p) := by
  refine ⟨fun q hq => by rw [swp_trn]; exact h.1 _ (trn_lt hp hq), fun q r hq hr e => ?_, fun v hv => ?_⟩
  · rw [swp_trn, swp_trn] at e
    have := h.2.1 _ _ (trn_lt hp hq) (trn_lt hp hr) e
    rw [← trn_trn p q, this, trn_trn]
  · obtain ⟨q, hq, e⟩ := h.2.2 v hv
    exact ⟨trn p q, trn_lt hp hq, by rw [swp_trn, trn_trn]; exact e⟩
theorem pm_pass1 {C : CF} {S : ST} (h : Pm C.1 (sRow S)) : Pm C.1 (sRow (pass1 C C.1 S)) := goL_inv (Pm C.1) (fun row p h1 h2 => pm_swp h1 h2) _ _ _ _ _ _ h
theorem pm_gos {C : CF} : ∀ (k : Nat) (S : ST), Pm C.1 (sRow S) → Pm C.1 (sRow (gos C C.1 k S))
  | 0, _, h => h
  | k + 1, S, h => pm_gos k (pass1 C C.1 S) (pm_pass1 h)
/-- what is said of a canal as it stands -/
def Qc (μ : Mem) (C : CF) (S : ST) : Prop := CCf μ C ∧ CSt μ 6 C.1 C S ∧ Ok C C.1 S ∧ Pm C.1 (sRow S)
/-- the places where what others may ask is tried -/
abbrev Scr : Nat → Nat → Prop := fun i _ => (12 ≤ i ∧ i ≤ 17) ∨ (120 ≤ i ∧ i ≤ 124)
theorem CSt.kept {μ μ1 : Mem} {b z : Nat} {C : CF} {S : ST} {P : Nat → Nat → Prop} (h : CSt μ b z C S) (hs : Sme P μ μ1) (hn : ∀ i j, b ≤ i → i ≤ b + 5 → ¬ P i j) : CSt μ1 b z C S :=
  ⟨fun p hp => (hs.1 _ _ (hn _ _ (by omega) (by omega))).trans (h.1 p hp), fun p hp => (hs.1 _ _ (hn _ _ (by omega) (by omega))).trans (h.2.1 p hp), fun p hp => (hs.1 _ _ (hn _ _ (by omega) (by omega))).trans (h.2.2.1 p hp), fun p hp => (hs.1 _ _ (hn _ _ (by omega) (by omega))).trans (h.2.2.2.1 p hp), fun p hp => (hs.1 _ _ (hn _ _ (by omega) (by omega))).trans (h.2.2.2.2.1 p hp), (hs.1 _ _ (hn _ _ (by omega) (by omega))).trans h.2.2.2.2.2.1, (hs.1 _ _ (hn _ _ (by omega) (by omega))).trans h.2.2.2.2.2.2⟩
theorem Qc.kept {μ μ1 : Mem} {C : CF} {S : ST} {P : Nat → Nat → Prop} (h : Qc μ C S) (hs : Sme P μ μ1) (hn : ∀ i j, 3 ≤ i → i ≤ 11 → ¬ P i j) : Qc μ1 C S :=
  ⟨h.1.kept hs (hn _ _ (by omega) (by omega)) (hn _ _ (by omega) (by omega)) (fun j => hn _ _ (by omega) (by omega)) (fun j => hn _ _ (by omega) (by omega)), h.2.1.kept hs (fun i j h1 h2 => hn i j (by omega) (by omega)), h.2.2⟩
/-- one bit of a set of six -/
def tb (s k : Nat) : Nat := s / 2 ^ k % 2
theorem bit_at : ∀ s, s < 64 → ∀ k, k < 6 → nI s >>> (nI k &&& 31) &&& nI 1 = nI (tb s k) := by decide +kernel
theorem tb_le (s k : Nat) : tb s k < 2 := Nat.mod_lt _ (by decide)

