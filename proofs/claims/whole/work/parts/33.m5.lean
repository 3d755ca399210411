/-! THE MODEL: orders, gifts, the greatest divisor, acts -/
def lftN (n i : Nat) : Nat → Nat
  | 0 => 2 ^ n - 1
  | p + 1 => lftN n i p - 2 ^ prm n i p
def rstN (n i : Nat) : Nat → Nat
  | 0 => i
  | p + 1 => rstN n i p % fct (n - 1 - p)
def wsL (left : Nat) : Nat → Nat → Int32 → Int32 → Int32
  | 0, _, who, _ => who
  | f + 1, b, who, wh => wsL left f (b + 1) (if tb left b = 1 ∧ wh = 0 then nI b else who) (wh - nI (tb left b))
set_option maxRecDepth 100000 in
theorem lo_ok : ∀ n, n < 7 → ∀ i, i < fct n → ∀ p, p < n → lftN n i p < 64 ∧ wsL (lftN n i p) n 0 (-9) (nI (rstN n i p / fct (n - 1 - p))) = nI (prm n i p) ∧ nI (lftN n i p) &&& (bt (prm n i p) ^^^ -1) = nI (lftN n i (p + 1)) ∧ rstN n i p < 1000 := by decide +kernel
theorem fct_ok : ∀ n, n < 7 → 0 < fct n ∧ fct n < 1000 := by decide +kernel
def givB (C : CF) (T : ST) (p0 b k : Nat) : Bool := decide (b < C.1) && (decide (k < C.2.1) && (decide (0 < sTea T b) && !decide (k < p0)))
def givS (T : ST) (b k : Nat) : ST := addE (setT T (updN (sTea T) b (sTea T b - 1))) (k * 6 + b) (nI 1)
def givT (C : CF) (T : ST) (p0 b k : Nat) : ST := if givB C T p0 b k = true then givS T b k else T
def eucT : Nat → Int32 → Int32 → Prop
  | 0, _, y => y = 0
  | f + 1, x, y => y = 0 ∨ eucT f y (x - x / y * y)
theorem eucT_0 {f : Nat} {x : Int32} : eucT f x 0 := by
  cases f with
  | zero => exact rfl
  | succ f => exact Or.inl rfl
theorem eucL_0 {f : Nat} {x : Int32} : eucL f x 0 = x := by
  cases f with
  | zero => rfl
  | succ f => rw [eucL, if_pos rfl]
theorem eucL_mono : ∀ (f g : Nat) (x y : Int32), eucT f x y → f ≤ g → eucL g x y = eucL f x y := by
  intro f
  induction f with
  | zero =>
    intro g x y h _
    rw [show y = 0 from h, eucL_0, eucL_0]
  | succ f ih =>
    intro g x y h hg
    cases g with
    | zero => exact absurd hg (by omega)
    | succ g =>
      rw [eucL, eucL]
      by_cases hy : y = 0
      · rw [if_pos hy, if_pos hy]
      · rw [if_neg hy, if_neg hy]
        exact ih g _ _ (h.resolve_left hy) (by omega)
theorem eucL_gcd : ∀ (f a b : Nat), a < 2 ^ 31 → b < 2 ^ 31 → eucT f (nI a) (nI b) → eucL f (nI a) (nI b) = nI (Nat.gcd a b) := by
  intro f
  induction f with
  | zero =>
    intro a b ha hb h
    have : b = 0 := (nI_eq hb (by omega)).mp ((show nI b = 0 from h).trans nI_0.symm)
    rw [this, Nat.gcd_zero_right]
    rfl
  | succ f ih =>
    intro a b ha hb h
    rw [eucL]
    by_cases hy : nI b = 0
    · have : b = 0 := (nI_eq hb (by omega)).mp (hy.trans nI_0.symm)
      rw [if_pos hy, this, Nat.gcd_zero_right]
    · have hb0 : 0 < b := by
        rcases Nat.eq_zero_or_pos b with q | q
        · exact absurd (by rw [q]; rfl) hy
        · exact q
      have h2 := h.resolve_left hy
      rw [nI_rem ha hb] at h2
      rw [if_neg hy, nI_rem ha hb, ih b (a % b) hb (Nat.lt_trans (Nat.mod_lt _ hb0) hb) h2]
      rw [Nat.gcd_comm a b, Nat.gcd_rec b a]
      exact congrArg nI (Nat.gcd_comm _ _)
theorem eucT_ok : ∀ (k a b : Nat), a < 2 ^ 31 → b < 2 ^ k → k ≤ 20 → eucT (2 * k + 1) (nI a) (nI b) := by
  intro k
  induction k with
  | zero =>
    intro a b ha hb _
    have : b = 0 := by omega
    rw [this]
    exact eucT_0
  | succ k ih =>
    intro a b ha hb hk
    have h20 : 2 ^ (k + 1) ≤ 2 ^ 20 := Nat.pow_le_pow_right (by decide) hk
    have h2k : 2 ^ (k + 1) = 2 * 2 ^ k := by rw [Nat.pow_succ, Nat.mul_comm]
    rcases Nat.eq_zero_or_pos b with q | q
    · rw [q]; exact eucT_0
    · show eucT (2 * k + 2 + 1) _ _
      refine Or.inr ?_
      rw [nI_rem ha (by omega)]
      have hr : a % b < b := Nat.mod_lt _ q
      rcases Nat.eq_zero_or_pos (a % b) with q2 | q2
      · rw [q2]; exact eucT_0
      · refine Or.inr ?_
        rw [nI_rem (by omega) (by omega)]
        refine ih (a % b) (b % (a % b)) (by omega) ?_ (by omega)
        have h3 : b % (a % b) < a % b := Nat.mod_lt _ q2
        have h4 : b % (a % b) + a % b ≤ b := by
          have := Nat.div_add_mod b (a % b)
          have h5 : 1 ≤ b / (a % b) := Nat.div_pos (by omega) q2
          have h6 : a % b * 1 ≤ a % b * (b / (a % b)) := Nat.mul_le_mul_left _ h5
          omega
        omega
def ioN (n : Nat) : Nat → Nat → Nat → Bool
  | 0, m, _ => decide (m = 0)
  | f + 1, m, met => if 1 ≤ m % 10 ∧ m % 10 ≤ n ∧ tb met (m % 10 - 1) = 0 then ioN n f (m / 10) (met + 2 ^ (m % 10 - 1)) else false
def ioB (x : Int32) (n : Nat) : Bool := if x < 0 then false else ioN n n x.toNatClampNeg 0
def MAc (μ : Mem) (C : CF) (hist : Nat → ST) (a : Nat) : Prop := a ≤ 14 ∧ μ.1 125 14 = nI a ∧ ∃ nx, nx < 14 ∧ μ.1 125 15 = nI nx ∧ ∀ i, i < a → MSt μ 133 (54 * ((nx + 13 - i) % 14)) C.1 C (hist i)
theorem MAc.kept {μ μ1 : Mem} {C : CF} {hist : Nat → ST} {a : Nat} {P : Nat → Nat → Prop} (h : MAc μ C hist a) (hC : C.1 ≤ 6 ∧ C.2.1 ≤ 5) (hs : Sme P μ μ1) (h1 : ¬ P 125 14) (h2 : ¬ P 125 15) (h3 : ∀ j, ¬ P 133 j) : MAc μ1 C hist a := by
  obtain ⟨a1, a2, nx, a3, a4, a5⟩ := h
  exact ⟨a1, (hs.1 _ _ h1).trans a2, nx, a3, (hs.1 _ _ h2).trans a4, fun i hi => (a5 i hi).kept ⟨hC.1, hC.2, hC.1⟩ hs (fun j _ _ => h3 j)⟩
theorem or_bit : ∀ s, s < 64 → ∀ v, v < 6 → tb s v = 0 → s + 2 ^ v < 128 := by decide +kernel
section M5
variable {G : Gm} {l : Launch} {μ : Mem} {C : CF} {S : ST} {z : Nat}
theorem ct_X8_layOrder {i : Nat} (hM : MCf μ C) (hT : MSt μ 128 54 C.1 C S) (hO : Ok C C.1 S) (hi : i < fct C.1) : Ct G l 2 yX8_layOrder cX8_layOrder 9 none [.ref (G.2.2.1 125), .int (nI i)] μ (fun r μ' => r = none ∧ MSt μ' 128 54 C.1 C (rowS S (prm C.1 i)) ∧ Sme Ptm μ μ') := by
  obtain ⟨o1, o2, o3, o4, o5, o6⟩ := id hO
  have h64 : ∀ n, n < 7 → 0 < 2 ^ n ∧ 2 ^ n < 65 := by decide +kernel
  have h2n := h64 C.1 (by omega)
  have hfc := fct_ok C.1 (by omega)
  refine Ct.of 7 (by decide +kernel) rfl (Nat.le_of_ble_eq_true rfl) ?_
  show V G l RX8 cX8_layOrder 9 _ false none _ 0 [some (.ref _), some (.int _), none, none, none, none, none, none, none] [] _
  refine R_iconst (v := nI 1) (n := 1) dX8_layOrder_0 rfl rfl ?_
  refine R_aload_n (n := 2) dX8_layOrder_1 rfl rfl ?_
  refine ge_X8_83 (n := 5) dX8_layOrder_2 rfl (hM.2.1) ?_
  refine R_ishl (n := 6) dX8_layOrder_5 rfl ?_
  rw [show nI 1 <<< (nI C.1 &&& 31) = nI (2 ^ C.1) from bt_pow _ (by omega)]
  refine R_iconst (v := nI 1) (n := 7) dX8_layOrder_6 rfl rfl ?_
  refine R_isub_n (n := 8) dX8_layOrder_7 (by omega) rfl ?_
  refine R_istore_n (n := 9) dX8_layOrder_8 rfl (Nat.le_of_ble_eq_true rfl) (Nat.le_of_ble_eq_true rfl) ?_
  refine R_iload_n (n := 10) dX8_layOrder_9 rfl rfl ?_
  refine R_istore_n (n := 11) dX8_layOrder_10 rfl (Nat.le_of_ble_eq_true rfl) (Nat.le_of_ble_eq_true rfl) ?_
  refine R_iconst (v := nI 0) (n := 12) dX8_layOrder_11 rfl rfl ?_
  refine R_istore (n := 14) dX8_layOrder_12 rfl (Nat.le_of_ble_eq_true rfl) (Nat.le_of_ble_eq_true rfl) ?_
  refine down (z := C.1) (P := fun p => ∀ (μ1 : Mem) (j5 j6 j7 j8 : Option Value), (∀ q, q < p → μ1.1 128 (54 + q) = nI (prm C.1 i q)) → Sme (fun i j => i = 128 ∧ 54 ≤ j ∧ j < 60) μ μ1 → V G l RX8 cX8_layOrder 9 2 false none (fun r μ' => r = none ∧ MSt μ' 128 54 C.1 C (rowS S (prm C.1 i)) ∧ Sme Ptm μ μ') 14 [some (.ref _), some (.int (nI i)), some (.int (nI (lftN C.1 i p))), some (.int (nI (rstN C.1 i p))), some (.int (nI p)), j5, j6, j7, j8] [] μ1) ?_ ?_ 0 (Nat.zero_le _) μ _ _ _ _ (fun q h => absurd h (by omega)) (Sme.rf _ _)
  · intro μ1 j5 j6 j7 j8 h1 h2
    have hM1 := hM.kept h2 (by omega) (by omega) (fun j => by omega) (fun j => by omega)
    refine R_iload (n := 16) dX8_layOrder_14 rfl rfl ?_
    refine R_aload_n (n := 17) dX8_layOrder_16 rfl rfl ?_
    refine ge_X8_83 (n := 20) dX8_layOrder_17 rfl (hM1.2.1) ?_
    refine R_icmp_ge_t (tgt := 139) dX8_layOrder_20 rfl (by rw [nI_leI (by omega) (by omega)]; omega) ?_
    obtain ⟨t1, t2, t3, t4, t5, t6⟩ := hT
    refine R_ret dX8_layOrder_139 rfl (⟨rfl, ⟨h1, fun j hj => (h2.1 _ _ (by omega)).trans (t2 j hj), fun j hj => (h2.1 _ _ (by omega)).trans (t3 j hj), fun j hj => (h2.1 _ _ (by omega)).trans (t4 j hj), fun j hj => (h2.1 _ _ (by omega)).trans (t5 j hj), (h2.1 _ _ (by omega)).trans t6⟩, h2.mono (fun i j z => by omega)⟩)
  · intro p hp ih μ1 j5 j6 j7 j8 h1 h2
    have hM1 := hM.kept h2 (by omega) (by omega) (fun j => by omega) (fun j => by omega)
    obtain ⟨k1, k2, k3, k4⟩ := lo_ok C.1 (by omega) i hi p hp
    have hfu := fct_ok (C.1 - 1 - p) (by omega)
    refine R_iload (n := 16) dX8_layOrder_14 rfl rfl ?_
    refine R_aload_n (n := 17) dX8_layOrder_16 rfl rfl ?_
    refine ge_X8_83 (n := 20) dX8_layOrder_17 rfl (hM1.2.1) ?_
    refine R_icmp_ge_f (n := 23) dX8_layOrder_20 rfl rfl (by rw [nI_leI (by omega) (by omega)]; omega) ?_
    refine R_aload_n (n := 24) dX8_layOrder_23 rfl rfl ?_
    refine ge_X8_83 (n := 27) dX8_layOrder_24 rfl (hM1.2.1) ?_
    refine R_iconst (v := nI 1) (n := 28) dX8_layOrder_27 rfl rfl ?_
    refine R_isub_n (n := 29) dX8_layOrder_28 ((by omega)) rfl ?_
    refine R_iload (n := 31) dX8_layOrder_29 rfl rfl ?_
    refine R_isub_n (n := 32) dX8_layOrder_31 ((by omega)) rfl ?_
    refine iv_X8_136 (n := 35) (ct_X8_factorial (n := C.1 - 1 - p) (by omega)) (by decide) dX8_layOrder_32 rfl (Nat.le_of_ble_eq_true rfl) (fun r μ' hq => ?_)
    obtain ⟨rfl, hq⟩ := hq
    have hq := hq.symm
    subst hq
    refine R_istore (n := 37) dX8_layOrder_35 rfl (Nat.le_of_ble_eq_true rfl) (Nat.le_of_ble_eq_true rfl) ?_
    refine R_iload_n (n := 38) dX8_layOrder_37 rfl rfl ?_
    refine R_iload (n := 40) dX8_layOrder_38 rfl rfl ?_
    refine R_idiv_n (n := 41) dX8_layOrder_40 (by omega) (by omega) (by omega) rfl ?_
    refine R_istore (n := 43) dX8_layOrder_41 rfl (Nat.le_of_ble_eq_true rfl) (Nat.le_of_ble_eq_true rfl) ?_
    refine R_iload_n (n := 44) dX8_layOrder_43 rfl rfl ?_
    refine R_iload (n := 46) dX8_layOrder_44 rfl rfl ?_
    refine R_irem_n (n := 47) dX8_layOrder_46 (by omega) (by omega) (by omega) rfl ?_
    refine R_istore_n (n := 48) dX8_layOrder_47 rfl (Nat.le_of_ble_eq_true rfl) (Nat.le_of_ble_eq_true rfl) ?_
    refine R_bipush (v := -9) (n := 50) dX8_layOrder_48 rfl rfl ?_
    refine R_istore (n := 52) dX8_layOrder_50 rfl (Nat.le_of_ble_eq_true rfl) (Nat.le_of_ble_eq_true rfl) ?_
    refine R_iconst (v := nI 0) (n := 53) dX8_layOrder_52 rfl rfl ?_
    refine R_istore (n := 55) dX8_layOrder_53 rfl (Nat.le_of_ble_eq_true rfl) (Nat.le_of_ble_eq_true rfl) ?_
    have inner : ∀ (f b : Nat) (who wh : Int32), b + f = C.1 → wsL (lftN C.1 i p) f b who wh = nI (prm C.1 i p) → V G l RX8 cX8_layOrder 9 2 false none (fun r μ' => r = none ∧ MSt μ' 128 54 C.1 C (rowS S (prm C.1 i)) ∧ Sme Ptm μ μ') 55 [some (.ref (G.2.2.1 125)), some (.int (nI i)), some (.int (nI (lftN C.1 i p))), some (.int (nI (rstN C.1 i (p + 1)))), some (.int (nI p)), some (.int (nI (fct (C.1 - 1 - p)))), some (.int wh), some (.int who), some (.int (nI b))] [] μ1 := by
      intro f
      induction f with
      | zero =>
        intro b who wh g1 g2
        rw [show who = nI (prm C.1 i p) from g2]
        refine R_iload (n := 57) dX8_layOrder_55 rfl rfl ?_
        refine R_aload_n (n := 58) dX8_layOrder_57 rfl rfl ?_
        refine ge_X8_83 (n := 61) dX8_layOrder_58 rfl (hM1.2.1) ?_
        refine R_icmp_ge_t (tgt := 112) dX8_layOrder_61 rfl (by rw [nI_leI (by omega) (by omega)]; omega) ?_
        refine R_iload_n (n := 113) dX8_layOrder_112 rfl rfl ?_
        refine R_iconst (v := nI 1) (n := 114) dX8_layOrder_113 rfl rfl ?_
        refine R_iload (n := 116) dX8_layOrder_114 rfl rfl ?_
        refine R_ishl (n := 117) dX8_layOrder_116 rfl ?_
        refine R_iconst (v := -1) (n := 118) dX8_layOrder_117 rfl rfl ?_
        refine R_ixor (n := 119) dX8_layOrder_118 rfl ?_
        refine R_iand (n := 120) dX8_layOrder_119 rfl ?_
        rw [show nI 1 <<< (nI (prm C.1 i p) &&& 31) = bt (prm C.1 i p) from rfl, k3]
        refine R_istore_n (n := 121) dX8_layOrder_120 rfl (Nat.le_of_ble_eq_true rfl) (Nat.le_of_ble_eq_true rfl) ?_
        refine R_aload_n (n := 122) dX8_layOrder_121 rfl rfl ?_
        refine gf_X8_16 (n := 125) dX8_layOrder_122 rfl ?_
        refine R_bipush (v := nI 54) (n := 127) dX8_layOrder_125 rfl rfl ?_
        refine R_iload (n := 129) dX8_layOrder_127 rfl rfl ?_
        refine R_iadd_n (n := 130) dX8_layOrder_129 rfl ?_
        refine R_iload (n := 132) dX8_layOrder_130 rfl rfl ?_
        refine R_iast (n := 133) sh_128 (rfl) (by omega) dX8_layOrder_132 rfl ?_
        refine R_iinc (n := 136) dX8_layOrder_133 rfl rfl (nI_1 _) (Nat.le_of_ble_eq_true rfl) ?_
        refine R_goto (tgt := 14) dX8_layOrder_136 rfl ?_
        refine ih _ _ _ _ _ (fun q hq => ?_) (h2.sti (by omega))
        rw [sti_1]
        by_cases e : q = p
        · rw [if_pos ⟨rfl, by omega⟩, e]
        · rw [if_neg (by omega)]; exact h1 q (by omega)
      | succ f ih2 =>
        intro b who wh g1 g2
        rw [wsL] at g2
        have hb2 := tb_le (lftN C.1 i p) b
        have tail : ∀ w' : Int32, w' = (if tb (lftN C.1 i p) b = 1 ∧ wh = 0 then nI b else who) → V G l RX8 cX8_layOrder 9 2 false none (fun r μ' => r = none ∧ MSt μ' 128 54 C.1 C (rowS S (prm C.1 i)) ∧ Sme Ptm μ μ') 85 [some (.ref (G.2.2.1 125)), some (.int (nI i)), some (.int (nI (lftN C.1 i p))), some (.int (nI (rstN C.1 i (p + 1)))), some (.int (nI p)), some (.int (nI (fct (C.1 - 1 - p)))), some (.int wh), some (.int who), some (.int (nI b))] [.int w'] μ1 := by
          intro w' hw'
          rw [← hw'] at g2
          refine R_istore (n := 87) dX8_layOrder_85 rfl (Nat.le_of_ble_eq_true rfl) (Nat.le_of_ble_eq_true rfl) ?_
          refine R_iload (n := 89) dX8_layOrder_87 rfl rfl ?_
          refine R_iload_n (n := 90) dX8_layOrder_89 rfl rfl ?_
          refine R_iload (n := 92) dX8_layOrder_90 rfl rfl ?_
          refine iv_X8_139 (n := 95) (ct_X8_has k1 (by omega)) (by decide) dX8_layOrder_92 rfl (Nat.le_of_ble_eq_true rfl) (fun r μ' hq => ?_)
          obtain ⟨rfl, hq⟩ := hq
          have hq := hq.symm
          subst hq
          by_cases e : tb (lftN C.1 i p) b = 1
          · rw [e] at g2
            rw [decide_eq_true e]
            refine R_if_eq_f (n := 98) dX8_layOrder_95 rfl rfl (by decide) ?_
            refine R_iconst (v := nI 1) (n := 99) dX8_layOrder_98 rfl rfl ?_
            refine R_goto (tgt := 103) dX8_layOrder_99 rfl ?_
            refine R_isub (n := 104) dX8_layOrder_103 rfl ?_
            refine R_istore (n := 106) dX8_layOrder_104 rfl (Nat.le_of_ble_eq_true rfl) (Nat.le_of_ble_eq_true rfl) ?_
            refine R_iinc (n := 109) dX8_layOrder_106 rfl rfl (nI_1 _) (Nat.le_of_ble_eq_true rfl) ?_
            refine R_goto (tgt := 55) dX8_layOrder_109 rfl ?_
            exact ih2 (b + 1) _ _ (by omega) g2
          · rw [show tb (lftN C.1 i p) b = 0 by omega] at g2
            rw [decide_eq_false e]
            refine R_if_eq_t (tgt := 102) dX8_layOrder_95 rfl (by decide) ?_
            refine R_iconst (v := nI 0) (n := 103) dX8_layOrder_102 rfl rfl ?_
            refine R_isub (n := 104) dX8_layOrder_103 rfl ?_
            refine R_istore (n := 106) dX8_layOrder_104 rfl (Nat.le_of_ble_eq_true rfl) (Nat.le_of_ble_eq_true rfl) ?_
            refine R_iinc (n := 109) dX8_layOrder_106 rfl rfl (nI_1 _) (Nat.le_of_ble_eq_true rfl) ?_
            refine R_goto (tgt := 55) dX8_layOrder_109 rfl ?_
            exact ih2 (b + 1) _ _ (by omega) g2
        refine R_iload (n := 57) dX8_layOrder_55 rfl rfl ?_
        refine R_aload_n (n := 58) dX8_layOrder_57 rfl rfl ?_
        refine ge_X8_83 (n := 61) dX8_layOrder_58 rfl (hM1.2.1) ?_
        refine R_icmp_ge_f (n := 64) dX8_layOrder_61 rfl rfl (by rw [nI_leI (by omega) (by omega)]; omega) ?_
        refine R_iload_n (n := 65) dX8_layOrder_64 rfl rfl ?_
        refine R_iload (n := 67) dX8_layOrder_65 rfl rfl ?_
        refine iv_X8_139 (n := 70) (ct_X8_has k1 (by omega)) (by decide) dX8_layOrder_67 rfl (Nat.le_of_ble_eq_true rfl) (fun r μ' hq => ?_)
        obtain ⟨rfl, hq⟩ := hq
        have hq := hq.symm
        subst hq
        by_cases e : tb (lftN C.1 i p) b = 1
        · rw [decide_eq_true e]
          refine R_if_eq_f (n := 73) dX8_layOrder_70 rfl rfl (by decide) ?_
          refine R_iload (n := 75) dX8_layOrder_73 rfl rfl ?_
          by_cases ew : wh = 0
          · refine R_if_ne_f (n := 78) dX8_layOrder_75 rfl rfl (ew) ?_
            refine R_iload (n := 80) dX8_layOrder_78 rfl rfl ?_
            refine R_goto (tgt := 85) dX8_layOrder_80 rfl ?_
            exact tail _ (by rw [if_pos ⟨e, ew⟩])
          · refine R_if_ne_t (tgt := 83) dX8_layOrder_75 rfl (ew) ?_
            refine R_iload (n := 85) dX8_layOrder_83 rfl rfl ?_
            exact tail _ (by rw [if_neg (fun z => ew z.2)])
        · rw [decide_eq_false e]
          refine R_if_eq_t (tgt := 83) dX8_layOrder_70 rfl (by decide) ?_
          refine R_iload (n := 85) dX8_layOrder_83 rfl rfl ?_
          exact tail _ (by rw [if_neg (fun z => e z.1)])
    exact inner C.1 0 (-9) (nI (rstN C.1 i p / fct (C.1 - 1 - p))) (by omega) k2
theorem ct_X8_giveTrial {T : ST} {b k p0 : Nat} (hM : MCf μ C) (hT : MSt μ 128 54 C.1 C T) (hC : C.1 ≤ 6 ∧ C.2.1 ≤ 5) (ht : ∀ j, j < C.1 → sTea T j ≤ 9) (hp0 : μ.1 128 53 = nI p0) (hp : p0 ≤ 5) (hb : b < 10) (hk : k < 10) : Ct G l 3 yX8_giveTrial cX8_giveTrial 4 (some .boolean) [.ref (G.2.2.1 125), .int (nI b), .int (nI k)] μ (fun r μ' => r = some (.int (bi (givB C T p0 b k))) ∧ MSt μ' 128 54 C.1 C (givT C T p0 b k) ∧ Sme Ptm μ μ') := by
  refine Ct.of 1 (by decide +kernel) rfl (Nat.le_of_ble_eq_true rfl) ?_
  show V G l RX8 cX8_giveTrial 4 _ false _ _ 0 [some (.ref _), some (.int _), some (.int _), none] [] _
  refine R_aload_n (n := 1) dX8_giveTrial_0 rfl rfl ?_
  refine R_iload_n (n := 2) dX8_giveTrial_1 rfl rfl ?_
  refine iv_X8_89 (n := 5) (ct_X8_isBarge (nI b) hM.2.1 (by omega)) (by decide) dX8_giveTrial_2 rfl (Nat.le_of_ble_eq_true rfl) (fun r μ' hq => ?_)
  obtain ⟨rfl, hq⟩ := hq
  have hq := hq.symm
  subst hq
  have no : givB C T p0 b k = false → V G l RX8 cX8_giveTrial 4 3 false (some .boolean) (fun r μ' => r = some (.int (bi (givB C T p0 b k))) ∧ MSt μ' 128 54 C.1 C (givT C T p0 b k) ∧ Sme Ptm μ μ') 43 [some (.ref (G.2.2.1 125)), some (.int (nI b)), some (.int (nI k)), none] [] μ := by
    intro e
    refine R_iconst (v := nI 0) (n := 44) dX8_giveTrial_43 rfl rfl ?_
    refine R_istore_n (n := 45) dX8_giveTrial_44 rfl (Nat.le_of_ble_eq_true rfl) (Nat.le_of_ble_eq_true rfl) ?_
    refine R_iload_n (n := 46) dX8_giveTrial_45 rfl rfl ?_
    refine R_if_eq_t (tgt := 80) dX8_giveTrial_46 rfl (rfl) ?_
    refine R_iload_n (n := 81) dX8_giveTrial_80 rfl rfl ?_
    refine R_iret dX8_giveTrial_81 rfl (by first | rfl | exact nar_bi _) (⟨by rw [e]; rfl, by rw [givT, if_neg (by rw [e]; decide)]; exact hT, Sme.rf _ _⟩)
  by_cases e1 : b < C.1
  · rw [inR_nI (by omega) e1]
    refine R_if_eq_f (n := 8) dX8_giveTrial_5 rfl rfl (by decide) ?_
    refine R_aload_n (n := 9) dX8_giveTrial_8 rfl rfl ?_
    refine R_iload_n (n := 10) dX8_giveTrial_9 rfl rfl ?_
    refine iv_X8_97 (n := 13) (ct_X8_isLock (nI k) hM.1 (by omega)) (by decide) dX8_giveTrial_10 rfl (Nat.le_of_ble_eq_true rfl) (fun r μ' hq => ?_)
    obtain ⟨rfl, hq⟩ := hq
    have hq := hq.symm
    subst hq
    by_cases e2 : k < C.2.1
    · rw [inR_nI (by omega) e2]
      refine R_if_eq_f (n := 16) dX8_giveTrial_13 rfl rfl (by decide) ?_
      have ht1 : μ.1 128 (71 + b) = nI (sTea T b) := hT.2.2.2.1 b e1
      have ht9 := ht b e1
      refine R_aload_n (n := 17) dX8_giveTrial_16 rfl rfl ?_
      refine gf_X8_16 (n := 20) dX8_giveTrial_17 rfl ?_
      refine R_bipush (v := nI 71) (n := 22) dX8_giveTrial_20 rfl rfl ?_
      refine R_iload_n (n := 23) dX8_giveTrial_22 rfl rfl ?_
      refine R_iadd_n (n := 24) dX8_giveTrial_23 rfl ?_
      refine R_iald_e (n := 25) sh_128 (rfl) (by omega) dX8_giveTrial_24 rfl (ht1) ?_
      by_cases e3 : 0 < sTea T b
      · refine R_if_le_f (n := 28) dX8_giveTrial_25 rfl rfl (nI_nle e3 (by omega)) ?_
        refine R_iload_n (n := 29) dX8_giveTrial_28 rfl rfl ?_
        refine R_aload_n (n := 30) dX8_giveTrial_29 rfl rfl ?_
        refine gf_X8_16 (n := 33) dX8_giveTrial_30 rfl ?_
        refine R_bipush (v := nI 53) (n := 35) dX8_giveTrial_33 rfl rfl ?_
        refine R_iald_e (n := 36) sh_128 (rfl) (by omega) dX8_giveTrial_35 rfl (hp0) ?_
        by_cases e4 : k < p0
        · refine R_icmp_lt_t (tgt := 43) dX8_giveTrial_36 rfl (by rw [nI_ltI (by omega) (by omega)]; omega) ?_
          exact no (by rw [givB, decide_eq_true e1, decide_eq_true e2, decide_eq_true e3, decide_eq_true e4]; rfl)
        · refine R_icmp_lt_f (n := 39) dX8_giveTrial_36 rfl rfl (by rw [nI_ltI (by omega) (by omega)]; omega) ?_
          have eB : givB C T p0 b k = true := by rw [givB, decide_eq_true e1, decide_eq_true e2, decide_eq_true e3, decide_eq_false e4]; rfl
          rw [givT, if_pos eB, eB]
          refine R_iconst (v := nI 1) (n := 40) dX8_giveTrial_39 rfl rfl ?_
          refine R_goto (tgt := 44) dX8_giveTrial_40 rfl ?_
          refine R_istore_n (n := 45) dX8_giveTrial_44 rfl (Nat.le_of_ble_eq_true rfl) (Nat.le_of_ble_eq_true rfl) ?_
          refine R_iload_n (n := 46) dX8_giveTrial_45 rfl rfl ?_
          refine R_if_eq_f (n := 49) dX8_giveTrial_46 rfl rfl (by decide) ?_
          refine R_aload_n (n := 50) dX8_giveTrial_49 rfl rfl ?_
          refine gf_X8_16 (n := 53) dX8_giveTrial_50 rfl ?_
          refine R_bipush (v := nI 71) (n := 55) dX8_giveTrial_53 rfl rfl ?_
          refine R_iload_n (n := 56) dX8_giveTrial_55 rfl rfl ?_
          refine R_iadd_n (n := 57) dX8_giveTrial_56 rfl ?_
          refine R_dup2 (n := 58) dX8_giveTrial_57 rfl rfl rfl ?_
          refine R_iald_e (n := 59) sh_128 (rfl) (by omega) dX8_giveTrial_58 rfl (ht1) ?_
          refine R_iconst (v := nI 1) (n := 60) dX8_giveTrial_59 rfl rfl ?_
          refine R_isub_n (n := 61) dX8_giveTrial_60 ((by omega)) rfl ?_
          refine R_iast (n := 62) sh_128 (rfl) (by omega) dX8_giveTrial_61 rfl ?_
          have hT1 : MSt (sti μ 128 (71 + b) (nI (sTea T b - 1))) 128 54 C.1 C (setT T (updN (sTea T) b (sTea T b - 1))) := by
            obtain ⟨t1, t2, t3, t4, t5, t6⟩ := hT
            refine ⟨fun p hp => ?_, fun p hp => ?_, fun p hp => ?_, fun p hp => ?_, fun e he => ?_, ?_⟩
            · rw [sti_1_pf _ _ _ _ _ _ (by omega)]; exact t1 p hp
            · rw [sti_1_pf _ _ _ _ _ _ (by omega)]; exact t2 p hp
            · rw [sti_1_pf _ _ _ _ _ _ (by omega)]; exact t3 p hp
            · rw [sti_1]
              show _ = nI (updN _ _ _ p)
              unfold updN
              by_cases q : p = b
              · rw [if_pos ⟨rfl, by omega⟩, if_pos q]
              · rw [if_neg (by omega), if_neg q]; exact t4 p hp
            · rw [sti_1_pf _ _ _ _ _ _ (by omega)]; exact t5 e he
            · rw [sti_1_pf _ _ _ _ _ _ (by omega)]; exact t6
          have s1 : Sme Ptm μ (sti μ 128 (71 + b) (nI (sTea T b - 1))) := (Sme.rf _ _).sti (by omega)
          refine R_aload_n (n := 63) dX8_giveTrial_62 rfl rfl ?_
          refine gf_X8_16 (n := 66) dX8_giveTrial_63 rfl ?_
          refine R_bipush (v := nI 77) (n := 68) dX8_giveTrial_66 rfl rfl ?_
          refine R_bipush (v := nI 6) (n := 70) dX8_giveTrial_68 rfl rfl ?_
          refine R_iload_n (n := 71) dX8_giveTrial_70 rfl rfl ?_
          refine R_imul_n (n := 72) dX8_giveTrial_71 rfl ?_
          refine R_iadd_n (n := 73) dX8_giveTrial_72 rfl ?_
          refine R_iload_n (n := 74) dX8_giveTrial_73 rfl rfl ?_
          refine R_iadd_n (n := 75) dX8_giveTrial_74 rfl ?_
          refine R_dup2 (n := 76) dX8_giveTrial_75 rfl rfl rfl ?_
          refine R_iald (n := 77) sh_128 (rfl) (by omega) dX8_giveTrial_76 rfl ?_
          refine R_iconst (v := nI 1) (n := 78) dX8_giveTrial_77 rfl rfl ?_
          refine R_iadd (n := 79) dX8_giveTrial_78 rfl ?_
          refine R_iast (n := 80) sh_128 (rfl) (by omega) dX8_giveTrial_79 rfl ?_
          refine R_iload_n (n := 81) dX8_giveTrial_80 rfl rfl ?_
          refine R_iret dX8_giveTrial_81 rfl (by first | rfl | exact nar_bi _) (⟨rfl, mst_add hT1 ⟨hC.1, hC.2, hC.1⟩ (by omega) (by omega), s1.sti (by omega)⟩)
      · refine R_if_le_t (tgt := 43) dX8_giveTrial_25 rfl (by rw [show sTea T b = 0 by omega]; decide) ?_
        exact no (by rw [givB, decide_eq_true e1, decide_eq_true e2, decide_eq_false e3]; rfl)
    · rw [inR_nI' (by omega) (by omega) (by omega)]
      refine R_if_eq_t (tgt := 43) dX8_giveTrial_13 rfl (by decide) ?_
      exact no (by rw [givB, decide_eq_true e1, decide_eq_false e2]; rfl)
  · rw [inR_nI' (by omega) (by omega) (by omega)]
    refine R_if_eq_t (tgt := 43) dX8_giveTrial_5 rfl (by decide) ?_
    exact no (by rw [givB, decide_eq_false e1]; rfl)
theorem ct_X8_common {f : Nat} {a b : Int32} (h : eucT f (if a < 0 then -a else a) b) : Ct G l 1 yX8_common cX8_common 5 (some .int) [.int a, .int b] μ (fun r μ' => r = some (.int (eucL f (if a < 0 then -a else a) b)) ∧ μ' = μ) := by
  refine Ct.of 3 (by decide +kernel) rfl (Nat.le_of_ble_eq_true rfl) ?_
  show V G l RX8 cX8_common 5 _ false _ _ 0 [some (.int _), some (.int _), none, none, none] [] _
  refine R_iload_n (n := 1) dX8_common_0 rfl rfl ?_
  have loop : ∀ (f : Nat) (x y : Int32) (j4 : Option Value), eucT f x y → V G l RX8 cX8_common 5 1 false (some .int) (fun r μ' => r = some (.int (eucL f x y)) ∧ μ' = μ) 13 [some (.int a), some (.int b), some (.int x), some (.int y), j4] [] μ := by
    intro f
    induction f with
    | zero =>
      intro x y j4 h
      refine R_iload_n (n := 14) dX8_common_13 rfl rfl ?_
      refine R_if_eq_t (tgt := 30) dX8_common_14 rfl (h) ?_
      refine R_iload_n (n := 31) dX8_common_30 rfl rfl ?_
      refine R_iret dX8_common_31 rfl (rfl) (⟨rfl, rfl⟩)
    | succ f ih =>
      intro x y j4 h
      rw [eucL]
      refine R_iload_n (n := 14) dX8_common_13 rfl rfl ?_
      by_cases hy : y = 0
      · rw [if_pos hy]
        refine R_if_eq_t (tgt := 30) dX8_common_14 rfl (hy) ?_
        refine R_iload_n (n := 31) dX8_common_30 rfl rfl ?_
        refine R_iret dX8_common_31 rfl (rfl) (⟨rfl, rfl⟩)
      · rw [if_neg hy]
        refine R_if_eq_f (n := 17) dX8_common_14 rfl rfl (hy) ?_
        refine R_iload_n (n := 18) dX8_common_17 rfl rfl ?_
        refine R_iload_n (n := 19) dX8_common_18 rfl rfl ?_
        refine R_irem (n := 20) dX8_common_19 (hy) rfl ?_
        refine R_istore (n := 22) dX8_common_20 rfl (Nat.le_of_ble_eq_true rfl) (Nat.le_of_ble_eq_true rfl) ?_
        refine R_iload_n (n := 23) dX8_common_22 rfl rfl ?_
        refine R_istore_n (n := 24) dX8_common_23 rfl (Nat.le_of_ble_eq_true rfl) (Nat.le_of_ble_eq_true rfl) ?_
        refine R_iload (n := 26) dX8_common_24 rfl rfl ?_
        refine R_istore_n (n := 27) dX8_common_26 rfl (Nat.le_of_ble_eq_true rfl) (Nat.le_of_ble_eq_true rfl) ?_
        refine R_goto (tgt := 13) dX8_common_27 rfl ?_
        exact ih _ _ _ (h.resolve_left hy)
  by_cases ha : a < 0
  · rw [if_pos ha] at h ⊢
    refine R_if_ge_f (n := 4) dX8_common_1 rfl rfl (Int32.not_le.mpr ha) ?_
    refine R_iload_n (n := 5) dX8_common_4 rfl rfl ?_
    refine R_ineg (n := 6) dX8_common_5 rfl ?_
    refine R_goto (tgt := 10) dX8_common_6 rfl ?_
    refine R_istore_n (n := 11) dX8_common_10 rfl (Nat.le_of_ble_eq_true rfl) (Nat.le_of_ble_eq_true rfl) ?_
    refine R_iload_n (n := 12) dX8_common_11 rfl rfl ?_
    refine R_istore_n (n := 13) dX8_common_12 rfl (Nat.le_of_ble_eq_true rfl) (Nat.le_of_ble_eq_true rfl) ?_
    exact loop f _ _ _ h
  · rw [if_neg ha] at h ⊢
    refine R_if_ge_t (tgt := 9) dX8_common_1 rfl (Int32.not_lt.mp ha) ?_
    refine R_iload_n (n := 10) dX8_common_9 rfl rfl ?_
    refine R_istore_n (n := 11) dX8_common_10 rfl (Nat.le_of_ble_eq_true rfl) (Nat.le_of_ble_eq_true rfl) ?_
    refine R_iload_n (n := 12) dX8_common_11 rfl rfl ?_
    refine R_istore_n (n := 13) dX8_common_12 rfl (Nat.le_of_ble_eq_true rfl) (Nat.le_of_ble_eq_true rfl) ?_
    exact loop f _ _ _ h
theorem ct_X8_isOrder (x : Int32) {n : Nat} (hn : μ.1 125 1 = nI n) (h6 : n ≤ 6) : Ct G l 3 yX8_isOrder cX8_isOrder 6 (some .boolean) [.ref (G.2.2.1 125), .int x] μ (fun r μ' => r = some (.int (bi (ioB x n))) ∧ μ' = μ) := by
  refine Ct.of 4 (by decide +kernel) rfl (Nat.le_of_ble_eq_true rfl) ?_
  show V G l RX8 cX8_isOrder 6 _ false _ _ 0 [some (.ref _), some (.int _), none, none, none, none] [] _
  refine R_iconst (v := nI 0) (n := 1) dX8_isOrder_0 rfl rfl ?_
  refine R_istore_n (n := 2) dX8_isOrder_1 rfl (Nat.le_of_ble_eq_true rfl) (Nat.le_of_ble_eq_true rfl) ?_
  refine R_iload_n (n := 3) dX8_isOrder_2 rfl rfl ?_
  refine R_istore_n (n := 4) dX8_isOrder_3 rfl (Nat.le_of_ble_eq_true rfl) (Nat.le_of_ble_eq_true rfl) ?_
  refine R_iconst (v := nI 0) (n := 5) dX8_isOrder_4 rfl rfl ?_
  refine R_istore (n := 7) dX8_isOrder_5 rfl (Nat.le_of_ble_eq_true rfl) (Nat.le_of_ble_eq_true rfl) ?_
  rw [ioB]
  by_cases hx : x < 0
  · rw [if_pos hx]
    have hx0 : ¬ x = 0 := fun z => absurd hx (by rw [z]; decide)
    by_cases h0 : 0 < n
    · refine R_iload (n := 9) dX8_isOrder_7 rfl rfl ?_
      refine R_aload_n (n := 10) dX8_isOrder_9 rfl rfl ?_
      refine ge_X8_83 (n := 13) dX8_isOrder_10 rfl (hn) ?_
      refine R_icmp_ge_f (n := 16) dX8_isOrder_13 rfl rfl (by rw [nI_leI (by omega) (by omega)]; omega) ?_
      refine R_iload_n (n := 17) dX8_isOrder_16 rfl rfl ?_
      refine R_bipush (v := nI 10) (n := 19) dX8_isOrder_17 rfl rfl ?_
      refine R_irem (n := 20) dX8_isOrder_19 (by decide) rfl ?_
      refine R_iconst (v := nI 1) (n := 21) dX8_isOrder_20 rfl rfl ?_
      refine R_isub (n := 22) dX8_isOrder_21 rfl ?_
      refine R_istore (n := 24) dX8_isOrder_22 rfl (Nat.le_of_ble_eq_true rfl) (Nat.le_of_ble_eq_true rfl) ?_
      refine R_iload_n (n := 25) dX8_isOrder_24 rfl rfl ?_
      refine R_if_lt_t (tgt := 46) dX8_isOrder_25 rfl (hx) ?_
      refine R_iconst (v := nI 0) (n := 47) dX8_isOrder_46 rfl rfl ?_
      refine R_iret dX8_isOrder_47 rfl (by first | rfl | exact nar_bi _) (⟨rfl, rfl⟩)
    · refine R_iload (n := 9) dX8_isOrder_7 rfl rfl ?_
      refine R_aload_n (n := 10) dX8_isOrder_9 rfl rfl ?_
      refine ge_X8_83 (n := 13) dX8_isOrder_10 rfl (hn) ?_
      refine R_icmp_ge_t (tgt := 66) dX8_isOrder_13 rfl (by rw [nI_leI (by omega) (by omega)]; omega) ?_
      refine R_iload_n (n := 67) dX8_isOrder_66 rfl rfl ?_
      refine R_if_ne_t (tgt := 74) dX8_isOrder_67 rfl (hx0) ?_
      refine R_iconst (v := nI 0) (n := 75) dX8_isOrder_74 rfl rfl ?_
      refine R_iret dX8_isOrder_75 rfl (by first | rfl | exact nar_bi _) (⟨rfl, rfl⟩)
  · rw [if_neg hx]
    obtain ⟨m, hm, rfl⟩ := nI_of hx
    rw [nI_clamp hm]
    have loop : ∀ (f k q met : Nat) (j5 : Option Value), k + f = n → q < 2 ^ 31 → met < 64 → V G l RX8 cX8_isOrder 6 3 false (some .boolean) (fun r μ' => r = some (.int (bi (ioN n f q met))) ∧ μ' = μ) 7 [some (.ref (G.2.2.1 125)), some (.int (nI m)), some (.int (nI met)), some (.int (nI q)), some (.int (nI k)), j5] [] μ := by
      intro f
      induction f with
      | zero =>
        intro k q met j5 a1 a2 a3
        refine R_iload (n := 9) dX8_isOrder_7 rfl rfl ?_
        refine R_aload_n (n := 10) dX8_isOrder_9 rfl rfl ?_
        refine ge_X8_83 (n := 13) dX8_isOrder_10 rfl (hn) ?_
        refine R_icmp_ge_t (tgt := 66) dX8_isOrder_13 rfl (by rw [nI_leI (by omega) (by omega)]; omega) ?_
        refine R_iload_n (n := 67) dX8_isOrder_66 rfl rfl ?_
        by_cases hq : q = 0
        · refine R_if_ne_f (n := 70) dX8_isOrder_67 rfl rfl (by rw [hq]; rfl) ?_
          refine R_iconst (v := nI 1) (n := 71) dX8_isOrder_70 rfl rfl ?_
          refine R_goto (tgt := 75) dX8_isOrder_71 rfl ?_
          refine R_iret dX8_isOrder_75 rfl (by first | rfl | exact nar_bi _) (⟨by rw [ioN, decide_eq_true hq]; rfl, rfl⟩)
        · refine R_if_ne_t (tgt := 74) dX8_isOrder_67 rfl (nI_ne0 (by omega) a2) ?_
          refine R_iconst (v := nI 0) (n := 75) dX8_isOrder_74 rfl rfl ?_
          refine R_iret dX8_isOrder_75 rfl (by first | rfl | exact nar_bi _) (⟨by rw [ioN, decide_eq_false hq]; rfl, rfl⟩)
      | succ f ih =>
        intro k q met j5 a1 a2 a3
        rw [ioN]
        refine R_iload (n := 9) dX8_isOrder_7 rfl rfl ?_
        refine R_aload_n (n := 10) dX8_isOrder_9 rfl rfl ?_
        refine ge_X8_83 (n := 13) dX8_isOrder_10 rfl (hn) ?_
        refine R_icmp_ge_f (n := 16) dX8_isOrder_13 rfl rfl (by rw [nI_leI (by omega) (by omega)]; omega) ?_
        refine R_iload_n (n := 17) dX8_isOrder_16 rfl rfl ?_
        refine R_bipush (v := nI 10) (n := 19) dX8_isOrder_17 rfl rfl ?_
        refine R_irem_n (n := 20) dX8_isOrder_19 (by omega) (by omega) (by omega) rfl ?_
        refine R_iconst (v := nI 1) (n := 21) dX8_isOrder_20 rfl rfl ?_
        refine R_isub (n := 22) dX8_isOrder_21 rfl ?_
        refine R_istore (n := 24) dX8_isOrder_22 rfl (Nat.le_of_ble_eq_true rfl) (Nat.le_of_ble_eq_true rfl) ?_
        refine R_iload_n (n := 25) dX8_isOrder_24 rfl rfl ?_
        refine R_if_lt_f (n := 28) dX8_isOrder_25 rfl rfl (nI_pos a2) ?_
        refine R_aload_n (n := 29) dX8_isOrder_28 rfl rfl ?_
        refine R_iload (n := 31) dX8_isOrder_29 rfl rfl ?_
        refine iv_X8_89 (n := 34) (ct_X8_isBarge _ hn (by omega)) (by decide) dX8_isOrder_31 rfl (Nat.le_of_ble_eq_true rfl) (fun r μ' hq => ?_)
        obtain ⟨rfl, hq⟩ := hq
        have hq := hq.symm
        subst hq
        by_cases e1 : 1 ≤ q % 10
        · rw [nI_sub e1]
          by_cases e2 : q % 10 ≤ n
          · rw [inR_nI (by omega) (show q % 10 - 1 < n by omega)]
            refine R_if_eq_f (n := 37) dX8_isOrder_34 rfl rfl (by decide) ?_
            refine R_iload_n (n := 38) dX8_isOrder_37 rfl rfl ?_
            refine R_iload (n := 40) dX8_isOrder_38 rfl rfl ?_
            refine iv_X8_139 (n := 43) (ct_X8_has a3 (by omega)) (by decide) dX8_isOrder_40 rfl (Nat.le_of_ble_eq_true rfl) (fun r μ' hq => ?_)
            obtain ⟨rfl, hq⟩ := hq
            have hq := hq.symm
            subst hq
            have hb := tb_le met (q % 10 - 1)
            by_cases e3 : tb met (q % 10 - 1) = 0
            · rw [if_pos ⟨e1, e2, e3⟩, decide_eq_false (by omega)]
              refine R_if_eq_t (tgt := 48) dX8_isOrder_43 rfl (by decide) ?_
              refine R_iload_n (n := 49) dX8_isOrder_48 rfl rfl ?_
              refine R_iconst (v := nI 1) (n := 50) dX8_isOrder_49 rfl rfl ?_
              refine R_iload (n := 52) dX8_isOrder_50 rfl rfl ?_
              refine R_ishl (n := 53) dX8_isOrder_52 rfl ?_
              refine R_ior (n := 54) dX8_isOrder_53 rfl ?_
              rw [show nI 1 <<< (nI (q % 10 - 1) &&& 31) = bt (q % 10 - 1) from rfl, set_or met a3 _ (by omega) e3]
              refine R_istore_n (n := 55) dX8_isOrder_54 rfl (Nat.le_of_ble_eq_true rfl) (Nat.le_of_ble_eq_true rfl) ?_
              refine R_iload_n (n := 56) dX8_isOrder_55 rfl rfl ?_
              refine R_bipush (v := nI 10) (n := 58) dX8_isOrder_56 rfl rfl ?_
              refine R_idiv_n (n := 59) dX8_isOrder_58 (by omega) (by omega) (by omega) rfl ?_
              refine R_istore_n (n := 60) dX8_isOrder_59 rfl (Nat.le_of_ble_eq_true rfl) (Nat.le_of_ble_eq_true rfl) ?_
              refine R_iinc (n := 63) dX8_isOrder_60 rfl rfl (nI_1 _) (Nat.le_of_ble_eq_true rfl) ?_
              refine R_goto (tgt := 7) dX8_isOrder_63 rfl ?_
              refine ih (k + 1) (q / 10) _ _ (by omega) (by omega) ?_
              have H : ∀ s, s < 64 → ∀ v, v < 6 → tb s v = 0 → s + 2 ^ v < 64 := by decide +kernel
              exact H met a3 _ (by omega) e3
            · rw [if_neg (fun z => e3 z.2.2), decide_eq_true (by omega)]
              refine R_if_eq_f (n := 46) dX8_isOrder_43 rfl rfl (by decide) ?_
              refine R_iconst (v := nI 0) (n := 47) dX8_isOrder_46 rfl rfl ?_
              refine R_iret dX8_isOrder_47 rfl (by first | rfl | exact nar_bi _) (⟨rfl, rfl⟩)
          · rw [inR_nI' (by omega) (by omega) (show n ≤ q % 10 - 1 by omega), if_neg (fun z => e2 z.2.1)]
            refine R_if_eq_t (tgt := 46) dX8_isOrder_34 rfl (by decide) ?_
            refine R_iconst (v := nI 0) (n := 47) dX8_isOrder_46 rfl rfl ?_
            refine R_iret dX8_isOrder_47 rfl (by first | rfl | exact nar_bi _) (⟨rfl, rfl⟩)
        · rw [show q % 10 = 0 by omega, show inR (nI 0 - nI 1) n = false by rw [inR, decide_eq_false (by decide)]; rfl, if_neg (by omega)]
          refine R_if_eq_t (tgt := 46) dX8_isOrder_34 rfl (by decide) ?_
          refine R_iconst (v := nI 0) (n := 47) dX8_isOrder_46 rfl rfl ?_
          refine R_iret dX8_isOrder_47 rfl (by first | rfl | exact nar_bi _) (⟨rfl, rfl⟩)
    exact loop n 0 m 0 _ (by omega) hm (by omega)
end M5

