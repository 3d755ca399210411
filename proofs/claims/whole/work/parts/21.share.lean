/-! figures one by one; sets as numbers; SHARE -/
def dgt (m n p : Nat) : Nat := m / 10 ^ (n - 1 - p) % 10
theorem dgt_lt (m n p : Nat) : dgt m n p < 10 := Nat.mod_lt _ (by decide)
theorem nI_or {a b : Nat} : nI a ||| nI b = nI (a ||| b) := by
  apply Int32.toBitVec_inj.mp
  rw [Int32.toBitVec_or, nI_ofBV, nI_ofBV, nI_ofBV]
  exact BitVec.ofNat_or.symm
def seenN (m n : Nat) : Nat → Nat
  | 0 => 0
  | k + 1 => seenN m n k ||| 2 ^ dgt m n k
def ordB (x : Int32) (n : Nat) : Bool := decide (¬ x < 0) && (decide (x.toNatClampNeg / 10 ^ n = 0) && decide (seenN x.toNatClampNeg n n = 2 ^ (n + 1) - 2))
theorem bt_pow : ∀ d, d < 12 → bt d = nI (2 ^ d) := by decide +kernel
def bc (s : Nat) : Nat := tb s 0 + tb s 1 + tb s 2 + tb s 3 + tb s 4 + tb s 5
def fR (row : Nat → Nat) (s : Nat) : Nat → Nat × (Nat → Nat)
  | 0 => (0, fun _ => 0)
  | k + 1 => if tb s (row k) = 1 then ((fR row s k).1 + 1, updN (fR row s k).2 (fR row s k).1 (row k)) else fR row s k
theorem fR_le (row : Nat → Nat) (s : Nat) : ∀ k, (fR row s k).1 ≤ k
  | 0 => Nat.le_refl _
  | k + 1 => by
    have := fR_le row s k
    rw [fR]
    split
    · show (fR row s k).1 + 1 ≤ k + 1; omega
    · omega
theorem fR_lt {row : Nat → Nat} {s n : Nat} : ∀ k, (∀ p, p < k → row p < n) → ∀ p, p < (fR row s k).1 → (fR row s k).2 p < n
  | 0, _, p, hp => absurd hp (by show ¬ p < 0; omega)
  | k + 1, h, p, hp => by
    have ih := fR_lt (s := s) k (fun p hp => h p (by omega))
    rw [fR] at hp ⊢
    by_cases e : tb s (row k) = 1
    · rw [if_pos e] at hp ⊢
      show updN _ _ _ p < n
      unfold updN
      by_cases e2 : p = (fR row s k).1
      · rw [if_pos e2]; exact h k (by omega)
      · rw [if_neg e2]; exact ih p (by have : p < (fR row s k).1 + 1 := hp; omega)
    · rw [if_neg e] at hp ⊢; exact ih p hp
def lhS (C : CF) (S : ST) (s : Nat) : ST := mkS (fR (sRow S) s C.1).2 (fun _ => nI 0) (sTea S) (sLaw S) (sGvn S) (sPsd S)
def lhT (C : CF) (S : ST) (s : Nat) : ST := gos C (fR (sRow S) s C.1).1 (C.2.1 - sPsd S) (lhS C S s)
def lh (C : CF) (S : ST) (s : Nat) : Int32 := gH (sRow (lhT C S s)) (sHrs (lhT C S s)) (fR (sRow S) s C.1).1
def shrL (C : CF) (S : ST) (v : Nat) : Nat → Nat → Int32 → Int32
  | 0, _, acc => acc
  | f + 1, k, acc => if tb k v = 0 then shrL C S v f (k + 1) (acc + nI (fct (bc k)) * nI (fct (C.1 - 1 - bc k)) * (lh C S (k + 2 ^ v) - lh C S k)) else shrL C S v f (k + 1) acc
theorem set_and : ∀ s, s < 64 → ∀ v, v < 6 → nI s &&& bt v = nI (tb s v * 2 ^ v) := by decide +kernel
theorem set_or : ∀ s, s < 64 → ∀ v, v < 6 → tb s v = 0 → nI s ||| bt v = nI (s + 2 ^ v) := by decide +kernel
theorem bc_le : ∀ n, n < 7 → ∀ s, s < 2 ^ n → ∀ v, v < n → tb s v = 0 → bc s < n := by decide +kernel
theorem or_lt : ∀ n, n < 7 → ∀ s, s < 2 ^ n → ∀ v, v < n → tb s v = 0 → s + 2 ^ v < 64 := by decide +kernel
theorem gH_congr {row : Nat → Nat} {hrs hrs' : Nat → Int32} : ∀ {z : Nat}, (∀ p, p < z → hrs (row p) = hrs' (row p)) → gH row hrs z = gH row hrs' z
  | 0, _ => rfl
  | z + 1, h => by rw [gH, gH, gH_congr (z := z) (fun p hp => h p (by omega)), h z (by omega)]
section SH
variable {G : Gm} {l : Launch} {μ : Mem} {C : CF} {S : ST}
theorem ct_J6_bitCount {s : Nat} (hs : s < 64) : Ct G l 1 yJ6_bitCount_0f7a4 cJ6_bitCount_0f7a4 1 (some .int) [.int (nI s)] μ (fun r μ' => r = some (.int (nI (bc s))) ∧ μ' = μ) := by
  refine Ct.of 0 (by decide +kernel) rfl (Nat.le_of_ble_eq_true rfl) ?_
  show V G l RJ6 cJ6_bitCount_0f7a4 1 _ false _ _ 0 [some (.int _)] [] _
  refine R_iload_n (n := 1) dJ6_bitCount_0f7a4_0 rfl rfl ?_
  refine R_iload_n (n := 2) dJ6_bitCount_0f7a4_1 rfl rfl ?_
  refine R_iconst (v := nI 1) (n := 3) dJ6_bitCount_0f7a4_2 rfl rfl ?_
  refine R_iushr (n := 4) dJ6_bitCount_0f7a4_3 rfl ?_
  refine R_ldcw (n := 7) dJ6_bitCount_0f7a4_4 tK_RJ6_265 rfl ?_
  refine R_iand (n := 8) dJ6_bitCount_0f7a4_7 rfl ?_
  refine R_isub (n := 9) dJ6_bitCount_0f7a4_8 rfl ?_
  refine R_istore_n (n := 10) dJ6_bitCount_0f7a4_9 rfl (Nat.le_of_ble_eq_true rfl) (Nat.le_of_ble_eq_true rfl) ?_
  refine R_iload_n (n := 11) dJ6_bitCount_0f7a4_10 rfl rfl ?_
  refine R_ldcw (n := 14) dJ6_bitCount_0f7a4_11 tK_RJ6_266 rfl ?_
  refine R_iand (n := 15) dJ6_bitCount_0f7a4_14 rfl ?_
  refine R_iload_n (n := 16) dJ6_bitCount_0f7a4_15 rfl rfl ?_
  refine R_iconst (v := nI 2) (n := 17) dJ6_bitCount_0f7a4_16 rfl rfl ?_
  refine R_iushr (n := 18) dJ6_bitCount_0f7a4_17 rfl ?_
  refine R_ldcw (n := 21) dJ6_bitCount_0f7a4_18 tK_RJ6_266 rfl ?_
  refine R_iand (n := 22) dJ6_bitCount_0f7a4_21 rfl ?_
  refine R_iadd (n := 23) dJ6_bitCount_0f7a4_22 rfl ?_
  refine R_istore_n (n := 24) dJ6_bitCount_0f7a4_23 rfl (Nat.le_of_ble_eq_true rfl) (Nat.le_of_ble_eq_true rfl) ?_
  refine R_iload_n (n := 25) dJ6_bitCount_0f7a4_24 rfl rfl ?_
  refine R_iload_n (n := 26) dJ6_bitCount_0f7a4_25 rfl rfl ?_
  refine R_iconst (v := nI 4) (n := 27) dJ6_bitCount_0f7a4_26 rfl rfl ?_
  refine R_iushr (n := 28) dJ6_bitCount_0f7a4_27 rfl ?_
  refine R_iadd (n := 29) dJ6_bitCount_0f7a4_28 rfl ?_
  refine R_ldcw (n := 32) dJ6_bitCount_0f7a4_29 tK_RJ6_267 rfl ?_
  refine R_iand (n := 33) dJ6_bitCount_0f7a4_32 rfl ?_
  refine R_istore_n (n := 34) dJ6_bitCount_0f7a4_33 rfl (Nat.le_of_ble_eq_true rfl) (Nat.le_of_ble_eq_true rfl) ?_
  refine R_iload_n (n := 35) dJ6_bitCount_0f7a4_34 rfl rfl ?_
  refine R_iload_n (n := 36) dJ6_bitCount_0f7a4_35 rfl rfl ?_
  refine R_bipush (v := nI 8) (n := 38) dJ6_bitCount_0f7a4_36 rfl rfl ?_
  refine R_iushr (n := 39) dJ6_bitCount_0f7a4_38 rfl ?_
  refine R_iadd (n := 40) dJ6_bitCount_0f7a4_39 rfl ?_
  refine R_istore_n (n := 41) dJ6_bitCount_0f7a4_40 rfl (Nat.le_of_ble_eq_true rfl) (Nat.le_of_ble_eq_true rfl) ?_
  refine R_iload_n (n := 42) dJ6_bitCount_0f7a4_41 rfl rfl ?_
  refine R_iload_n (n := 43) dJ6_bitCount_0f7a4_42 rfl rfl ?_
  refine R_bipush (v := nI 16) (n := 45) dJ6_bitCount_0f7a4_43 rfl rfl ?_
  refine R_iushr (n := 46) dJ6_bitCount_0f7a4_45 rfl ?_
  refine R_iadd (n := 47) dJ6_bitCount_0f7a4_46 rfl ?_
  refine R_istore_n (n := 48) dJ6_bitCount_0f7a4_47 rfl (Nat.le_of_ble_eq_true rfl) (Nat.le_of_ble_eq_true rfl) ?_
  refine R_iload_n (n := 49) dJ6_bitCount_0f7a4_48 rfl rfl ?_
  refine R_bipush (v := nI 63) (n := 51) dJ6_bitCount_0f7a4_49 rfl rfl ?_
  refine R_iand (n := 52) dJ6_bitCount_0f7a4_51 rfl ?_
  refine R_iret dJ6_bitCount_0f7a4_52 rfl rfl ⟨?_, rfl⟩
  refine congrArg (fun x => some (Value.int x)) ?_
  revert s
  decide +kernel
abbrev Pfg : Nat → Nat → Prop := fun i _ => i = 121
theorem ct_X3_spread {m n : Nat} (hm : m < 2 ^ 31) (hn : n ≤ 6) : Ct G l 1 yX3_spread cX3_spread 5 (some .boolean) [.ref (G.2.2.1 119), .int (nI m), .int (nI n)] μ (fun r μ' => r = some (.int (bi (decide (m / 10 ^ n = 0)))) ∧ (∀ p, p < n → μ'.1 121 p = nI (dgt m n p)) ∧ Sme Pfg μ μ') := by
  refine Ct.of 2 (by decide +kernel) rfl (Nat.le_of_ble_eq_true rfl) ?_
  show V G l RX3 cX3_spread 5 _ false _ _ 0 [some (.ref _), some (.int _), some (.int _), none, none] [] _
  refine R_iload_n (n := 1) dX3_spread_0 rfl rfl ?_
  refine R_istore_n (n := 2) dX3_spread_1 rfl (Nat.le_of_ble_eq_true rfl) (Nat.le_of_ble_eq_true rfl) ?_
  refine R_iload_n (n := 3) dX3_spread_2 rfl rfl ?_
  refine R_iconst (v := nI 1) (n := 4) dX3_spread_3 rfl rfl ?_
  refine R_isub (n := 5) dX3_spread_4 rfl ?_
  refine R_istore (n := 7) dX3_spread_5 rfl (Nat.le_of_ble_eq_true rfl) (Nat.le_of_ble_eq_true rfl) ?_
  have loop : ∀ (k : Nat) (μ1 : Mem), k ≤ n → (∀ p, k ≤ p → p < n → μ1.1 121 p = nI (dgt m n p)) → Sme Pfg μ μ1 → V G l RX3 cX3_spread 5 1 false (some .boolean) (fun r μ' => r = some (.int (bi (decide (m / 10 ^ n = 0)))) ∧ (∀ p, p < n → μ'.1 121 p = nI (dgt m n p)) ∧ Sme Pfg μ μ') 7 [some (.ref (G.2.2.1 119)), some (.int (nI m)), some (.int (nI n)), some (.int (nI (m / 10 ^ (n - k)))), some (.int (mI k))] [] μ1 := by
    intro k
    induction k with
    | zero =>
      intro μ1 hk h1 h2
      have hd : m / 10 ^ n < 2 ^ 31 := Nat.lt_of_le_of_lt (Nat.div_le_self _ _) hm
      rw [Nat.sub_zero]
      refine R_iload (n := 9) dX3_spread_7 rfl rfl ?_
      refine R_if_lt_t (tgt := 34) dX3_spread_9 rfl (by decide) ?_
      refine R_iload_n (n := 35) dX3_spread_34 rfl rfl ?_
      refine R_if_ne (n := 38) (tgt := 42) dX3_spread_35 rfl rfl (fun h => ?_) (fun h => ?_)
      · refine R_iconst (v := nI 0) (n := 43) dX3_spread_42 rfl rfl ?_
        refine R_iret dX3_spread_43 rfl (by first | rfl | exact nar_bi _) (⟨by rw [decide_eq_false (fun z => h (by rw [z]; rfl))]; rfl, fun p hp => h1 p (Nat.zero_le _) hp, h2⟩)
      · have : m / 10 ^ n = 0 := (nI_eq hd (by omega)).mp (h.trans nI_0.symm)
        refine R_iconst (v := nI 1) (n := 39) dX3_spread_38 rfl rfl ?_
        refine R_goto (tgt := 43) dX3_spread_39 rfl ?_
        refine R_iret dX3_spread_43 rfl (by first | rfl | exact nar_bi _) (⟨by rw [decide_eq_true this]; rfl, fun p hp => h1 p (Nat.zero_le _) hp, h2⟩)
    | succ k ih =>
      intro μ1 hk h1 h2
      have hd : m / 10 ^ (n - (k + 1)) < 2 ^ 31 := Nat.lt_of_le_of_lt (Nat.div_le_self _ _) hm
      rw [mI_succ]
      refine R_iload (n := 9) dX3_spread_7 rfl rfl ?_
      refine R_if_lt_f (n := 12) dX3_spread_9 rfl rfl (nI_pos (by omega)) ?_
      refine R_aload_n (n := 13) dX3_spread_12 rfl rfl ?_
      refine gf_X3_15 (n := 16) dX3_spread_13 rfl ?_
      refine R_iload (n := 18) dX3_spread_16 rfl rfl ?_
      refine R_iload_n (n := 19) dX3_spread_18 rfl rfl ?_
      refine R_bipush (v := nI 10) (n := 21) dX3_spread_19 rfl rfl ?_
      refine R_irem_n (n := 22) dX3_spread_21 (by omega) (by omega) (by omega) rfl ?_
      refine R_iast (n := 23) sh_121 (rfl) (by omega) dX3_spread_22 rfl ?_
      refine R_iload_n (n := 24) dX3_spread_23 rfl rfl ?_
      refine R_bipush (v := nI 10) (n := 26) dX3_spread_24 rfl rfl ?_
      refine R_idiv_n (n := 27) dX3_spread_26 (by omega) (by omega) (by omega) rfl ?_
      refine R_istore_n (n := 28) dX3_spread_27 rfl (Nat.le_of_ble_eq_true rfl) (Nat.le_of_ble_eq_true rfl) ?_
      refine R_iinc (n := 31) dX3_spread_28 rfl rfl (mI_dec k) (Nat.le_of_ble_eq_true rfl) ?_
      refine R_goto (tgt := 7) dX3_spread_31 rfl ?_
      rw [show m / 10 ^ (n - (k + 1)) / 10 = m / 10 ^ (n - k) by rw [show n - k = n - (k + 1) + 1 by omega, Nat.pow_succ, Nat.div_div_eq_div_mul]]
      refine ih _ (by omega) (fun p hp1 hp2 => ?_) (h2.sti rfl)
      rw [sti_1]
      by_cases e : p = k
      · subst e
        rw [if_pos ⟨rfl, rfl⟩, dgt, show n - 1 - p = n - (p + 1) by omega]
      · rw [if_neg (fun z => e z.2)]; exact h1 p (by omega) hp2
  have h0 := loop n μ (Nat.le_refl _) (fun p h1 h2 => absurd h1 (by omega)) (Sme.rf _ _)
  rw [show m / 10 ^ (n - n) = m by rw [Nat.sub_self]; exact Nat.div_one m] at h0
  exact h0
theorem ct_X3_areAllBarges (x : Int32) (hC : CCf μ C) (hn : C.1 ≤ 6) : Ct G l 2 yX3_areAllBarges cX3_areAllBarges 5 (some .boolean) [.ref (G.2.2.1 119), .ref (G.2.2.1 3), .int x] μ (fun r μ' => r = some (.int (bi (ordB x C.1))) ∧ Sme Pfg μ μ') := by
  refine Ct.of 2 (by decide +kernel) rfl (Nat.le_of_ble_eq_true rfl) ?_
  show V G l RX3 cX3_areAllBarges 5 _ false _ _ 0 [some (.ref _), some (.ref _), some (.int _), none, none] [] _
  refine R_iload_n (n := 1) dX3_areAllBarges_0 rfl rfl ?_
  refine R_if_lt (n := 4) (tgt := 16) dX3_areAllBarges_1 rfl rfl (fun h => ?_) (fun h => ?_)
  · refine R_iconst (v := nI 0) (n := 17) dX3_areAllBarges_16 rfl rfl ?_
    refine R_iret dX3_areAllBarges_17 rfl (by first | rfl | exact nar_bi _) (⟨by rw [ordB, decide_eq_false (fun z => z h)]; rfl, Sme.rf _ _⟩)
  · obtain ⟨m, hm, rfl⟩ := nI_of h
    have hcl : (nI m).toNatClampNeg = m := nI_clamp hm
    refine R_aload_n (n := 5) dX3_areAllBarges_4 rfl rfl ?_
    refine R_iload_n (n := 6) dX3_areAllBarges_5 rfl rfl ?_
    refine R_aload_n (n := 7) dX3_areAllBarges_6 rfl rfl ?_
    refine ge_X3_45 (n := 10) dX3_areAllBarges_7 rfl (hC.2.1) ?_
    refine iv_X3_116 (n := 13) (ct_X3_spread hm hn) (by decide) dX3_areAllBarges_10 rfl (Nat.le_of_ble_eq_true rfl) (fun r μ' hq => ?_)
    obtain ⟨rfl, s1, s2⟩ := hq
    by_cases e : m / 10 ^ C.1 = 0
    · rw [decide_eq_true e]
      refine R_if_ne_t (tgt := 18) dX3_areAllBarges_13 rfl (by decide) ?_
      refine R_iconst (v := nI 0) (n := 19) dX3_areAllBarges_18 rfl rfl ?_
      refine R_istore_n (n := 20) dX3_areAllBarges_19 rfl (Nat.le_of_ble_eq_true rfl) (Nat.le_of_ble_eq_true rfl) ?_
      refine R_iconst (v := nI 0) (n := 21) dX3_areAllBarges_20 rfl rfl ?_
      refine R_istore (n := 23) dX3_areAllBarges_21 rfl (Nat.le_of_ble_eq_true rfl) (Nat.le_of_ble_eq_true rfl) ?_
      have hcn := (s2.1 3 5 (by omega)).trans hC.2.1
      refine down (z := C.1) (P := fun j => V G l RX3 cX3_areAllBarges 5 2 false _ _ 23 [some (.ref _), some (.ref _), some (.int (nI m)), some (.int (nI (seenN m C.1 j))), some (.int (nI j))] [] _) ?_ ?_ 0 (Nat.zero_le _)
      · refine R_iload (n := 25) dX3_areAllBarges_23 rfl rfl ?_
        refine R_aload_n (n := 26) dX3_areAllBarges_25 rfl rfl ?_
        refine ge_X3_45 (n := 29) dX3_areAllBarges_26 rfl (hcn) ?_
        refine R_icmp_ge_t (tgt := 50) dX3_areAllBarges_29 rfl (by rw [nI_leI (by omega) (by omega)]; omega) ?_
        refine R_iload_n (n := 51) dX3_areAllBarges_50 rfl rfl ?_
        refine R_iconst (v := nI 2) (n := 52) dX3_areAllBarges_51 rfl rfl ?_
        refine R_aload_n (n := 53) dX3_areAllBarges_52 rfl rfl ?_
        refine ge_X3_45 (n := 56) dX3_areAllBarges_53 rfl (hcn) ?_
        refine R_ishl (n := 57) dX3_areAllBarges_56 rfl ?_
        refine R_iconst (v := nI 2) (n := 58) dX3_areAllBarges_57 rfl rfl ?_
        refine R_isub (n := 59) dX3_areAllBarges_58 rfl ?_
        have E : ∀ n, n < 7 → nI 2 <<< (nI n &&& 31) - nI 2 = nI (2 ^ (n + 1) - 2) := by decide +kernel
        have hs10 : ∀ k, seenN m C.1 k < 2 ^ 10 := by
          intro k
          induction k with
          | zero => show (0 : Nat) < 2 ^ 10; decide
          | succ k ih => exact Nat.or_lt_two_pow ih (Nat.pow_lt_pow_right (by decide) (dgt_lt _ _ _))
        have hs := hs10 C.1
        have hp : 2 ^ (C.1 + 1) - 2 < 2 ^ 31 := by
          have H : ∀ n, n < 7 → 2 ^ (n + 1) - 2 < 2 ^ 31 := by decide +kernel
          exact H _ (by omega)
        rw [E _ (by omega)]
        refine R_icmp_ne (n := 62) (tgt := 66) dX3_areAllBarges_59 rfl rfl (fun hh => ?_) (fun hh => ?_)
        · rw [nI_eq (by omega) hp] at hh
          refine R_iconst (v := nI 0) (n := 67) dX3_areAllBarges_66 rfl rfl ?_
          refine R_iret dX3_areAllBarges_67 rfl (by first | rfl | exact nar_bi _) (⟨by rw [ordB, decide_eq_true h, hcl, decide_eq_true e, decide_eq_false hh]; rfl, s2⟩)
        · rw [nI_eq (by omega) hp] at hh
          refine R_iconst (v := nI 1) (n := 63) dX3_areAllBarges_62 rfl rfl ?_
          refine R_goto (tgt := 67) dX3_areAllBarges_63 rfl ?_
          refine R_iret dX3_areAllBarges_67 rfl (by first | rfl | exact nar_bi _) (⟨by rw [ordB, decide_eq_true h, hcl, decide_eq_true e, decide_eq_true hh]; rfl, s2⟩)
      · intro j hj ih
        refine R_iload (n := 25) dX3_areAllBarges_23 rfl rfl ?_
        refine R_aload_n (n := 26) dX3_areAllBarges_25 rfl rfl ?_
        refine ge_X3_45 (n := 29) dX3_areAllBarges_26 rfl (hcn) ?_
        refine R_icmp_ge_f (n := 32) dX3_areAllBarges_29 rfl rfl (by rw [nI_leI (by omega) (by omega)]; omega) ?_
        refine R_iload_n (n := 33) dX3_areAllBarges_32 rfl rfl ?_
        refine R_iconst (v := nI 1) (n := 34) dX3_areAllBarges_33 rfl rfl ?_
        refine R_aload_n (n := 35) dX3_areAllBarges_34 rfl rfl ?_
        refine gf_X3_15 (n := 38) dX3_areAllBarges_35 rfl ?_
        refine R_iload (n := 40) dX3_areAllBarges_38 rfl rfl ?_
        refine R_iald_e (n := 41) sh_121 (rfl) (by omega) dX3_areAllBarges_40 rfl (s1 _ (by omega)) ?_
        refine R_ishl (n := 42) dX3_areAllBarges_41 rfl ?_
        refine R_ior (n := 43) dX3_areAllBarges_42 rfl ?_
        rw [show nI 1 <<< (nI (dgt m C.1 j) &&& 31) = nI (2 ^ dgt m C.1 j) from bt_pow _ (by have := dgt_lt m C.1 j; omega), nI_or]
        refine R_istore_n (n := 44) dX3_areAllBarges_43 rfl (Nat.le_of_ble_eq_true rfl) (Nat.le_of_ble_eq_true rfl) ?_
        refine R_iinc (n := 47) dX3_areAllBarges_44 rfl rfl (nI_1 _) (Nat.le_of_ble_eq_true rfl) ?_
        refine R_goto (tgt := 23) dX3_areAllBarges_47 rfl ?_
        exact ih
    · rw [decide_eq_false e]
      refine R_if_ne_f (n := 16) dX3_areAllBarges_13 rfl rfl (by decide) ?_
      refine R_iconst (v := nI 0) (n := 17) dX3_areAllBarges_16 rfl rfl ?_
      refine R_iret dX3_areAllBarges_17 rfl (by first | rfl | exact nar_bi _) (⟨by rw [ordB, hcl, decide_eq_false e, Bool.false_and, Bool.and_false]; rfl, s2⟩)
theorem ct_X3_firstMisplaced {n : Nat} {d : Nat → Nat} (hQ : Qc μ C S) (hn : n ≤ 6) (hd : ∀ p, p < n → μ.1 121 p = nI (d p)) : Ct G l 6 yX3_firstMisplaced cX3_firstMisplaced 5 (some .int) [.ref (G.2.2.1 119), .ref (G.2.2.1 3), .int (nI n)] μ (fun r μ' => r = some (.int (oI (srch (fun p => !decide (p < C.1 ∧ nI (sRow (bas C S) p) = nI (d p) - nI 1)) n 0))) ∧ Sme Ptr μ μ') := by
  obtain ⟨hC, hS, hO, hP⟩ := hQ
  refine Ct.of 2 (by decide +kernel) rfl (Nat.le_of_ble_eq_true rfl) ?_
  show V G l RX3 cX3_firstMisplaced 5 _ false _ _ 0 [some (.ref _), some (.ref _), some (.int _), none, none] [] _
  refine R_aload_n (n := 1) dX3_firstMisplaced_0 rfl rfl ?_
  refine iv_X3_119 (n := 4) (ct_X1_atBasin hC hS hO) (by decide) dX3_firstMisplaced_1 rfl (Nat.le_of_ble_eq_true rfl) (fun r μ' hq => ?_)
  obtain ⟨rfl, b1, b2⟩ := hq
  have hf : ∀ p, p < n → μ'.1 121 p = nI (d p) := fun p hp => (b2.1 _ _ (by omega)).trans (hd p hp)
  refine R_astore_n (n := 5) dX3_firstMisplaced_4 rfl (Nat.le_of_ble_eq_true rfl) (Nat.le_of_ble_eq_true rfl) ?_
  refine R_iconst (v := nI 0) (n := 6) dX3_firstMisplaced_5 rfl rfl ?_
  refine R_istore (n := 8) dX3_firstMisplaced_6 rfl (Nat.le_of_ble_eq_true rfl) (Nat.le_of_ble_eq_true rfl) ?_
  have loop : ∀ (f p : Nat), p + f = n → V G l RX3 cX3_firstMisplaced 5 6 false (some .int) (fun r μ' => r = some (.int (oI (srch (fun p => !decide (p < C.1 ∧ nI (sRow (bas C S) p) = nI (d p) - nI 1)) f p))) ∧ Sme Ptr μ μ') 8 [some (.ref (G.2.2.1 119)), some (.ref (G.2.2.1 3)), some (.int (nI n)), some (.ref (G.2.2.1 12)), some (.int (nI p))] [] μ' := by
    intro f
    induction f with
    | zero =>
      intro p hp
      refine R_iload (n := 10) dX3_firstMisplaced_8 rfl rfl ?_
      refine R_iload_n (n := 11) dX3_firstMisplaced_10 rfl rfl ?_
      refine R_icmp_ge_t (tgt := 41) dX3_firstMisplaced_11 rfl (by rw [nI_leI (by omega) (by omega)]; omega) ?_
      refine R_bipush (v := -9) (n := 43) dX3_firstMisplaced_41 rfl rfl ?_
      refine R_iret dX3_firstMisplaced_43 rfl (rfl) (⟨rfl, b2⟩)
    | succ f ih =>
      intro p hp
      refine R_iload (n := 10) dX3_firstMisplaced_8 rfl rfl ?_
      refine R_iload_n (n := 11) dX3_firstMisplaced_10 rfl rfl ?_
      refine R_icmp_ge_f (n := 14) dX3_firstMisplaced_11 rfl rfl (by rw [nI_leI (by omega) (by omega)]; omega) ?_
      refine R_aload_n (n := 15) dX3_firstMisplaced_14 rfl rfl ?_
      refine R_iload (n := 17) dX3_firstMisplaced_15 rfl rfl ?_
      refine R_aload_n (n := 18) dX3_firstMisplaced_17 rfl rfl ?_
      refine gf_X3_15 (n := 21) dX3_firstMisplaced_18 rfl ?_
      refine R_iload (n := 23) dX3_firstMisplaced_21 rfl rfl ?_
      refine R_iald_e (n := 24) sh_121 (rfl) (by omega) dX3_firstMisplaced_23 rfl (hf _ (by omega)) ?_
      refine R_iconst (v := nI 1) (n := 25) dX3_firstMisplaced_24 rfl rfl ?_
      refine R_isub (n := 26) dX3_firstMisplaced_25 rfl ?_
      refine iv_X3_79 (n := 29) (ct_X5_isAt (p := p) stB_12 hO.1 b1.2.2.2.2.2.1 b1.1 (by omega)) stB_12 (by decide) dX3_firstMisplaced_26 rfl (Nat.le_of_ble_eq_true rfl) (fun r μ' hq => ?_)
      obtain ⟨rfl, hq⟩ := hq
      have hq := hq.symm
      subst hq
      rw [srch]
      by_cases e : p < C.1 ∧ nI (sRow (bas C S) p) = nI (d p) - nI 1
      · rw [show bi (decide (p < C.1 ∧ nI (sRow (gos C C.1 (C.2.1 - sPsd S) S) p) = nI (d p) - nI 1)) = nI 1 by show bi (decide (p < C.1 ∧ nI (sRow (bas C S) p) = nI (d p) - nI 1)) = _; rw [decide_eq_true e]; rfl, if_neg (by rw [decide_eq_true e]; decide)]
        refine R_if_ne_t (tgt := 35) dX3_firstMisplaced_29 rfl (by decide) ?_
        refine R_iinc (n := 38) dX3_firstMisplaced_35 rfl rfl (nI_1 _) (Nat.le_of_ble_eq_true rfl) ?_
        refine R_goto (tgt := 8) dX3_firstMisplaced_38 rfl ?_
        exact ih (p + 1) (by omega)
      · rw [show bi (decide (p < C.1 ∧ nI (sRow (gos C C.1 (C.2.1 - sPsd S) S) p) = nI (d p) - nI 1)) = nI 0 by show bi (decide (p < C.1 ∧ nI (sRow (bas C S) p) = nI (d p) - nI 1)) = _; rw [decide_eq_false e]; rfl, if_pos (by rw [decide_eq_false e]; decide)]
        refine R_if_ne_f (n := 32) dX3_firstMisplaced_29 rfl rfl (by decide) ?_
        refine R_iload (n := 34) dX3_firstMisplaced_32 rfl rfl ?_
        refine R_iret dX3_firstMisplaced_34 rfl (rfl) (⟨rfl, b2⟩)
  exact loop n 0 (by omega)
theorem ct_X3_lastHourOf {s : Nat} (hQ : Qc μ C S) (hs : s < 64) : Ct G l 5 yX3_lastHourOf cX3_lastHourOf 6 (some .int) [.ref (G.2.2.1 119), .ref (G.2.2.1 3), .int (nI s)] μ (fun r μ' => r = some (.int (lh C S s)) ∧ Sme Ptr μ μ') := by
  obtain ⟨hC, hS, hO, hP⟩ := hQ
  obtain ⟨o1, o2, o3, o4, o5, o6⟩ := id hO
  refine Ct.of 3 (by decide +kernel) rfl (Nat.le_of_ble_eq_true rfl) ?_
  show V G l RX3 cX3_lastHourOf 6 _ false _ _ 0 [some (.ref _), some (.ref _), some (.int _), none, none, none] [] _
  refine R_aload_n (n := 1) dX3_lastHourOf_0 rfl rfl ?_
  refine iv_X3_18 (n := 4) (ct_X1_newTrial) (by decide) dX3_lastHourOf_1 rfl (Nat.le_of_ble_eq_true rfl) (fun r μ' hq => ?_)
  obtain ⟨rfl, c1, c2⟩ := hq
  have hT := cst_cpy o2 o1 (by omega) hS c1
  refine R_astore_n (n := 5) dX3_lastHourOf_4 rfl (Nat.le_of_ble_eq_true rfl) (Nat.le_of_ble_eq_true rfl) ?_
  refine R_aload_n (n := 6) dX3_lastHourOf_5 rfl rfl ?_
  refine iv_X3_131 (n := 9) (ct_X5_clearHours stB_12) stB_12 (by decide) dX3_lastHourOf_6 rfl (Nat.le_of_ble_eq_true rfl) (fun r μ' hq => ?_)
  obtain ⟨rfl, k1, k2⟩ := hq
  obtain ⟨t1, t2, t3, t4, t5, t6, t7⟩ := hT
  refine R_aload_n (n := 10) dX3_lastHourOf_9 rfl rfl ?_
  refine R_iconst (v := nI 0) (n := 11) dX3_lastHourOf_10 rfl rfl ?_
  refine pf_X3_134 (n := 14) stB_12 dX3_lastHourOf_11 rfl ?_
  refine R_iconst (v := nI 0) (n := 15) dX3_lastHourOf_14 rfl rfl ?_
  refine R_istore (n := 17) dX3_lastHourOf_15 rfl (Nat.le_of_ble_eq_true rfl) (Nat.le_of_ble_eq_true rfl) ?_
  have key : ∀ (k : Nat) (μ2 : Mem), (∀ p, p < (fR (sRow S) s k).1 → μ2.1 13 p = nI ((fR (sRow S) s k).2 p)) → μ2.1 12 5 = nI (fR (sRow S) s k).1 → Sme (fun i j => i = 13 ∨ (i = 12 ∧ j = 5)) (sti μ' 12 5 (nI 0)) μ2 → (k = C.1 → CSt μ2 12 (fR (sRow S) s C.1).1 C (lhS C S s)) ∧ Sme Ptr μ μ2 := by
    intro k μ2 a1 a2 a3
    have e : ∀ i j, i ≠ 13 → ¬ (i = 12 ∧ j = 5) → μ2.1 i j = μ'.1 i j := fun i j z1 z2 => (a3.1 i j (by omega)).trans (sti_1_pf _ _ _ _ _ _ z2)
    have a4 : Sme Ptr μ μ2 := (c2.tr ((k2.mono (fun i j h => by omega)))).tr ((((Sme.rf Ptr _).sti (by omega)).tr (a3.mono (fun i j h => by omega))))
    refine ⟨fun ek => ?_, a4⟩
    subst ek
    refine ⟨a1, fun p hp => (e _ _ (by omega) (by omega)).trans (k1 p hp), fun p hp => ?_, fun p hp => ?_, fun p hp => ?_, a2, ?_⟩
    · rw [e _ _ (by omega) (by omega), k2.1 _ _ (by omega)]; exact t3 p hp
    · rw [e _ _ (by omega) (by omega), k2.1 _ _ (by omega)]; exact t4 p hp
    · rw [e _ _ (by omega) (by omega), k2.1 _ _ (by omega)]; exact t5 p hp
    · rw [e _ _ (by omega) (by omega), k2.1 _ _ (by omega)]; exact t7
  refine down (z := C.1) (P := fun k => ∀ (μ2 : Mem) (j5 : Option Value), (∀ p, p < (fR (sRow S) s k).1 → μ2.1 13 p = nI ((fR (sRow S) s k).2 p)) → μ2.1 12 5 = nI (fR (sRow S) s k).1 → Sme (fun i j => i = 13 ∨ (i = 12 ∧ j = 5)) (sti μ' 12 5 (nI 0)) μ2 → V G l RX3 cX3_lastHourOf 6 5 false _ (fun r μ' => r = some (.int (lh C S s)) ∧ Sme Ptr μ μ') 17 [some (.ref _), some (.ref _), some (.int (nI s)), some (.ref (G.2.2.1 12)), some (.int (nI k)), j5] [] μ2) ?_ ?_ 0 (Nat.zero_le _) _ _ (fun p h => absurd h (by show ¬ p < 0; omega)) (by rw [sti_1_eq]; rfl) (Sme.rf _ _)
  · intro μ2 j5 a1 a2 a3
    obtain ⟨b1, b2⟩ := key C.1 μ2 a1 a2 a3
    have hC2 := hC.kept b2 (by omega) (by omega) (fun j => by omega) (fun j => by omega)
    have hcn := hC2.2.1
    have hcL := hC2.1
    refine R_iload (n := 19) dX3_lastHourOf_17 rfl rfl ?_
    refine R_aload_n (n := 20) dX3_lastHourOf_19 rfl rfl ?_
    refine ge_X3_45 (n := 23) dX3_lastHourOf_20 rfl (hcn) ?_
    refine R_icmp_ge_t (tgt := 75) dX3_lastHourOf_23 rfl (by rw [nI_leI (by omega) (by omega)]; omega) ?_
    refine R_aload_n (n := 76) dX3_lastHourOf_75 rfl rfl ?_
    refine R_aload_n (n := 77) dX3_lastHourOf_76 rfl rfl ?_
    refine R_aload_n (n := 78) dX3_lastHourOf_77 rfl rfl ?_
    refine ge_X3_30 (n := 81) dX3_lastHourOf_78 rfl (hcL) ?_
    have hz := fR_le (sRow S) s C.1
    have hO2 : Ok C (fR (sRow S) s C.1).1 (lhS C S s) := ⟨o1, o2, hz, fR_lt C.1 o4, o5, o6⟩
    refine iv_X3_75 (n := 84) (ct_X1_goOnTo stB_12 (by omega) hC2 (b1 rfl) hO2 (Nat.le_refl _) o6) (by decide) dX3_lastHourOf_81 rfl (Nat.le_of_ble_eq_true rfl) (fun r μ' hq => ?_)
    obtain ⟨rfl, g1, g2⟩ := hq
    have hO3 := ok_gos (C.2.1 - sPsd (lhS C S s)) _ hO2 (by show sPsd S + (C.2.1 - sPsd S) ≤ C.2.1; omega)
    refine R_aload_n (n := 85) dX3_lastHourOf_84 rfl rfl ?_
    refine iv_X3_137 (n := 88) (ct_X5_greatestHour stB_12 (by omega) g1.2.2.2.2.2.1 g1.1 (fun p hp => Nat.lt_of_lt_of_le (hO3.2.2.2.1 p hp) o1)) stB_12 (by decide) dX3_lastHourOf_85 rfl (Nat.le_of_ble_eq_true rfl) (fun r μ' hq => ?_)
    obtain ⟨rfl, hq⟩ := hq
    have hq := hq.symm
    subst hq
    refine R_iret dX3_lastHourOf_88 rfl rfl ⟨?_, b2.tr (g2.mono (fun i j h => by omega))⟩
    refine congrArg (fun x => some (Value.int x)) (gH_congr (fun p hp => ?_))
    exact g1.2.1 _ (Nat.lt_of_lt_of_le (hO3.2.2.2.1 p hp) o1)
  · intro k hk ih μ2 j5 a1 a2 a3
    have hrk := o4 k hk
    obtain ⟨-, b2⟩ := key k μ2 a1 a2 a3
    have hcn := (hC.kept b2 (by omega) (by omega) (fun j => by omega) (fun j => by omega)).2.1
    have hr2 : μ2.1 7 k = nI (sRow S k) := (b2.1 _ _ (by omega)).trans (hS.1 k hk)
    have hz := fR_le (sRow S) s k
    refine R_iload (n := 19) dX3_lastHourOf_17 rfl rfl ?_
    refine R_aload_n (n := 20) dX3_lastHourOf_19 rfl rfl ?_
    refine ge_X3_45 (n := 23) dX3_lastHourOf_20 rfl (hcn) ?_
    refine R_icmp_ge_f (n := 26) dX3_lastHourOf_23 rfl rfl (by rw [nI_leI (by omega) (by omega)]; omega) ?_
    refine R_aload_n (n := 27) dX3_lastHourOf_26 rfl rfl ?_
    refine gf_X3_105 (n := 30) dX3_lastHourOf_27 rfl ?_
    refine gf_X3_51 (n := 33) stB_6 dX3_lastHourOf_30 rfl ?_
    refine R_iload (n := 35) dX3_lastHourOf_33 rfl rfl ?_
    refine R_iald_e (n := 36) stB_6.2.1 (rfl) (by omega) dX3_lastHourOf_35 rfl (hr2) ?_
    refine R_istore (n := 38) dX3_lastHourOf_36 rfl (Nat.le_of_ble_eq_true rfl) (Nat.le_of_ble_eq_true rfl) ?_
    refine R_iload_n (n := 39) dX3_lastHourOf_38 rfl rfl ?_
    refine R_iload (n := 41) dX3_lastHourOf_39 rfl rfl ?_
    refine R_ishr (n := 42) dX3_lastHourOf_41 rfl ?_
    refine R_iconst (v := nI 1) (n := 43) dX3_lastHourOf_42 rfl rfl ?_
    refine R_iand (n := 44) dX3_lastHourOf_43 rfl ?_
    rw [bit_at s hs _ (by omega)]
    refine R_iconst (v := nI 1) (n := 45) dX3_lastHourOf_44 rfl rfl ?_
    by_cases e : tb s (sRow S k) = 1
    · rw [e]
      refine R_icmp_ne_f (n := 48) dX3_lastHourOf_45 rfl rfl (rfl) ?_
      refine R_aload_n (n := 49) dX3_lastHourOf_48 rfl rfl ?_
      refine gf_X3_51 (n := 52) stB_12 dX3_lastHourOf_49 rfl ?_
      refine R_aload_n (n := 53) dX3_lastHourOf_52 rfl rfl ?_
      refine ge_X3_134 (n := 56) stB_12 dX3_lastHourOf_53 rfl (by first | exact a2 | (rw [sti_1_pf _ _ _ _ _ _ (by omega)]; exact a2) | (rw [sti_1_pf _ _ _ _ _ _ (by omega), sti_1_pf _ _ _ _ _ _ (by omega)]; exact a2) | (rw [sti_1_pf _ _ _ _ _ _ (by omega), sti_1_pf _ _ _ _ _ _ (by omega), sti_1_pf _ _ _ _ _ _ (by omega)]; exact a2) | (rw [sti_1_pf _ _ _ _ _ _ (by omega), sti_1_pf _ _ _ _ _ _ (by omega), sti_1_pf _ _ _ _ _ _ (by omega), sti_1_pf _ _ _ _ _ _ (by omega)]; exact a2) | (rw [sti_1_pf _ _ _ _ _ _ (by omega), sti_1_pf _ _ _ _ _ _ (by omega), sti_1_pf _ _ _ _ _ _ (by omega), sti_1_pf _ _ _ _ _ _ (by omega), sti_1_pf _ _ _ _ _ _ (by omega)]; exact a2)) ?_
      refine R_iload (n := 58) dX3_lastHourOf_56 rfl rfl ?_
      refine R_iast (n := 59) stB_12.2.1 (rfl) (by omega) dX3_lastHourOf_58 rfl ?_
      refine R_aload_n (n := 60) dX3_lastHourOf_59 rfl rfl ?_
      refine R_dup (n := 61) dX3_lastHourOf_60 rfl rfl ?_
      refine ge_X3_134 (n := 64) stB_12 dX3_lastHourOf_61 rfl (by first | exact a2 | (rw [sti_1_pf _ _ _ _ _ _ (by omega)]; exact a2) | (rw [sti_1_pf _ _ _ _ _ _ (by omega), sti_1_pf _ _ _ _ _ _ (by omega)]; exact a2) | (rw [sti_1_pf _ _ _ _ _ _ (by omega), sti_1_pf _ _ _ _ _ _ (by omega), sti_1_pf _ _ _ _ _ _ (by omega)]; exact a2) | (rw [sti_1_pf _ _ _ _ _ _ (by omega), sti_1_pf _ _ _ _ _ _ (by omega), sti_1_pf _ _ _ _ _ _ (by omega), sti_1_pf _ _ _ _ _ _ (by omega)]; exact a2) | (rw [sti_1_pf _ _ _ _ _ _ (by omega), sti_1_pf _ _ _ _ _ _ (by omega), sti_1_pf _ _ _ _ _ _ (by omega), sti_1_pf _ _ _ _ _ _ (by omega), sti_1_pf _ _ _ _ _ _ (by omega)]; exact a2)) ?_
      refine R_iconst (v := nI 1) (n := 65) dX3_lastHourOf_64 rfl rfl ?_
      refine R_iadd_n (n := 66) dX3_lastHourOf_65 rfl ?_
      refine pf_X3_134 (n := 69) stB_12 dX3_lastHourOf_66 rfl ?_
      refine R_iinc (n := 72) dX3_lastHourOf_69 rfl rfl (nI_1 _) (Nat.le_of_ble_eq_true rfl) ?_
      refine R_goto (tgt := 17) dX3_lastHourOf_72 rfl ?_
      refine ih _ _ (fun p hp => ?_) ?_ ((a3.sti (Or.inl rfl)).sti (Or.inr ⟨rfl, rfl⟩))
      · rw [fR, if_pos e] at hp ⊢
        rw [sti_1_ne _ _ _ (by omega), sti_1]
        show _ = nI (updN _ _ _ p)
        unfold updN
        by_cases e2 : p = (fR (sRow S) s k).1
        · rw [if_pos ⟨rfl, e2⟩, if_pos e2]
        · rw [if_neg (fun z => e2 z.2), if_neg e2]
          exact a1 p (by have : p < (fR (sRow S) s k).1 + 1 := hp; omega)
      · rw [fR, if_pos e, sti_1_eq]
    · have e0 : tb s (sRow S k) = 0 := by have := tb_le s (sRow S k); omega
      rw [e0]
      refine R_icmp_ne_t (tgt := 69) dX3_lastHourOf_45 rfl (by decide) ?_
      refine R_iinc (n := 72) dX3_lastHourOf_69 rfl rfl (nI_1 _) (Nat.le_of_ble_eq_true rfl) ?_
      refine R_goto (tgt := 17) dX3_lastHourOf_72 rfl ?_
      refine ih _ _ (fun p hp => ?_) ?_ a3
      · rw [fR, if_neg e] at hp ⊢
        exact a1 p hp
      · rw [fR, if_neg e]; exact a2
theorem ct_X3_shareAbove {v : Nat} (hQ : Qc μ C S) (hv : v < C.1) : Ct G l 6 yX3_shareAbove cX3_shareAbove 8 (some .int) [.ref (G.2.2.1 119), .ref (G.2.2.1 3), .int (nI v)] μ (fun r μ' => r = some (.int (shrL C S v (2 ^ C.1) 0 (nI 0))) ∧ Sme Ptr μ μ') := by
  have hn6 := hQ.2.2.1.1
  have h64 : ∀ n, n < 7 → 2 ^ n < 65 := by decide +kernel
  have h2n := h64 C.1 (by omega)
  refine Ct.of 5 (by decide +kernel) rfl (Nat.le_of_ble_eq_true rfl) ?_
  show V G l RX3 cX3_shareAbove 8 _ false _ _ 0 [some (.ref _), some (.ref _), some (.int _), none, none, none, none, none] [] _
  refine R_iconst (v := nI 0) (n := 1) dX3_shareAbove_0 rfl rfl ?_
  refine R_istore_n (n := 2) dX3_shareAbove_1 rfl (Nat.le_of_ble_eq_true rfl) (Nat.le_of_ble_eq_true rfl) ?_
  refine R_iconst (v := nI 1) (n := 3) dX3_shareAbove_2 rfl rfl ?_
  refine R_iload_n (n := 4) dX3_shareAbove_3 rfl rfl ?_
  refine R_ishl (n := 5) dX3_shareAbove_4 rfl ?_
  refine R_istore (n := 7) dX3_shareAbove_5 rfl (Nat.le_of_ble_eq_true rfl) (Nat.le_of_ble_eq_true rfl) ?_
  refine R_iconst (v := nI 0) (n := 8) dX3_shareAbove_7 rfl rfl ?_
  refine R_istore (n := 10) dX3_shareAbove_8 rfl (Nat.le_of_ble_eq_true rfl) (Nat.le_of_ble_eq_true rfl) ?_
  have loop : ∀ (f k : Nat) (acc : Int32) (μ1 : Mem) (j6 j7 : Option Value), k + f = 2 ^ C.1 → Sme Ptr μ μ1 → V G l RX3 cX3_shareAbove 8 6 false (some .int) (fun r μ' => r = some (.int (shrL C S v f k acc)) ∧ Sme Ptr μ μ') 10 [some (.ref (G.2.2.1 119)), some (.ref (G.2.2.1 3)), some (.int (nI v)), some (.int acc), some (.int (bt v)), some (.int (nI k)), j6, j7] [] μ1 := by
    intro f
    induction f with
    | zero =>
      intro k acc μ1 j6 j7 h1 h2
      have hcn := (h2.1 3 5 (by omega)).trans hQ.1.2.1
      refine R_iload (n := 12) dX3_shareAbove_10 rfl rfl ?_
      refine R_iconst (v := nI 1) (n := 13) dX3_shareAbove_12 rfl rfl ?_
      refine R_aload_n (n := 14) dX3_shareAbove_13 rfl rfl ?_
      refine ge_X3_45 (n := 17) dX3_shareAbove_14 rfl (hcn) ?_
      refine R_ishl (n := 18) dX3_shareAbove_17 rfl ?_
      rw [show nI 1 <<< (nI C.1 &&& 31) = nI (2 ^ C.1) from bt_pow _ (by omega)]
      refine R_icmp_ge_t (tgt := 88) dX3_shareAbove_18 rfl (by rw [nI_leI (by omega) (by omega)]; omega) ?_
      refine R_iload_n (n := 89) dX3_shareAbove_88 rfl rfl ?_
      refine R_iret dX3_shareAbove_89 rfl (rfl) (⟨rfl, h2⟩)
    | succ f ih =>
      intro k acc μ1 j6 j7 h1 h2
      have hQ1 := hQ.kept h2 (fun i j z1 z2 => by omega)
      have hcn := hQ1.1.2.1
      rw [shrL]
      refine R_iload (n := 12) dX3_shareAbove_10 rfl rfl ?_
      refine R_iconst (v := nI 1) (n := 13) dX3_shareAbove_12 rfl rfl ?_
      refine R_aload_n (n := 14) dX3_shareAbove_13 rfl rfl ?_
      refine ge_X3_45 (n := 17) dX3_shareAbove_14 rfl (hcn) ?_
      refine R_ishl (n := 18) dX3_shareAbove_17 rfl ?_
      rw [show nI 1 <<< (nI C.1 &&& 31) = nI (2 ^ C.1) from bt_pow _ (by omega)]
      refine R_icmp_ge_f (n := 21) dX3_shareAbove_18 rfl rfl (by rw [nI_leI (by omega) (by omega)]; omega) ?_
      refine R_iload (n := 23) dX3_shareAbove_21 rfl rfl ?_
      refine R_iload (n := 25) dX3_shareAbove_23 rfl rfl ?_
      refine R_iand (n := 26) dX3_shareAbove_25 rfl ?_
      rw [set_and k (by omega) v (by omega)]
      by_cases e : tb k v = 0
      · rw [if_pos e, e]
        have hb := bc_le C.1 (by omega) k (by omega) v hv e
        have ho := or_lt C.1 (by omega) k (by omega) v hv e
        refine R_if_ne_f (n := 29) dX3_shareAbove_26 rfl rfl (by rw [Nat.zero_mul]; rfl) ?_
        refine R_iload (n := 31) dX3_shareAbove_29 rfl rfl ?_
        refine iv_X3_122 (n := 34) (ct_J6_bitCount (by omega)) (by decide) dX3_shareAbove_31 rfl (Nat.le_of_ble_eq_true rfl) (fun r μ' hq => ?_)
        obtain ⟨rfl, hq⟩ := hq
        have hq := hq.symm
        subst hq
        refine R_istore (n := 36) dX3_shareAbove_34 rfl (Nat.le_of_ble_eq_true rfl) (Nat.le_of_ble_eq_true rfl) ?_
        refine R_getsN (n := 39) rfl dX3_shareAbove_36 rfl (fun fa hfa => ?_)
        refine R_iload (n := 41) dX3_shareAbove_39 rfl rfl ?_
        refine R_rld (n := 42) hfa (by decide) (rfl) (by omega) dX3_shareAbove_41 rfl ?_
        rw [fac_eq _ (by omega)]
        refine R_getsN (n := 45) rfl dX3_shareAbove_42 rfl (fun fa hfa => ?_)
        refine R_aload_n (n := 46) dX3_shareAbove_45 rfl rfl ?_
        refine ge_X3_45 (n := 49) dX3_shareAbove_46 rfl (hcn) ?_
        refine R_iconst (v := nI 1) (n := 50) dX3_shareAbove_49 rfl rfl ?_
        refine R_isub_n (n := 51) dX3_shareAbove_50 ((by omega)) rfl ?_
        refine R_iload (n := 53) dX3_shareAbove_51 rfl rfl ?_
        refine R_isub_n (n := 54) dX3_shareAbove_53 ((by omega)) rfl ?_
        refine R_rld (n := 55) hfa (by decide) (rfl) (by omega) dX3_shareAbove_54 rfl ?_
        rw [fac_eq _ (by omega)]
        refine R_imul (n := 56) dX3_shareAbove_55 rfl ?_
        refine R_istore (n := 58) dX3_shareAbove_56 rfl (Nat.le_of_ble_eq_true rfl) (Nat.le_of_ble_eq_true rfl) ?_
        refine R_iload_n (n := 59) dX3_shareAbove_58 rfl rfl ?_
        refine R_iload (n := 61) dX3_shareAbove_59 rfl rfl ?_
        refine R_aload_n (n := 62) dX3_shareAbove_61 rfl rfl ?_
        refine R_aload_n (n := 63) dX3_shareAbove_62 rfl rfl ?_
        refine R_iload (n := 65) dX3_shareAbove_63 rfl rfl ?_
        refine R_iload (n := 67) dX3_shareAbove_65 rfl rfl ?_
        refine R_ior (n := 68) dX3_shareAbove_67 rfl ?_
        rw [set_or k (by omega) v (by omega) e]
        refine iv_X3_127 (n := 71) (ct_X3_lastHourOf hQ1 ho) (by decide) dX3_shareAbove_68 rfl (Nat.le_of_ble_eq_true rfl) (fun r μ' hq => ?_)
        obtain ⟨rfl, l1⟩ := hq
        refine R_aload_n (n := 72) dX3_shareAbove_71 rfl rfl ?_
        refine R_aload_n (n := 73) dX3_shareAbove_72 rfl rfl ?_
        refine R_iload (n := 75) dX3_shareAbove_73 rfl rfl ?_
        refine iv_X3_127 (n := 78) (ct_X3_lastHourOf (hQ1.kept l1 (fun i j z1 z2 => by omega)) (by omega)) (by decide) dX3_shareAbove_75 rfl (Nat.le_of_ble_eq_true rfl) (fun r μ' hq => ?_)
        obtain ⟨rfl, l2⟩ := hq
        refine R_isub (n := 79) dX3_shareAbove_78 rfl ?_
        refine R_imul (n := 80) dX3_shareAbove_79 rfl ?_
        refine R_iadd (n := 81) dX3_shareAbove_80 rfl ?_
        refine R_istore_n (n := 82) dX3_shareAbove_81 rfl (Nat.le_of_ble_eq_true rfl) (Nat.le_of_ble_eq_true rfl) ?_
        refine R_iinc (n := 85) dX3_shareAbove_82 rfl rfl (nI_1 _) (Nat.le_of_ble_eq_true rfl) ?_
        refine R_goto (tgt := 10) dX3_shareAbove_85 rfl ?_
        exact ih (k + 1) _ _ _ _ (by omega) (h2.tr (l1.tr l2))
      · have e1 : tb k v = 1 := by have := tb_le k v; omega
        rw [if_neg e, e1]
        have H : ∀ v, v < 6 → ¬ nI (1 * 2 ^ v) = 0 := by decide +kernel
        refine R_if_ne_t (tgt := 82) dX3_shareAbove_26 rfl (H v (by omega)) ?_
        refine R_iinc (n := 85) dX3_shareAbove_82 rfl rfl (nI_1 _) (Nat.le_of_ble_eq_true rfl) ?_
        refine R_goto (tgt := 10) dX3_shareAbove_85 rfl ?_
        exact ih (k + 1) _ _ _ _ (by omega) h2
  exact loop (2 ^ C.1) 0 (nI 0) μ _ _ (by omega) (Sme.rf _ _)
end SH

