/-! numbers of 64 bits -/
theorem lN_div {a b : Nat} (ha : a < 2 ^ 63) (hb : b < 2 ^ 63) (e1 : (lN a).toInt = a) (e2 : (lN b).toInt = b) (e3 : (lN (a / b)).toInt = ((a / b : Nat) : Int)) : lN a / lN b = lN (a / b) := by
  apply Int64.toInt_inj.mp
  have h3 : a / b < 2 ^ 63 := Nat.lt_of_le_of_lt (Nat.div_le_self a b) ha
  rw [Int64.toInt_div, e1, e2, e3, ← Int.ofNat_tdiv]
  generalize a / b = q at h3 ⊢
  exact Int.bmod_eq_of_le (by omega) (by omega)
theorem zst_eq (z : Int64) : (let u := (z.toUInt64 >>> ((nI 33).toInt64.toUInt64 &&& Int64.toUInt64 63)).toInt64; (u - u / 64 * 64).toInt32) = nI (stZ z) := by
  have e33 : (nI 33).toInt64.toUInt64 &&& Int64.toUInt64 63 = 33 := by decide
  dsimp only
  rw [e33]
  have hu : (z.toUInt64 >>> 33).toNat < 2 ^ 31 := by
    rw [UInt64.toNat_shiftRight]
    have : z.toUInt64.toNat < 2 ^ 64 := UInt64.toNat_lt _
    show z.toUInt64.toNat >>> 33 < 2 ^ 31
    rw [Nat.shiftRight_eq_div_pow]
    omega
  unfold stZ
  generalize z.toUInt64 >>> 33 = u at hu ⊢
  have hl : u.toInt64 = lN u.toNat := by
    apply Int64.toBitVec_inj.mp
    show u.toBitVec = BitVec.ofNat 64 u.toNat
    exact (BitVec.ofNat_toNat 64 u.toBitVec).symm ▸ (by simp)
  generalize u.toNat = m at hu hl
  rw [hl, show (64 : Int64) = lN 64 from rfl, lN_div (by omega) (by omega) (lN_toInt hu) (lN_toInt (by omega)) (lN_toInt (by omega)), lN_mul, lN_sub (Nat.div_mul_le_self m 64), lN_i]
  congr 1
  omega
section PQ
variable {G : Gm} {l : Launch} {μ : Mem} {σ : GS}
theorem ct_X7_sum {id N k : Nat} (hs : sh id = .inr (.inl (0, N))) (hk : k ≤ N) (hN : N < 2 ^ 31) : Ct G l 1 yX7_sum cX7_sum 4 (some .int) [.ref (G.2.2.1 id), .int (nI k)] μ (fun r μ' => r = some (.int (sm (μ.1 id) k)) ∧ μ' = μ) := by
  refine Ct.of 2 (by decide +kernel) rfl (Nat.le_of_ble_eq_true rfl) ?_
  show V G l RX7 cX7_sum 4 _ false _ _ 0 [some (.ref _), some (.int _), none, none] [] _
  refine R_iconst (v := nI 0) (n := 1) dX7_sum_0 rfl rfl ?_
  refine R_istore_n (n := 2) dX7_sum_1 rfl (Nat.le_of_ble_eq_true rfl) (Nat.le_of_ble_eq_true rfl) ?_
  refine R_iconst (v := nI 0) (n := 3) dX7_sum_2 rfl rfl ?_
  refine R_istore_n (n := 4) dX7_sum_3 rfl (Nat.le_of_ble_eq_true rfl) (Nat.le_of_ble_eq_true rfl) ?_
  refine down (z := k) (P := fun j => V G l RX7 cX7_sum 4 1 false _ _ 4 [some (.ref _), some (.int (nI k)), some (.int (sm (μ.1 id) j)), some (.int (nI j))] [] _) ?_ ?_ 0 (Nat.zero_le _)
  · refine R_iload_n (n := 5) dX7_sum_4 rfl rfl ?_
    refine R_iload_n (n := 6) dX7_sum_5 rfl rfl ?_
    refine R_icmp_ge_t (tgt := 27) dX7_sum_6 rfl (by rw [nI_leI (by omega) (by omega)]; omega) ?_
    refine R_iload_n (n := 28) dX7_sum_27 rfl rfl ?_
    refine R_iret dX7_sum_28 rfl (rfl) (⟨rfl, rfl⟩)
  · intro j hj ih
    refine R_iload_n (n := 5) dX7_sum_4 rfl rfl ?_
    refine R_iload_n (n := 6) dX7_sum_5 rfl rfl ?_
    refine R_icmp_ge_f (n := 9) dX7_sum_6 rfl rfl (by rw [nI_leI (by omega) (by omega)]; omega) ?_
    refine R_iload_n (n := 10) dX7_sum_9 rfl rfl ?_
    refine R_aload_n (n := 11) dX7_sum_10 rfl rfl ?_
    refine R_alen (n := 12) hs dX7_sum_11 rfl ?_
    refine R_icmp_ge_f (n := 15) dX7_sum_12 rfl rfl (by rw [nI_leI (by omega) (by omega)]; omega) ?_
    refine R_iload_n (n := 16) dX7_sum_15 rfl rfl ?_
    refine R_aload_n (n := 17) dX7_sum_16 rfl rfl ?_
    refine R_iload_n (n := 18) dX7_sum_17 rfl rfl ?_
    refine R_iald (n := 19) hs (rfl) (by omega) dX7_sum_18 rfl ?_
    refine R_iadd (n := 20) dX7_sum_19 rfl ?_
    refine R_istore_n (n := 21) dX7_sum_20 rfl (Nat.le_of_ble_eq_true rfl) (Nat.le_of_ble_eq_true rfl) ?_
    refine R_iinc (n := 24) dX7_sum_21 rfl rfl (nI_1 _) (Nat.le_of_ble_eq_true rfl) ?_
    refine R_goto (tgt := 4) dX7_sum_24 rfl ?_
    exact ih
theorem ct_X7_refusalOfTwo (h : CI μ σ) (hn : (gC σ).1 < 2 ^ 31) (x y : Int32) : Ct G l 2 yX7_refusalOfTwo cX7_refusalOfTwo 3 (some .int) [.ref (G.2.2.1 0), .int x, .int y] μ (fun r μ' => r = some (.int (ref2 σ x y)) ∧ μ' = μ) := by
  refine Ct.of 0 (by decide +kernel) rfl (Nat.le_of_ble_eq_true rfl) ?_
  show V G l RX7 cX7_refusalOfTwo 3 _ false _ _ 0 [some (.ref _), some (.int _), some (.int _)] [] _
  refine R_aload_n (n := 1) dX7_refusalOfTwo_0 rfl rfl ?_
  refine gf_X7_19 (n := 4) dX7_refusalOfTwo_1 rfl ?_
  refine R_iload_n (n := 5) dX7_refusalOfTwo_4 rfl rfl ?_
  refine iv_X7_77 (n := 8) (ct_X1_hasBarge x h.2.1.2.1) (by decide) dX7_refusalOfTwo_5 rfl (Nat.le_of_ble_eq_true rfl) (fun r μ' hq => ?_)
  obtain ⟨rfl, hq⟩ := hq
  have hq := hq.symm
  subst hq
  cases hx : inR x (gC σ).1 with
  | false =>
    refine R_if_eq_t (tgt := 22) dX7_refusalOfTwo_8 rfl (by decide) ?_
    refine R_iconst (v := -1) (n := 23) dX7_refusalOfTwo_22 rfl rfl ?_
    refine R_iret dX7_refusalOfTwo_23 rfl (rfl) (⟨by rw [ref2, hx]; rfl, rfl⟩)
  | true =>
    refine R_if_eq_f (n := 11) dX7_refusalOfTwo_8 rfl rfl (by decide) ?_
    refine R_aload_n (n := 12) dX7_refusalOfTwo_11 rfl rfl ?_
    refine gf_X7_19 (n := 15) dX7_refusalOfTwo_12 rfl ?_
    refine R_iload_n (n := 16) dX7_refusalOfTwo_15 rfl rfl ?_
    refine iv_X7_77 (n := 19) (ct_X1_hasBarge y h.2.1.2.1) (by decide) dX7_refusalOfTwo_16 rfl (Nat.le_of_ble_eq_true rfl) (fun r μ' hq => ?_)
    obtain ⟨rfl, hq⟩ := hq
    have hq := hq.symm
    subst hq
    cases hy : inR y (gC σ).1 with
    | false =>
      refine R_if_ne_f (n := 22) dX7_refusalOfTwo_19 rfl rfl (by decide) ?_
      refine R_iconst (v := -1) (n := 23) dX7_refusalOfTwo_22 rfl rfl ?_
      refine R_iret dX7_refusalOfTwo_23 rfl (rfl) (⟨by rw [ref2, hx, hy]; rfl, rfl⟩)
    | true =>
      refine R_if_ne_t (tgt := 24) dX7_refusalOfTwo_19 rfl (by decide) ?_
      refine R_iload_n (n := 25) dX7_refusalOfTwo_24 rfl rfl ?_
      refine R_iload_n (n := 26) dX7_refusalOfTwo_25 rfl rfl ?_
      refine R_icmp_ne (n := 29) (tgt := 34) dX7_refusalOfTwo_26 rfl rfl (fun e => ?_) (fun e => ?_)
      · refine R_iconst (v := nI 0) (n := 35) dX7_refusalOfTwo_34 rfl rfl ?_
        refine R_iret dX7_refusalOfTwo_35 rfl (rfl) (⟨by rw [ref2, hx, hy, if_neg e]; rfl, rfl⟩)
      · refine R_bipush (v := -2) (n := 31) dX7_refusalOfTwo_29 rfl rfl ?_
        refine R_goto (tgt := 35) dX7_refusalOfTwo_31 rfl ?_
        refine R_iret dX7_refusalOfTwo_35 rfl (rfl) (⟨by rw [ref2, hx, hy, if_pos e]; rfl, rfl⟩)
theorem ct_X7_greatestDivisor (a b : Int32) : Ct G l 1 yX7_greatestDivisor cX7_greatestDivisor 6 (some .int) [.int a, .int b] μ (fun r μ' => r = some (.int (eucL 100 a b)) ∧ μ' = μ) := by
  refine Ct.of 4 (by decide +kernel) rfl (Nat.le_of_ble_eq_true rfl) ?_
  show V G l RX7 cX7_greatestDivisor 6 _ false _ _ 0 [some (.int _), some (.int _), none, none, none, none] [] _
  refine R_iload_n (n := 1) dX7_greatestDivisor_0 rfl rfl ?_
  refine R_istore_n (n := 2) dX7_greatestDivisor_1 rfl (Nat.le_of_ble_eq_true rfl) (Nat.le_of_ble_eq_true rfl) ?_
  refine R_iload_n (n := 3) dX7_greatestDivisor_2 rfl rfl ?_
  refine R_istore_n (n := 4) dX7_greatestDivisor_3 rfl (Nat.le_of_ble_eq_true rfl) (Nat.le_of_ble_eq_true rfl) ?_
  refine R_iconst (v := nI 0) (n := 5) dX7_greatestDivisor_4 rfl rfl ?_
  refine R_istore (n := 7) dX7_greatestDivisor_5 rfl (Nat.le_of_ble_eq_true rfl) (Nat.le_of_ble_eq_true rfl) ?_
  have loop : ∀ (f p : Nat) (x y : Int32) (j5 : Option Value), p + f = 100 → V G l RX7 cX7_greatestDivisor 6 1 false (some .int) (fun r μ' => r = some (.int (eucL f x y)) ∧ μ' = μ) 7 [some (.int a), some (.int b), some (.int x), some (.int y), some (.int (nI p)), j5] [] μ := by
    intro f
    induction f with
    | zero =>
      intro p x y j5 hp
      refine R_iload (n := 9) dX7_greatestDivisor_7 rfl rfl ?_
      refine R_bipush (v := nI 100) (n := 11) dX7_greatestDivisor_9 rfl rfl ?_
      refine R_icmp_ge_t (tgt := 34) dX7_greatestDivisor_11 rfl (by rw [nI_leI (by omega) (by omega)]; omega) ?_
      refine R_iload_n (n := 35) dX7_greatestDivisor_34 rfl rfl ?_
      refine R_iret dX7_greatestDivisor_35 rfl (rfl) (⟨rfl, rfl⟩)
    | succ f ih =>
      intro p x y j5 hp
      rw [eucL]
      refine R_iload (n := 9) dX7_greatestDivisor_7 rfl rfl ?_
      refine R_bipush (v := nI 100) (n := 11) dX7_greatestDivisor_9 rfl rfl ?_
      refine R_icmp_ge_f (n := 14) dX7_greatestDivisor_11 rfl rfl (by rw [nI_leI (by omega) (by omega)]; omega) ?_
      refine R_iload_n (n := 15) dX7_greatestDivisor_14 rfl rfl ?_
      by_cases hy : y = 0
      · rw [if_pos hy]
        refine R_if_eq_t (tgt := 34) dX7_greatestDivisor_15 rfl (hy) ?_
        refine R_iload_n (n := 35) dX7_greatestDivisor_34 rfl rfl ?_
        refine R_iret dX7_greatestDivisor_35 rfl (rfl) (⟨rfl, rfl⟩)
      · rw [if_neg hy]
        refine R_if_eq_f (n := 18) dX7_greatestDivisor_15 rfl rfl (hy) ?_
        refine R_iload_n (n := 19) dX7_greatestDivisor_18 rfl rfl ?_
        refine R_iload_n (n := 20) dX7_greatestDivisor_19 rfl rfl ?_
        refine R_irem (n := 21) dX7_greatestDivisor_20 (hy) rfl ?_
        refine R_istore (n := 23) dX7_greatestDivisor_21 rfl (Nat.le_of_ble_eq_true rfl) (Nat.le_of_ble_eq_true rfl) ?_
        refine R_iload_n (n := 24) dX7_greatestDivisor_23 rfl rfl ?_
        refine R_istore_n (n := 25) dX7_greatestDivisor_24 rfl (Nat.le_of_ble_eq_true rfl) (Nat.le_of_ble_eq_true rfl) ?_
        refine R_iload (n := 27) dX7_greatestDivisor_25 rfl rfl ?_
        refine R_istore_n (n := 28) dX7_greatestDivisor_27 rfl (Nat.le_of_ble_eq_true rfl) (Nat.le_of_ble_eq_true rfl) ?_
        refine R_iinc (n := 31) dX7_greatestDivisor_28 rfl rfl (nI_1 _) (Nat.le_of_ble_eq_true rfl) ?_
        refine R_goto (tgt := 7) dX7_greatestDivisor_31 rfl ?_
        exact ih (p + 1) _ _ _ (by omega)
  exact loop 100 0 a b _ rfl
theorem ct_X7_tellFraction (a b : Int32) (up : Bool) : Ct G l 2 yX7_tellFraction cX7_tellFraction 5 (some .int) [.int a, .int b, .int (bi up)] μ (fun r μ' => r = some (.int (tfF a b up)) ∧ μ' = μ) := by
  refine Ct.of 2 (by decide +kernel) rfl (Nat.le_of_ble_eq_true rfl) ?_
  show V G l RX7 cX7_tellFraction 5 _ false _ _ 0 [some (.int _), some (.int _), some (.int _), none, none] [] _
  refine R_iload_n (n := 1) dX7_tellFraction_0 rfl rfl ?_
  refine R_abs (n := 4) tM_RX7_260 tT_ab tN_RJ9 tC_ab (by decide) (Nat.le_of_ble_eq_true rfl) dX7_tellFraction_1 rfl ?_
  refine R_iload_n (n := 5) dX7_tellFraction_4 rfl rfl ?_
  refine iv_X7_265 (n := 8) (ct_X7_greatestDivisor _ _) (by decide) dX7_tellFraction_5 rfl (Nat.le_of_ble_eq_true rfl) (fun r μ' hq => ?_)
  obtain ⟨rfl, hq⟩ := hq
  have hq := hq.symm
  subst hq
  refine R_istore_n (n := 9) dX7_tellFraction_8 rfl (Nat.le_of_ble_eq_true rfl) (Nat.le_of_ble_eq_true rfl) ?_
  refine R_iload_n (n := 10) dX7_tellFraction_9 rfl rfl ?_
  generalize hd : eucL 100 (if 0 ≤ a then a else 0 - a) b = d
  have tail : ∀ t : Int32, t = (if up then a else b) → V G l RX7 cX7_tellFraction 5 2 false (some .int) (fun r μ' => r = some (.int (tfF a b up)) ∧ μ' = μ) 20 [some (.int a), some (.int b), some (.int (bi up)), some (.int d), some (.int t)] [] μ := by
    intro t ht
    refine R_iload_n (n := 21) dX7_tellFraction_20 rfl rfl ?_
    refine R_iconst (v := nI 1) (n := 22) dX7_tellFraction_21 rfl rfl ?_
    refine R_icmp_le (n := 25) (tgt := 32) dX7_tellFraction_22 rfl rfl (fun h1 => ?_) (fun h1 => ?_)
    · refine R_iload (n := 34) dX7_tellFraction_32 rfl rfl ?_
      refine R_iret dX7_tellFraction_34 rfl (rfl) (⟨by rw [tfF, hd, if_neg (Int32.not_lt.mpr h1), ht], rfl⟩)
    · have h2 := Int32.not_le.mp h1
      refine R_iload (n := 27) dX7_tellFraction_25 rfl rfl ?_
      refine R_iload_n (n := 28) dX7_tellFraction_27 rfl rfl ?_
      refine R_idiv (n := 29) dX7_tellFraction_28 ((fun z => absurd h2 (by rw [z]; decide))) rfl ?_
      refine R_goto (tgt := 34) dX7_tellFraction_29 rfl ?_
      refine R_iret dX7_tellFraction_34 rfl (rfl) (⟨by rw [tfF, hd, if_pos h2, ht], rfl⟩)
  cases up with
  | true =>
    refine R_if_eq_f (n := 13) dX7_tellFraction_10 rfl rfl (by decide) ?_
    refine R_iload_n (n := 14) dX7_tellFraction_13 rfl rfl ?_
    refine R_goto (tgt := 18) dX7_tellFraction_14 rfl ?_
    refine R_istore (n := 20) dX7_tellFraction_18 rfl (Nat.le_of_ble_eq_true rfl) (Nat.le_of_ble_eq_true rfl) ?_
    exact tail a rfl
  | false =>
    refine R_if_eq_t (tgt := 17) dX7_tellFraction_10 rfl (by decide) ?_
    refine R_iload_n (n := 18) dX7_tellFraction_17 rfl rfl ?_
    refine R_istore (n := 20) dX7_tellFraction_18 rfl (Nat.le_of_ble_eq_true rfl) (Nat.le_of_ble_eq_true rfl) ?_
    exact tail b rfl
theorem ct_X7_barge (h : CI μ σ) (w : WF σ) (x y : Int32) : Ct G l 2 yX7_barge cX7_barge 3 (some .int) [.ref (G.2.2.1 0), .int x, .int y] μ (fun r μ' => r = some (.int (aBarge σ x y)) ∧ Sme Qry μ μ') := by
  obtain ⟨o1, o2, o3, o4, o5, o6⟩ := id w.1.1
  have hC := h.2.1
  have hS := h.2.2.1
  refine Ct.of 0 (by decide +kernel) rfl (Nat.le_of_ble_eq_true rfl) ?_
  show V G l RX7 cX7_barge 3 _ false _ _ 0 [some (.ref _), some (.int _), some (.int _)] [] _
  refine R_aload_n (n := 1) dX7_barge_0 rfl rfl ?_
  refine gf_X7_19 (n := 4) dX7_barge_1 rfl ?_
  refine R_iload_n (n := 5) dX7_barge_4 rfl rfl ?_
  refine iv_X7_77 (n := 8) (ct_X1_hasBarge x h.2.1.2.1) (by decide) dX7_barge_5 rfl (Nat.le_of_ble_eq_true rfl) (fun r μ' hq => ?_)
  obtain ⟨rfl, hq⟩ := hq
  have hq := hq.symm
  subst hq
  cases hx : inR x (gC σ).1 with
  | false =>
    refine R_if_ne_f (n := 11) dX7_barge_8 rfl rfl (by decide) ?_
    refine R_iconst (v := -1) (n := 12) dX7_barge_11 rfl rfl ?_
    refine R_iret dX7_barge_12 rfl (rfl) (⟨by rw [aBarge, hx]; rfl, Sme.rf _ _⟩)
  | true =>
    obtain ⟨hxl, hxe⟩ := inR_cl (by omega) hx
    rw [aBarge, hx, if_pos rfl]
    clear hx
    generalize x.toNatClampNeg = j at *
    subst hxe
    refine R_if_ne_t (tgt := 13) dX7_barge_8 rfl (by decide) ?_
    refine R_iload_n (n := 14) dX7_barge_13 rfl rfl ?_
    by_cases e0 : y = nI 0
    · rw [if_pos e0, e0]
      refine R_tableIn (off := 34) (tgt := 48) dX7_barge_14 (by decide) (by decide) (by decide) rfl ?_
      refine R_aload_n (n := 49) dX7_barge_48 rfl rfl ?_
      refine gf_X7_19 (n := 52) dX7_barge_49 rfl ?_
      refine gf_X7_81 (n := 55) dX7_barge_52 rfl ?_
      refine R_iload_n (n := 56) dX7_barge_55 rfl rfl ?_
      refine R_iald (n := 57) sh_4 (rfl) (by omega) dX7_barge_56 rfl ?_
      refine R_iret dX7_barge_57 rfl rfl ⟨congrArg (fun z => some (Value.int z)) (hC.2.2.1 _ hxl), Sme.rf _ _⟩
    rw [if_neg e0]
    by_cases e1 : y = nI 1
    · rw [if_pos e1, e1]
      refine R_tableIn (off := 44) (tgt := 58) dX7_barge_14 (by decide) (by decide) (by decide) rfl ?_
      refine R_aload_n (n := 59) dX7_barge_58 rfl rfl ?_
      refine gf_X7_19 (n := 62) dX7_barge_59 rfl ?_
      refine gf_X7_85 (n := 65) dX7_barge_62 rfl ?_
      refine R_iload_n (n := 66) dX7_barge_65 rfl rfl ?_
      refine R_iald (n := 67) sh_5 (rfl) (by omega) dX7_barge_66 rfl ?_
      refine R_iret dX7_barge_67 rfl rfl ⟨congrArg (fun z => some (Value.int z)) (hC.2.2.2 _ hxl), Sme.rf _ _⟩
    rw [if_neg e1]
    by_cases e2 : y = nI 2
    · rw [if_pos e2, e2]
      refine R_tableIn (off := 54) (tgt := 68) dX7_barge_14 (by decide) (by decide) (by decide) rfl ?_
      refine R_aload_n (n := 69) dX7_barge_68 rfl rfl ?_
      refine gf_X7_19 (n := 72) dX7_barge_69 rfl ?_
      refine gf_X7_88 (n := 75) dX7_barge_72 rfl ?_
      refine gf_X7_92 (n := 78) stB_6 dX7_barge_75 rfl ?_
      refine R_iload_n (n := 79) dX7_barge_78 rfl rfl ?_
      refine R_iald (n := 80) stB_6.2.2.2.1 (rfl) (by omega) dX7_barge_79 rfl ?_
      refine R_iret dX7_barge_80 rfl rfl ⟨congrArg (fun z => some (Value.int z)) (hS.2.2.1 _ hxl), Sme.rf _ _⟩
    rw [if_neg e2]
    by_cases e3 : y = nI 3
    · rw [if_pos e3, e3]
      refine R_tableIn (off := 67) (tgt := 81) dX7_barge_14 (by decide) (by decide) (by decide) rfl ?_
      obtain ⟨p1, p2, p3⟩ := pos_spec w.1.2.1 hxl
      refine R_aload_n (n := 82) dX7_barge_81 rfl rfl ?_
      refine gf_X7_19 (n := 85) dX7_barge_82 rfl ?_
      refine gf_X7_88 (n := 88) dX7_barge_85 rfl ?_
      refine R_iload_n (n := 89) dX7_barge_88 rfl rfl ?_
      refine iv_X7_97 (n := 92) (ct_X5_placeOf stB_6 o1 hS.2.2.2.2.2.1 hS.1 (fun p hp => Nat.lt_of_lt_of_le (o4 p hp) o1) (by omega) p1 p2 p3) stB_6 (by decide) dX7_barge_89 rfl (Nat.le_of_ble_eq_true rfl) (fun r μ' hq => ?_)
      obtain ⟨rfl, hq⟩ := hq
      have hq := hq.symm
      subst hq
      refine R_iret dX7_barge_92 rfl (rfl) (⟨rfl, Sme.rf _ _⟩)
    rw [if_neg e3]
    by_cases e4 : y = nI 4
    · rw [if_pos e4, e4]
      refine R_tableIn (off := 79) (tgt := 93) dX7_barge_14 (by decide) (by decide) (by decide) rfl ?_
      refine R_aload_n (n := 94) dX7_barge_93 rfl rfl ?_
      refine gf_X7_19 (n := 97) dX7_barge_94 rfl ?_
      refine gf_X7_88 (n := 100) dX7_barge_97 rfl ?_
      refine gf_X7_101 (n := 103) stB_6 dX7_barge_100 rfl ?_
      refine R_iload_n (n := 104) dX7_barge_103 rfl rfl ?_
      refine R_iald (n := 105) stB_6.2.2.1 (rfl) (by omega) dX7_barge_104 rfl ?_
      refine R_iret dX7_barge_105 rfl rfl ⟨congrArg (fun z => some (Value.int z)) (hS.2.1 _ (by omega)), Sme.rf _ _⟩
    rw [if_neg e4]
    refine R_tableOut (tgt := 106) dX7_barge_14 (tbl_out (n := 4) (by omega) (fun k hk z => by rcases (show k = 0 ∨ k = 1 ∨ k = 2 ∨ k = 3 ∨ k = 4 by omega) with q | q | q | q | q <;> subst q <;> contradiction)) rfl ?_
    refine R_bipush (v := -2) (n := 108) dX7_barge_106 rfl rfl ?_
    refine R_iret dX7_barge_108 rfl (rfl) (⟨rfl, Sme.rf _ _⟩)
theorem ct_X7_lock (h : CI μ σ) (w : WF σ) (x y : Int32) : Ct G l 3 yX7_lock cX7_lock 3 (some .int) [.ref (G.2.2.1 0), .int x, .int y] μ (fun r μ' => r = some (.int (aLock σ x y)) ∧ Sme Qry μ μ') := by
  obtain ⟨o1, o2, o3, o4, o5, o6⟩ := id w.1.1
  have hC := h.2.1
  have hS := h.2.2.1
  refine Ct.of 0 (by decide +kernel) rfl (Nat.le_of_ble_eq_true rfl) ?_
  show V G l RX7 cX7_lock 3 _ false _ _ 0 [some (.ref _), some (.int _), some (.int _)] [] _
  refine R_aload_n (n := 1) dX7_lock_0 rfl rfl ?_
  refine gf_X7_19 (n := 4) dX7_lock_1 rfl ?_
  refine R_iload_n (n := 5) dX7_lock_4 rfl rfl ?_
  refine iv_X7_104 (n := 8) (ct_X1_hasLock x hC.1) (by decide) dX7_lock_5 rfl (Nat.le_of_ble_eq_true rfl) (fun r μ' hq => ?_)
  obtain ⟨rfl, hq⟩ := hq
  have hq := hq.symm
  subst hq
  cases hx : inR x (gC σ).2.1 with
  | false =>
    refine R_if_ne_f (n := 11) dX7_lock_8 rfl rfl (by decide) ?_
    refine R_iconst (v := -1) (n := 12) dX7_lock_11 rfl rfl ?_
    refine R_iret dX7_lock_12 rfl (rfl) (⟨by rw [aLock, hx]; rfl, Sme.rf _ _⟩)
  | true =>
    obtain ⟨hxl, hxe⟩ := inR_cl (by omega) hx
    rw [aLock, hx, if_pos rfl]
    clear hx
    generalize x.toNatClampNeg = j at *
    subst hxe
    refine R_if_ne_t (tgt := 13) dX7_lock_8 rfl (by decide) ?_
    refine R_iload_n (n := 14) dX7_lock_13 rfl rfl ?_
    by_cases e0 : y = nI 0
    · rw [if_pos e0, e0]
      refine R_tableIn (off := 26) (tgt := 40) dX7_lock_14 (by decide) (by decide) (by decide) rfl ?_
      refine R_aload_n (n := 41) dX7_lock_40 rfl rfl ?_
      refine gf_X7_19 (n := 44) dX7_lock_41 rfl ?_
      refine gf_X7_88 (n := 47) dX7_lock_44 rfl ?_
      refine gf_X7_107 (n := 50) stB_6 dX7_lock_47 rfl ?_
      refine R_iload_n (n := 51) dX7_lock_50 rfl rfl ?_
      refine R_iald (n := 52) stB_6.2.2.2.2.1 (rfl) (by omega) dX7_lock_51 rfl ?_
      refine R_iret dX7_lock_52 rfl rfl ⟨congrArg (fun z => some (Value.int z)) (hS.2.2.2.1 _ hxl), Sme.rf _ _⟩
    rw [if_neg e0]
    by_cases e1 : y = nI 1
    · rw [if_pos e1, e1]
      refine R_tableIn (off := 39) (tgt := 53) dX7_lock_14 (by decide) (by decide) (by decide) rfl ?_
      refine R_aload_n (n := 54) dX7_lock_53 rfl rfl ?_
      refine gf_X7_19 (n := 57) dX7_lock_54 rfl ?_
      refine R_iload_n (n := 58) dX7_lock_57 rfl rfl ?_
      refine iv_X7_110 (n := 61) (ct_X1_isPassed (by omega) (by omega) hS.2.2.2.2.2.2) (by decide) dX7_lock_58 rfl (Nat.le_of_ble_eq_true rfl) (fun r μ' hq => ?_)
      obtain ⟨rfl, hq⟩ := hq
      have hq := hq.symm
      subst hq
      by_cases e : j < sPsd (gS σ)
      · rw [decide_eq_true e]
        refine R_if_eq_f (n := 64) dX7_lock_61 rfl rfl (by decide) ?_
        refine R_iconst (v := nI 1) (n := 65) dX7_lock_64 rfl rfl ?_
        refine R_goto (tgt := 69) dX7_lock_65 rfl ?_
        refine R_iret dX7_lock_69 rfl (rfl) (⟨rfl, Sme.rf _ _⟩)
      · rw [decide_eq_false e]
        refine R_if_eq_t (tgt := 68) dX7_lock_61 rfl (by decide) ?_
        refine R_iconst (v := nI 0) (n := 69) dX7_lock_68 rfl rfl ?_
        refine R_iret dX7_lock_69 rfl (rfl) (⟨rfl, Sme.rf _ _⟩)
    rw [if_neg e1]
    by_cases e2 : y = nI 2
    · rw [if_pos e2, e2]
      refine R_tableIn (off := 56) (tgt := 70) dX7_lock_14 (by decide) (by decide) (by decide) rfl ?_
      refine R_aload_n (n := 71) dX7_lock_70 rfl rfl ?_
      refine gf_X7_19 (n := 74) dX7_lock_71 rfl ?_
      refine gf_X7_88 (n := 77) dX7_lock_74 rfl ?_
      refine R_iload_n (n := 78) dX7_lock_77 rfl rfl ?_
      refine iv_X7_113 (n := 81) (ct_X5_loadsAt stB_6 (by omega)) stB_6 (by decide) dX7_lock_78 rfl (Nat.le_of_ble_eq_true rfl) (fun r μ' hq => ?_)
      obtain ⟨rfl, hq⟩ := hq
      have hq := hq.symm
      subst hq
      refine R_iret dX7_lock_81 rfl (rfl) (⟨congrArg (fun z => some (Value.int z)) (sm_congr (fun i hi => hS.2.2.2.2.1 _ (by omega))), Sme.rf _ _⟩)
    rw [if_neg e2]
    refine R_tableOut (tgt := 82) dX7_lock_14 (tbl_out (n := 2) (by omega) (fun k hk z => by rcases (show k = 0 ∨ k = 1 ∨ k = 2 by omega) with q | q | q <;> subst q <;> contradiction)) rfl ?_
    refine R_bipush (v := -2) (n := 84) dX7_lock_82 rfl rfl ?_
    refine R_iret dX7_lock_84 rfl (rfl) (⟨rfl, Sme.rf _ _⟩)
theorem ct_X7_basin (h : CI μ σ) (w : WF σ) : Ct G l 6 yX7_basin cX7_basin 1 (some .int) [.ref (G.2.2.1 0)] μ (fun r μ' => r = some (.int (aBasin σ)) ∧ Sme Qry μ μ') := by
  refine Ct.of 0 (by decide +kernel) rfl (Nat.le_of_ble_eq_true rfl) ?_
  show V G l RX7 cX7_basin 1 _ false _ _ 0 [some (.ref _)] [] _
  refine R_aload_n (n := 1) dX7_basin_0 rfl rfl ?_
  refine gf_X7_19 (n := 4) dX7_basin_1 rfl ?_
  refine iv_X7_146 (n := 7) (ct_X1_atBasin h.2.1 h.2.2.1 w.1.1) (by decide) dX7_basin_4 rfl (Nat.le_of_ble_eq_true rfl) (fun r μ' hq => ?_)
  obtain ⟨rfl, b1, b2⟩ := hq
  refine iv_X7_126 (n := 10) (ct_X5_figures stB_12 w.1.1.1 b1.2.2.2.2.2.1 b1.1) stB_12 (by decide) dX7_basin_7 rfl (Nat.le_of_ble_eq_true rfl) (fun r μ' hq => ?_)
  obtain ⟨rfl, hq⟩ := hq
  have hq := hq.symm
  subst hq
  refine R_iret dX7_basin_10 rfl (rfl) (⟨rfl, b2.mono (fun i j z => Or.inl z)⟩)
theorem ct_X7_hour (h : CI μ σ) (w : WF σ) (x : Int32) : Ct G l 6 yX7_hour cX7_hour 2 (some .int) [.ref (G.2.2.1 0), .int x] μ (fun r μ' => r = some (.int (aHour σ x)) ∧ Sme Qry μ μ') := by
  have o1 := w.1.1.1
  refine Ct.of 0 (by decide +kernel) rfl (Nat.le_of_ble_eq_true rfl) ?_
  show V G l RX7 cX7_hour 2 _ false _ _ 0 [some (.ref _), some (.int _)] [] _
  refine R_aload_n (n := 1) dX7_hour_0 rfl rfl ?_
  refine gf_X7_19 (n := 4) dX7_hour_1 rfl ?_
  refine R_iload_n (n := 5) dX7_hour_4 rfl rfl ?_
  refine iv_X7_77 (n := 8) (ct_X1_hasBarge x h.2.1.2.1) (by decide) dX7_hour_5 rfl (Nat.le_of_ble_eq_true rfl) (fun r μ' hq => ?_)
  obtain ⟨rfl, hq⟩ := hq
  have hq := hq.symm
  subst hq
  cases hx : inR x (gC σ).1 with
  | false =>
    refine R_if_eq_t (tgt := 26) dX7_hour_8 rfl (by decide) ?_
    refine R_iconst (v := -1) (n := 27) dX7_hour_26 rfl rfl ?_
    refine R_iret dX7_hour_27 rfl (rfl) (⟨by rw [aHour, hx]; rfl, Sme.rf _ _⟩)
  | true =>
    obtain ⟨hxl, hxe⟩ := inR_cl (by omega) hx
    rw [aHour, hx, if_pos rfl]
    clear hx
    generalize x.toNatClampNeg = j at *
    subst hxe
    refine R_if_eq_f (n := 11) dX7_hour_8 rfl rfl (by decide) ?_
    refine R_aload_n (n := 12) dX7_hour_11 rfl rfl ?_
    refine gf_X7_19 (n := 15) dX7_hour_12 rfl ?_
    refine iv_X7_146 (n := 18) (ct_X1_atBasin h.2.1 h.2.2.1 w.1.1) (by decide) dX7_hour_15 rfl (Nat.le_of_ble_eq_true rfl) (fun r μ' hq => ?_)
    obtain ⟨rfl, b1, b2⟩ := hq
    refine gf_X7_101 (n := 21) stB_12 dX7_hour_18 rfl ?_
    refine R_iload_n (n := 22) dX7_hour_21 rfl rfl ?_
    refine R_iald (n := 23) stB_12.2.2.1 (rfl) (by omega) dX7_hour_22 rfl ?_
    refine R_goto (tgt := 27) dX7_hour_23 rfl ?_
    refine R_iret dX7_hour_27 rfl rfl ⟨congrArg (fun z => some (Value.int z)) (b1.2.1 _ (by omega)), b2.mono (fun i j z => Or.inl z)⟩
theorem ct_X7_gains (h : CI μ σ) (w : WF σ) (x : Int32) : Ct G l 5 yX7_gains cX7_gains 2 (some .int) [.ref (G.2.2.1 0), .int x] μ (fun r μ' => r = some (.int (aGains σ x)) ∧ Sme Qry μ μ') := by
  have o1 := w.1.1.1
  refine Ct.of 0 (by decide +kernel) rfl (Nat.le_of_ble_eq_true rfl) ?_
  show V G l RX7 cX7_gains 2 _ false _ _ 0 [some (.ref _), some (.int _)] [] _
  refine R_aload_n (n := 1) dX7_gains_0 rfl rfl ?_
  refine gf_X7_19 (n := 4) dX7_gains_1 rfl ?_
  refine R_iload_n (n := 5) dX7_gains_4 rfl rfl ?_
  refine iv_X7_77 (n := 8) (ct_X1_hasBarge x h.2.1.2.1) (by decide) dX7_gains_5 rfl (Nat.le_of_ble_eq_true rfl) (fun r μ' hq => ?_)
  obtain ⟨rfl, hq⟩ := hq
  have hq := hq.symm
  subst hq
  cases hx : inR x (gC σ).1 with
  | false =>
    refine R_if_eq_t (tgt := 26) dX7_gains_8 rfl (by decide) ?_
    refine R_iconst (v := -1) (n := 27) dX7_gains_26 rfl rfl ?_
    refine R_iret dX7_gains_27 rfl (rfl) (⟨by rw [aGains, hx]; rfl, Sme.rf _ _⟩)
  | true =>
    obtain ⟨hxl, hxe⟩ := inR_cl (by omega) hx
    rw [aGains, hx, if_pos rfl]
    clear hx
    generalize x.toNatClampNeg = j at *
    subst hxe
    refine R_if_eq_f (n := 11) dX7_gains_8 rfl rfl (by decide) ?_
    refine R_aload_n (n := 12) dX7_gains_11 rfl rfl ?_
    refine gf_X7_40 (n := 15) dX7_gains_12 rfl ?_
    refine R_aload_n (n := 16) dX7_gains_15 rfl rfl ?_
    refine gf_X7_19 (n := 19) dX7_gains_16 rfl ?_
    refine R_iload_n (n := 20) dX7_gains_19 rfl rfl ?_
    refine iv_X7_150 (n := 23) (ct_X3_gainsOf (h.q w) hxl) (by decide) dX7_gains_20 rfl (Nat.le_of_ble_eq_true rfl) (fun r μ' hq => ?_)
    obtain ⟨rfl, b2⟩ := hq
    refine R_goto (tgt := 27) dX7_gains_23 rfl ?_
    refine R_iret dX7_gains_27 rfl (rfl) (⟨rfl, b2.mono (fun i j z => Or.inl z)⟩)
theorem ct_X7_mates (h : CI μ σ) (w : WF σ) (x : Int32) : Ct G l 5 yX7_mates cX7_mates 2 (some .int) [.ref (G.2.2.1 0), .int x] μ (fun r μ' => r = some (.int (aMates σ x)) ∧ Sme Qry μ μ') := by
  have o1 := w.1.1.1
  refine Ct.of 0 (by decide +kernel) rfl (Nat.le_of_ble_eq_true rfl) ?_
  show V G l RX7 cX7_mates 2 _ false _ _ 0 [some (.ref _), some (.int _)] [] _
  refine R_aload_n (n := 1) dX7_mates_0 rfl rfl ?_
  refine gf_X7_19 (n := 4) dX7_mates_1 rfl ?_
  refine R_iload_n (n := 5) dX7_mates_4 rfl rfl ?_
  refine iv_X7_77 (n := 8) (ct_X1_hasBarge x h.2.1.2.1) (by decide) dX7_mates_5 rfl (Nat.le_of_ble_eq_true rfl) (fun r μ' hq => ?_)
  obtain ⟨rfl, hq⟩ := hq
  have hq := hq.symm
  subst hq
  cases hx : inR x (gC σ).1 with
  | false =>
    refine R_if_eq_t (tgt := 26) dX7_mates_8 rfl (by decide) ?_
    refine R_iconst (v := -1) (n := 27) dX7_mates_26 rfl rfl ?_
    refine R_iret dX7_mates_27 rfl (rfl) (⟨by rw [aMates, hx]; rfl, Sme.rf _ _⟩)
  | true =>
    obtain ⟨hxl, hxe⟩ := inR_cl (by omega) hx
    rw [aMates, hx, if_pos rfl]
    clear hx
    generalize x.toNatClampNeg = j at *
    subst hxe
    refine R_if_eq_f (n := 11) dX7_mates_8 rfl rfl (by decide) ?_
    refine R_aload_n (n := 12) dX7_mates_11 rfl rfl ?_
    refine gf_X7_40 (n := 15) dX7_mates_12 rfl ?_
    refine R_aload_n (n := 16) dX7_mates_15 rfl rfl ?_
    refine gf_X7_19 (n := 19) dX7_mates_16 rfl ?_
    refine R_iload_n (n := 20) dX7_mates_19 rfl rfl ?_
    refine iv_X7_154 (n := 23) (ct_X3_matesOf (h.q w) hxl) (by decide) dX7_mates_20 rfl (Nat.le_of_ble_eq_true rfl) (fun r μ' hq => ?_)
    obtain ⟨rfl, b2⟩ := hq
    refine R_goto (tgt := 27) dX7_mates_23 rfl ?_
    refine R_iret dX7_mates_27 rfl (rfl) (⟨rfl, b2.mono (fun i j z => Or.inl z)⟩)
theorem ref2_0 {x y : Int32} (hn : (gC σ).1 < 2 ^ 31) (h : ref2 σ x y = nI 0) : ∃ i j, i < (gC σ).1 ∧ j < (gC σ).1 ∧ x = nI i ∧ y = nI j ∧ i ≠ j := by
  unfold ref2 at h
  by_cases e : (inR x (gC σ).1 && inR y (gC σ).1) = true
  · rw [if_pos e] at h
    rw [Bool.and_eq_true] at e
    obtain ⟨i, hi, rfl⟩ := inR_of hn e.1
    obtain ⟨j, hj, rfl⟩ := inR_of hn e.2
    by_cases e2 : nI i = nI j
    · rw [if_pos e2] at h; exact absurd h (by decide)
    · exact ⟨i, j, hi, hj, rfl, rfl, fun z => e2 (by rw [z])⟩
  · rw [if_neg e] at h; exact absurd h (by decide)
theorem ct_X7_first (h : CI μ σ) (w : WF σ) (x y : Int32) : Ct G l 7 yX7_first cX7_first 4 (some .int) [.ref (G.2.2.1 0), .int x, .int y] μ (fun r μ' => r = some (.int (aFirst σ x y)) ∧ Sme Qry μ μ') := by
  have o1 := w.1.1.1
  refine Ct.of 1 (by decide +kernel) rfl (Nat.le_of_ble_eq_true rfl) ?_
  show V G l RX7 cX7_first 4 _ false _ _ 0 [some (.ref _), some (.int _), some (.int _), none] [] _
  refine R_aload_n (n := 1) dX7_first_0 rfl rfl ?_
  refine R_iload_n (n := 2) dX7_first_1 rfl rfl ?_
  refine R_iload_n (n := 3) dX7_first_2 rfl rfl ?_
  refine iv_X7_157 (n := 6) (ct_X7_refusalOfTwo h (by omega) x y) (by decide) dX7_first_3 rfl (Nat.le_of_ble_eq_true rfl) (fun r μ' hq => ?_)
  obtain ⟨rfl, hq⟩ := hq
  have hq := hq.symm
  subst hq
  refine R_istore_n (n := 7) dX7_first_6 rfl (Nat.le_of_ble_eq_true rfl) (Nat.le_of_ble_eq_true rfl) ?_
  refine R_iload_n (n := 8) dX7_first_7 rfl rfl ?_
  rw [aFirst]
  by_cases e : ref2 σ x y = nI 0
  · rw [if_pos e]
    obtain ⟨i, j, hi, hj, rfl, rfl, hne⟩ := ref2_0 (by omega) e
    rw [nI_clamp (by omega), nI_clamp (by omega)]
    refine R_if_eq_t (tgt := 15) dX7_first_8 rfl (e) ?_
    refine R_aload_n (n := 16) dX7_first_15 rfl rfl ?_
    refine gf_X7_40 (n := 19) dX7_first_16 rfl ?_
    refine R_aload_n (n := 20) dX7_first_19 rfl rfl ?_
    refine gf_X7_19 (n := 23) dX7_first_20 rfl ?_
    refine R_iload_n (n := 24) dX7_first_23 rfl rfl ?_
    refine R_iload_n (n := 25) dX7_first_24 rfl rfl ?_
    refine iv_X7_160 (n := 28) (ct_X3_firstOrder (h.q w) hi hj hne) (by decide) dX7_first_25 rfl (Nat.le_of_ble_eq_true rfl) (fun r μ' hq => ?_)
    obtain ⟨rfl, b2⟩ := hq
    refine R_iret dX7_first_28 rfl (rfl) (⟨rfl, b2.mono (fun i j z => by omega)⟩)
  · rw [if_neg e]
    refine R_if_eq_f (n := 11) dX7_first_8 rfl rfl (e) ?_
    refine R_iload_n (n := 12) dX7_first_11 rfl rfl ?_
    refine R_goto (tgt := 28) dX7_first_12 rfl ?_
    refine R_iret dX7_first_28 rfl (rfl) (⟨rfl, Sme.rf _ _⟩)
end PQ

