theorem srch_lt {p : Nat → Bool} : ∀ (f k r : Nat), srch p f k = some r → r < k + f ∧ p r = true
  | 0, _, _, h => by cases h
  | f + 1, k, r, h => by
    rw [srch] at h
    by_cases e : p k = true
    · rw [if_pos e] at h; cases h; exact ⟨by omega, e⟩
    · rw [if_neg e] at h
      have := srch_lt f (k + 1) r h
      exact ⟨by omega, this.2⟩
theorem srch2_lt {c : Nat → Bool} {q : Nat → Nat → Bool} : ∀ (f g r : Nat), g + f = 60 → srch2 c q f g = some r → r < 100000
  | 0, _, _, _, h => by cases h
  | f + 1, g, r, hg, h => by
    rw [srch2] at h
    cases e : (if c g = true then srch (q g) (60 - g) g else none) with
    | none => rw [e] at h; exact srch2_lt f (g + 1) r (by omega) h
    | some x =>
      rw [e] at h
      cases h
      by_cases e2 : c g = true
      · rw [if_pos e2] at e
        have := (srch_lt _ _ _ e).1
        omega
      · rw [if_neg e2] at e; cases e
theorem teaN_lt {C : CF} {S : ST} {i j r : Nat} (h : teaN C S i j = some r) : r < 100000 := by
  unfold teaN at h
  split at h
  · cases h; omega
  · split at h
    · rename_i g hg
      cases h
      have := (srch_lt _ _ _ hg).1
      omega
    · exact srch2_lt 60 0 r rfl h
section PR
variable {G : Gm} {l : Launch} {μ : Mem} {σ : GS}
theorem ct_X7_tea (h : CI μ σ) (w : WF σ) (x y : Int32) (row : Bool) : Ct G l 8 yX7_tea cX7_tea 6 (some .int) [.ref (G.2.2.1 0), .int x, .int y, .int (bi row)] μ (fun r μ' => r = some (.int (aTea σ x y row)) ∧ Sme Qry μ μ') := by
  have o1 := w.1.1.1
  refine Ct.of 2 (by decide +kernel) rfl (Nat.le_of_ble_eq_true rfl) ?_
  show V G l RX7 cX7_tea 6 _ false _ _ 0 [some (.ref _), some (.int _), some (.int _), some (.int _), none, none] [] _
  refine R_aload_n (n := 1) dX7_tea_0 rfl rfl ?_
  refine R_iload_n (n := 2) dX7_tea_1 rfl rfl ?_
  refine R_iload_n (n := 3) dX7_tea_2 rfl rfl ?_
  refine iv_X7_157 (n := 6) (ct_X7_refusalOfTwo h (by omega) x y) (by decide) dX7_tea_3 rfl (Nat.le_of_ble_eq_true rfl) (fun r μ' hq => ?_)
  obtain ⟨rfl, hq⟩ := hq
  have hq := hq.symm
  subst hq
  refine R_istore (n := 8) dX7_tea_6 rfl (Nat.le_of_ble_eq_true rfl) (Nat.le_of_ble_eq_true rfl) ?_
  refine R_iload (n := 10) dX7_tea_8 rfl rfl ?_
  rw [aTea]
  by_cases e : ref2 σ x y = nI 0
  · rw [if_pos e]
    obtain ⟨i, j, hi, hj, rfl, rfl, hne⟩ := ref2_0 (by omega) e
    rw [nI_clamp (by omega), nI_clamp (by omega)]
    refine R_if_eq_t (tgt := 16) dX7_tea_10 rfl (e) ?_
    refine R_aload_n (n := 17) dX7_tea_16 rfl rfl ?_
    refine gf_X7_40 (n := 20) dX7_tea_17 rfl ?_
    refine R_aload_n (n := 21) dX7_tea_20 rfl rfl ?_
    refine gf_X7_19 (n := 24) dX7_tea_21 rfl ?_
    refine R_iload_n (n := 25) dX7_tea_24 rfl rfl ?_
    refine R_iload_n (n := 26) dX7_tea_25 rfl rfl ?_
    refine iv_X7_164 (n := 29) (ct_X3_leastLoads (h.q w) (fun j hj => Nat.lt_of_le_of_lt (w.1.2.2 j hj) (by decide)) hi hj) (by decide) dX7_tea_26 rfl (Nat.le_of_ble_eq_true rfl) (fun r μ' hq => ?_)
    obtain ⟨rfl, b2⟩ := hq
    have b3 := b2.mono (P' := Qry) (fun i j z => Or.inl z)
    refine R_istore (n := 31) dX7_tea_29 rfl (Nat.le_of_ble_eq_true rfl) (Nat.le_of_ble_eq_true rfl) ?_
    refine R_iload_n (n := 32) dX7_tea_31 rfl rfl ?_
    cases row with
    | true =>
      refine R_if_ne_t (tgt := 42) dX7_tea_32 rfl (by decide) ?_
      refine R_iload (n := 44) dX7_tea_42 rfl rfl ?_
      refine R_goto (tgt := 56) dX7_tea_44 rfl ?_
      refine R_iret dX7_tea_56 rfl (rfl) (⟨rfl, b3⟩)
    | false =>
      refine R_if_ne_f (n := 35) dX7_tea_32 rfl rfl (by decide) ?_
      refine R_iload (n := 37) dX7_tea_35 rfl rfl ?_
      refine R_bipush (v := -9) (n := 39) dX7_tea_37 rfl rfl ?_
      cases ht : teaN (gC σ) (gS σ) i j with
      | none =>
        refine R_icmp_ne_f (n := 42) dX7_tea_39 rfl rfl (rfl) ?_
        refine R_iload (n := 44) dX7_tea_42 rfl rfl ?_
        refine R_goto (tgt := 56) dX7_tea_44 rfl ?_
        refine R_iret dX7_tea_56 rfl (rfl) (⟨rfl, b3⟩)
      | some m =>
        have hm := teaN_lt ht
        refine R_icmp_ne_t (tgt := 47) dX7_tea_39 rfl (nI_ne9 (by omega)) ?_
        refine R_aload_n (n := 48) dX7_tea_47 rfl rfl ?_
        refine gf_X7_40 (n := 51) dX7_tea_48 rfl ?_
        refine R_iload (n := 53) dX7_tea_51 rfl rfl ?_
        refine iv_X7_167 (n := 56) (ct_X3_howManyLoads (m := m) (by omega)) (by decide) dX7_tea_53 rfl (Nat.le_of_ble_eq_true rfl) (fun r μ' hq => ?_)
        obtain ⟨rfl, hq⟩ := hq
        have hq := hq.symm
        subst hq
        refine R_iret dX7_tea_56 rfl (rfl) (⟨rfl, b3⟩)
  · rw [if_neg e]
    refine R_if_eq_f (n := 13) dX7_tea_10 rfl rfl (e) ?_
    refine R_iload (n := 15) dX7_tea_13 rfl rfl ?_
    refine R_iret dX7_tea_15 rfl (rfl) (⟨rfl, Sme.rf _ _⟩)
theorem ct_X7_judge (h : CI μ σ) (w : WF σ) (x y : Int32) : Ct G l 7 yX7_judge cX7_judge 3 (some .int) [.ref (G.2.2.1 0), .int x, .int y] μ (fun r μ' => r = some (.int (aJudge σ x y)) ∧ Sme Qry μ μ') := by
  refine Ct.of 0 (by decide +kernel) rfl (Nat.le_of_ble_eq_true rfl) ?_
  show V G l RX7 cX7_judge 3 _ false _ _ 0 [some (.ref _), some (.int _), some (.int _)] [] _
  refine R_iload_n (n := 1) dX7_judge_0 rfl rfl ?_
  refine R_iconst (v := nI 1) (n := 2) dX7_judge_1 rfl rfl ?_
  rw [aJudge]
  refine R_icmp_lt (n := 5) (tgt := 27) dX7_judge_2 rfl rfl (fun h1 => ?_) (fun h1 => ?_)
  · rw [if_pos (Or.inl h1)]
    refine R_bipush (v := -2) (n := 29) dX7_judge_27 rfl rfl ?_
    refine R_iret dX7_judge_29 rfl (rfl) (⟨rfl, Sme.rf _ _⟩)
  · refine R_iload_n (n := 6) dX7_judge_5 rfl rfl ?_
    refine R_bipush (v := nI 6) (n := 8) dX7_judge_6 rfl rfl ?_
    refine R_icmp_gt (n := 11) (tgt := 27) dX7_judge_8 rfl rfl (fun h2 => ?_) (fun h2 => ?_)
    · rw [if_pos (Or.inr (Or.inl h2))]
      refine R_bipush (v := -2) (n := 29) dX7_judge_27 rfl rfl ?_
      refine R_iret dX7_judge_29 rfl (rfl) (⟨rfl, Sme.rf _ _⟩)
    · refine R_iload_n (n := 12) dX7_judge_11 rfl rfl ?_
      refine R_if_lt (n := 15) (tgt := 27) dX7_judge_12 rfl rfl (fun h3 => ?_) (fun h3 => ?_)
      · rw [if_pos (Or.inr (Or.inr (Or.inl h3)))]
        refine R_bipush (v := -2) (n := 29) dX7_judge_27 rfl rfl ?_
        refine R_iret dX7_judge_29 rfl (rfl) (⟨rfl, Sme.rf _ _⟩)
      · obtain ⟨m, hm, rfl⟩ := nI_of h3
        obtain ⟨n, hn, rfl⟩ := nI_of (x := x) (fun z => h1 (Int32.lt_trans z (by decide)))
        rw [nI_ltI (by omega) (by omega)] at h1 h2
        rw [nI_clamp hm, nI_clamp hn]
        have n1 : ¬ nI n < nI 1 := by rw [nI_ltI (by omega) (by omega)]; omega
        have n2 : ¬ nI 6 < nI n := by rw [nI_ltI (by omega) (by omega)]; omega
        refine R_aload_n (n := 16) dX7_judge_15 rfl rfl ?_
        refine gf_X7_40 (n := 19) dX7_judge_16 rfl ?_
        refine R_iload_n (n := 20) dX7_judge_19 rfl rfl ?_
        refine R_iload_n (n := 21) dX7_judge_20 rfl rfl ?_
        refine iv_X7_170 (n := 24) (ct_X3_spread hm (by omega)) (by decide) dX7_judge_21 rfl (Nat.le_of_ble_eq_true rfl) (fun r μ' hq => ?_)
        obtain ⟨rfl, s1, s2⟩ := hq
        by_cases e : m / 10 ^ n = 0
        · rw [if_neg (fun z => z.elim n1 (fun z => z.elim n2 (fun z => z.elim h3 (fun z => z e)))), decide_eq_true e]
          refine R_if_ne_t (tgt := 30) dX7_judge_24 rfl (by decide) ?_
          refine R_aload_n (n := 31) dX7_judge_30 rfl rfl ?_
          refine gf_X7_40 (n := 34) dX7_judge_31 rfl ?_
          refine R_aload_n (n := 35) dX7_judge_34 rfl rfl ?_
          refine gf_X7_19 (n := 38) dX7_judge_35 rfl ?_
          refine R_iload_n (n := 39) dX7_judge_38 rfl rfl ?_
          refine iv_X7_174 (n := 42) (ct_X3_firstMisplaced ((h.q w).kept s2 (fun i j z1 z2 => by omega)) (by omega) s1) (by decide) dX7_judge_39 rfl (Nat.le_of_ble_eq_true rfl) (fun r μ' hq => ?_)
          obtain ⟨rfl, b2⟩ := hq
          refine R_iret dX7_judge_42 rfl (rfl) (⟨rfl, (s2.mono (fun i j z => by omega)).tr (b2.mono (fun i j z => Or.inl z))⟩)
        · rw [if_pos (Or.inr (Or.inr (Or.inr e))), decide_eq_false e]
          refine R_if_ne_f (n := 27) dX7_judge_24 rfl rfl (by decide) ?_
          refine R_bipush (v := -2) (n := 29) dX7_judge_27 rfl rfl ?_
          refine R_iret dX7_judge_29 rfl (rfl) (⟨rfl, s2.mono (fun i j z => by omega)⟩)
theorem ct_X7_share (h : CI μ σ) (w : WF σ) (x : Int32) (up : Bool) : Ct G l 7 yX7_share cX7_share 3 (some .int) [.ref (G.2.2.1 0), .int x, .int (bi up)] μ (fun r μ' => r = some (.int (aShare σ x up)) ∧ Sme Qry μ μ') := by
  have o1 := w.1.1.1
  refine Ct.of 0 (by decide +kernel) rfl (Nat.le_of_ble_eq_true rfl) ?_
  show V G l RX7 cX7_share 3 _ false _ _ 0 [some (.ref _), some (.int _), some (.int _)] [] _
  refine R_aload_n (n := 1) dX7_share_0 rfl rfl ?_
  refine gf_X7_19 (n := 4) dX7_share_1 rfl ?_
  refine R_iload_n (n := 5) dX7_share_4 rfl rfl ?_
  refine iv_X7_77 (n := 8) (ct_X1_hasBarge x h.2.1.2.1) (by decide) dX7_share_5 rfl (Nat.le_of_ble_eq_true rfl) (fun r μ' hq => ?_)
  obtain ⟨rfl, hq⟩ := hq
  have hq := hq.symm
  subst hq
  cases hx : inR x (gC σ).1 with
  | false =>
    refine R_if_ne_f (n := 11) dX7_share_8 rfl rfl (by decide) ?_
    refine R_iconst (v := -1) (n := 12) dX7_share_11 rfl rfl ?_
    refine R_iret dX7_share_12 rfl (rfl) (⟨by rw [aShare, hx]; rfl, Sme.rf _ _⟩)
  | true =>
    obtain ⟨hxl, hxe⟩ := inR_cl (by omega) hx
    rw [aShare, hx, if_pos rfl]
    clear hx
    generalize x.toNatClampNeg = j at *
    subst hxe
    refine R_if_ne_t (tgt := 13) dX7_share_8 rfl (by decide) ?_
    refine R_aload_n (n := 14) dX7_share_13 rfl rfl ?_
    refine gf_X7_40 (n := 17) dX7_share_14 rfl ?_
    refine R_aload_n (n := 18) dX7_share_17 rfl rfl ?_
    refine gf_X7_19 (n := 21) dX7_share_18 rfl ?_
    refine R_iload_n (n := 22) dX7_share_21 rfl rfl ?_
    refine iv_X7_177 (n := 25) (ct_X3_shareAbove (h.q w) hxl) (by decide) dX7_share_22 rfl (Nat.le_of_ble_eq_true rfl) (fun r μ' hq => ?_)
    obtain ⟨rfl, b2⟩ := hq
    have hcn := (b2.1 3 5 (by omega)).trans h.2.1.2.1
    refine R_gets (n := 28) tF_RX7_180 dX7_share_25 rfl (fun fa hfa => ?_)
    refine R_aload_n (n := 29) dX7_share_28 rfl rfl ?_
    refine gf_X7_19 (n := 32) dX7_share_29 rfl ?_
    refine ge_X7_74 (n := 35) dX7_share_32 rfl (hcn) ?_
    refine R_rld (n := 36) hfa (by decide) (rfl) (by omega) dX7_share_35 rfl ?_
    rw [fac_eq _ (by omega)]
    refine R_iload_n (n := 37) dX7_share_36 rfl rfl ?_
    refine iv_X7_183 (n := 40) (ct_X7_tellFraction _ _ up) (by decide) dX7_share_37 rfl (Nat.le_of_ble_eq_true rfl) (fun r μ' hq => ?_)
    obtain ⟨rfl, hq⟩ := hq
    have hq := hq.symm
    subst hq
    refine R_iret dX7_share_40 rfl (rfl) (⟨rfl, b2.mono (fun i j z => Or.inl z)⟩)
theorem ct_X7_gave (h : CI μ σ) (w : WF σ) (x y z : Int32) : Ct G l 7 yX7_gave cX7_gave 4 (some .int) [.ref (G.2.2.1 0), .int x, .int y, .int z] μ (fun r μ' => r = some (.int (aGave σ x y z)) ∧ Sme Qry μ μ') := by
  obtain ⟨o1, o2, o3, o4, o5, o6⟩ := id w.1.1
  refine Ct.of 0 (by decide +kernel) rfl (Nat.le_of_ble_eq_true rfl) ?_
  show V G l RX7 cX7_gave 4 _ false _ _ 0 [some (.ref _), some (.int _), some (.int _), some (.int _)] [] _
  refine R_aload_n (n := 1) dX7_gave_0 rfl rfl ?_
  refine gf_X7_19 (n := 4) dX7_gave_1 rfl ?_
  refine R_iload_n (n := 5) dX7_gave_4 rfl rfl ?_
  refine iv_X7_104 (n := 8) (ct_X1_hasLock x h.2.1.1) (by decide) dX7_gave_5 rfl (Nat.le_of_ble_eq_true rfl) (fun r μ' hq => ?_)
  obtain ⟨rfl, hq⟩ := hq
  have hq := hq.symm
  subst hq
  cases hx : inR x (gC σ).2.1 with
  | false =>
    refine R_if_ne_f (n := 11) dX7_gave_8 rfl rfl (by decide) ?_
    refine R_iconst (v := -1) (n := 12) dX7_gave_11 rfl rfl ?_
    refine R_iret dX7_gave_12 rfl (rfl) (⟨by rw [aGave, hx]; rfl, Sme.rf _ _⟩)
  | true =>
    obtain ⟨hxl, hxe⟩ := inR_cl (by omega) hx
    rw [aGave, hx, if_pos rfl]
    clear hx
    generalize x.toNatClampNeg = k at *
    subst hxe
    refine R_if_ne_t (tgt := 13) dX7_gave_8 rfl (by decide) ?_
    refine R_aload_n (n := 14) dX7_gave_13 rfl rfl ?_
    refine gf_X7_40 (n := 17) dX7_gave_14 rfl ?_
    refine R_aload_n (n := 18) dX7_gave_17 rfl rfl ?_
    refine gf_X7_19 (n := 21) dX7_gave_18 rfl ?_
    refine R_iload_n (n := 22) dX7_gave_21 rfl rfl ?_
    refine iv_X7_187 (n := 25) (ct_X3_areAllBarges y h.2.1 o1) (by decide) dX7_gave_22 rfl (Nat.le_of_ble_eq_true rfl) (fun r μ' hq => ?_)
    obtain ⟨rfl, b1⟩ := hq
    have b1' := b1.mono (P' := Qry) (fun i j z => by omega)
    cases ho : ordB y (gC σ).1 with
    | false =>
      rw [if_pos (Or.inl rfl)]
      refine R_if_eq_t (tgt := 37) dX7_gave_25 rfl (by decide) ?_
      refine R_bipush (v := -2) (n := 39) dX7_gave_37 rfl rfl ?_
      refine R_iret dX7_gave_39 rfl (rfl) (⟨rfl, b1'⟩)
    | true =>
      refine R_if_eq_f (n := 28) dX7_gave_25 rfl rfl (by decide) ?_
      refine R_iload_n (n := 29) dX7_gave_28 rfl rfl ?_
      refine R_if_lt (n := 32) (tgt := 37) dX7_gave_29 rfl rfl (fun h1 => ?_) (fun h1 => ?_)
      · rw [if_pos (Or.inr (Or.inl h1))]
        refine R_bipush (v := -2) (n := 39) dX7_gave_37 rfl rfl ?_
        refine R_iret dX7_gave_39 rfl (rfl) (⟨rfl, b1'⟩)
      · refine R_iload_n (n := 33) dX7_gave_32 rfl rfl ?_
        refine R_iconst (v := nI 2) (n := 34) dX7_gave_33 rfl rfl ?_
        refine R_icmp_le (n := 37) (tgt := 40) dX7_gave_34 rfl rfl (fun h2 => ?_) (fun h2 => ?_)
        · rw [if_neg (fun q => q.elim (by decide) (fun q => q.elim h1 (fun q => absurd h2 (Int32.not_le.mpr q))))]
          have hq2 := (h.q w).kept b1' (fun i j z1 z2 => by omega)
          refine R_aload_n (n := 41) dX7_gave_40 rfl rfl ?_
          refine gf_X7_19 (n := 44) dX7_gave_41 rfl ?_
          refine R_iload_n (n := 45) dX7_gave_44 rfl rfl ?_
          refine iv_X7_110 (n := 48) (ct_X1_isPassed (by omega) (by omega) hq2.2.1.2.2.2.2.2.2) (by decide) dX7_gave_45 rfl (Nat.le_of_ble_eq_true rfl) (fun r μ' hq => ?_)
          obtain ⟨rfl, hq⟩ := hq
          have hq := hq.symm
          subst hq
          by_cases e1 : k < sPsd (gS σ)
          · rw [if_pos e1, decide_eq_true e1]
            refine R_if_eq_f (n := 51) dX7_gave_48 rfl rfl (by decide) ?_
            refine R_bipush (v := -3) (n := 53) dX7_gave_51 rfl rfl ?_
            refine R_iret dX7_gave_53 rfl (rfl) (⟨rfl, b1'⟩)
          · rw [if_neg e1, decide_eq_false e1]
            refine R_if_eq_t (tgt := 54) dX7_gave_48 rfl (by decide) ?_
            refine R_aload_n (n := 55) dX7_gave_54 rfl rfl ?_
            refine gf_X7_47 (n := 58) dX7_gave_55 rfl ?_
            refine R_aload_n (n := 59) dX7_gave_58 rfl rfl ?_
            refine gf_X7_19 (n := 62) dX7_gave_59 rfl ?_
            refine R_iload_n (n := 63) dX7_gave_62 rfl rfl ?_
            refine R_iload_n (n := 64) dX7_gave_63 rfl rfl ?_
            refine iv_X7_191 (n := 67) (ct_X2_findGivers hq2 hxl (by omega)) (by decide) dX7_gave_64 rfl (Nat.le_of_ble_eq_true rfl) (fun r μ' hq => ?_)
            obtain ⟨rfl, g1, g2, g3, g4⟩ := hq
            have b5 : Sme Qry μ μ' := b1'.tr (g4.mono (fun i j z => by omega))
            refine R_iload_n (n := 68) dX7_gave_67 rfl rfl ?_
            by_cases ez : z = 0
            · rw [if_pos ez]
              refine R_if_ne_f (n := 71) dX7_gave_68 rfl rfl (ez) ?_
              refine R_aload_n (n := 72) dX7_gave_71 rfl rfl ?_
              refine gf_X7_47 (n := 75) dX7_gave_72 rfl ?_
              refine ge_X7_195 (n := 78) dX7_gave_75 rfl (g1) ?_
              refine R_iret dX7_gave_78 rfl (rfl) (⟨rfl, b5⟩)
            · rw [if_neg ez]
              refine R_if_ne_t (tgt := 79) dX7_gave_68 rfl (ez) ?_
              refine R_aload_n (n := 80) dX7_gave_79 rfl rfl ?_
              refine gf_X7_47 (n := 83) dX7_gave_80 rfl ?_
              refine ge_X7_195 (n := 86) dX7_gave_83 rfl (g1) ?_
              by_cases ec : (gvR σ k y).1 = 0
              · rw [if_pos ec]
                refine R_if_ne_f (n := 89) dX7_gave_86 rfl rfl (ec) ?_
                refine R_bipush (v := -9) (n := 91) dX7_gave_89 rfl rfl ?_
                refine R_iret dX7_gave_91 rfl (rfl) (⟨rfl, b5⟩)
              · rw [if_neg ec]
                refine R_if_ne_t (tgt := 92) dX7_gave_86 rfl (ec) ?_
                refine R_iload_n (n := 93) dX7_gave_92 rfl rfl ?_
                refine R_iconst (v := nI 1) (n := 94) dX7_gave_93 rfl rfl ?_
                refine R_icmp_ne (n := 97) (tgt := 107) dX7_gave_94 rfl rfl (fun e2 => ?_) (fun e2 => ?_)
                · rw [if_neg e2]
                  refine R_aload_n (n := 108) dX7_gave_107 rfl rfl ?_
                  refine gf_X7_47 (n := 111) dX7_gave_108 rfl ?_
                  refine ge_X7_201 (n := 114) dX7_gave_111 rfl (g3) ?_
                  refine R_iret dX7_gave_114 rfl (rfl) (⟨rfl, b5⟩)
                · rw [if_pos e2]
                  refine R_aload_n (n := 98) dX7_gave_97 rfl rfl ?_
                  refine gf_X7_47 (n := 101) dX7_gave_98 rfl ?_
                  refine ge_X7_198 (n := 104) dX7_gave_101 rfl (g2) ?_
                  refine R_goto (tgt := 114) dX7_gave_104 rfl ?_
                  refine R_iret dX7_gave_114 rfl (rfl) (⟨rfl, b5⟩)
        · rw [if_pos (Or.inr (Or.inr (Int32.not_le.mp h2)))]
          refine R_bipush (v := -2) (n := 39) dX7_gave_37 rfl rfl ?_
          refine R_iret dX7_gave_39 rfl (rfl) (⟨rfl, b1'⟩)
theorem ct_X7_rests (h : CI μ σ) (w : WF σ) (x y z v : Int32) : Ct G l 7 yX7_rests cX7_rests 5 (some .int) [.ref (G.2.2.1 0), .int x, .int y, .int z, .int v] μ (fun r μ' => r = some (.int (aRests σ x y z v)) ∧ Sme Qry μ μ') := by
  obtain ⟨o1, o2, o3, o4, o5, o6⟩ := id w.1.1
  refine Ct.of 0 (by decide +kernel) rfl (Nat.le_of_ble_eq_true rfl) ?_
  show V G l RX7 cX7_rests 5 _ false _ _ 0 [some (.ref _), some (.int _), some (.int _), some (.int _), some (.int _)] [] _
  refine R_aload_n (n := 1) dX7_rests_0 rfl rfl ?_
  refine gf_X7_19 (n := 4) dX7_rests_1 rfl ?_
  refine R_iload_n (n := 5) dX7_rests_4 rfl rfl ?_
  refine iv_X7_77 (n := 8) (ct_X1_hasBarge x h.2.1.2.1) (by decide) dX7_rests_5 rfl (Nat.le_of_ble_eq_true rfl) (fun r μ' hq => ?_)
  obtain ⟨rfl, hq⟩ := hq
  have hq := hq.symm
  subst hq
  cases hx : inR x (gC σ).1 with
  | false =>
    refine R_if_eq_t (tgt := 33) dX7_rests_8 rfl (by decide) ?_
    refine R_iconst (v := -1) (n := 34) dX7_rests_33 rfl rfl ?_
    refine R_iret dX7_rests_34 rfl (rfl) (⟨by rw [aRests, hx]; rfl, Sme.rf _ _⟩)
  | true =>
    refine R_if_eq_f (n := 11) dX7_rests_8 rfl rfl (by decide) ?_
    refine R_aload_n (n := 12) dX7_rests_11 rfl rfl ?_
    refine gf_X7_19 (n := 15) dX7_rests_12 rfl ?_
    refine R_iload_n (n := 16) dX7_rests_15 rfl rfl ?_
    refine iv_X7_77 (n := 19) (ct_X1_hasBarge y h.2.1.2.1) (by decide) dX7_rests_16 rfl (Nat.le_of_ble_eq_true rfl) (fun r μ' hq => ?_)
    obtain ⟨rfl, hq⟩ := hq
    have hq := hq.symm
    subst hq
    cases hy : inR y (gC σ).1 with
    | false =>
      refine R_if_eq_t (tgt := 33) dX7_rests_19 rfl (by decide) ?_
      refine R_iconst (v := -1) (n := 34) dX7_rests_33 rfl rfl ?_
      refine R_iret dX7_rests_34 rfl (rfl) (⟨by rw [aRests, hx, hy]; rfl, Sme.rf _ _⟩)
    | true =>
      refine R_if_eq_f (n := 22) dX7_rests_19 rfl rfl (by decide) ?_
      refine R_aload_n (n := 23) dX7_rests_22 rfl rfl ?_
      refine gf_X7_19 (n := 26) dX7_rests_23 rfl ?_
      refine R_iload_n (n := 27) dX7_rests_26 rfl rfl ?_
      refine iv_X7_104 (n := 30) (ct_X1_hasLock z h.2.1.1) (by decide) dX7_rests_27 rfl (Nat.le_of_ble_eq_true rfl) (fun r μ' hq => ?_)
      obtain ⟨rfl, hq⟩ := hq
      have hq := hq.symm
      subst hq
      cases hz : inR z (gC σ).2.1 with
      | false =>
        refine R_if_ne_f (n := 33) dX7_rests_30 rfl rfl (by decide) ?_
        refine R_iconst (v := -1) (n := 34) dX7_rests_33 rfl rfl ?_
        refine R_iret dX7_rests_34 rfl (rfl) (⟨by rw [aRests, hx, hy, hz]; rfl, Sme.rf _ _⟩)
      | true =>
        obtain ⟨hxl, hxe⟩ := inR_cl (by omega) hx
        obtain ⟨hyl, hye⟩ := inR_cl (by omega) hy
        obtain ⟨hzl, hze⟩ := inR_cl (by omega) hz
        rw [aRests, hx, hy, hz, if_pos (show (true && (true && true)) = true from rfl)]
        clear hx hy hz
        generalize x.toNatClampNeg = i at *
        generalize y.toNatClampNeg = j at *
        generalize z.toNatClampNeg = k at *
        subst hxe
        subst hye
        subst hze
        refine R_if_ne_t (tgt := 35) dX7_rests_30 rfl (by decide) ?_
        refine R_iload_n (n := 36) dX7_rests_35 rfl rfl ?_
        refine R_iload_n (n := 37) dX7_rests_36 rfl rfl ?_
        refine R_icmp_eq (n := 40) (tgt := 51) dX7_rests_37 rfl rfl (fun e1 => ?_) (fun e1 => ?_)
        · rw [if_pos (Or.inl e1)]
          refine R_bipush (v := -2) (n := 53) dX7_rests_51 rfl rfl ?_
          refine R_iret dX7_rests_53 rfl (rfl) (⟨rfl, Sme.rf _ _⟩)
        · refine R_iload (n := 42) dX7_rests_40 rfl rfl ?_
          refine R_if_lt (n := 45) (tgt := 51) dX7_rests_42 rfl rfl (fun e2 => ?_) (fun e2 => ?_)
          · rw [if_pos (Or.inr (Or.inl e2))]
            refine R_bipush (v := -2) (n := 53) dX7_rests_51 rfl rfl ?_
            refine R_iret dX7_rests_53 rfl (rfl) (⟨rfl, Sme.rf _ _⟩)
          · refine R_iload (n := 47) dX7_rests_45 rfl rfl ?_
            refine R_iconst (v := nI 1) (n := 48) dX7_rests_47 rfl rfl ?_
            refine R_icmp_le (n := 51) (tgt := 54) dX7_rests_48 rfl rfl (fun e3 => ?_) (fun e3 => ?_)
            · rw [if_neg (fun q => q.elim e1 (fun q => q.elim e2 (fun q => absurd e3 (Int32.not_le.mpr q))))]
              refine R_aload_n (n := 55) dX7_rests_54 rfl rfl ?_
              refine gf_X7_19 (n := 58) dX7_rests_55 rfl ?_
              refine R_iload_n (n := 59) dX7_rests_58 rfl rfl ?_
              refine iv_X7_110 (n := 62) (ct_X1_isPassed (by omega) (by omega) h.2.2.1.2.2.2.2.2.2) (by decide) dX7_rests_59 rfl (Nat.le_of_ble_eq_true rfl) (fun r μ' hq => ?_)
              obtain ⟨rfl, hq⟩ := hq
              have hq := hq.symm
              subst hq
              by_cases ep : k < sPsd (gS σ)
              · rw [if_pos ep, decide_eq_true ep]
                refine R_if_eq_f (n := 65) dX7_rests_62 rfl rfl (by decide) ?_
                refine R_bipush (v := -3) (n := 67) dX7_rests_65 rfl rfl ?_
                refine R_iret dX7_rests_67 rfl (rfl) (⟨rfl, Sme.rf _ _⟩)
              · rw [if_neg ep, decide_eq_false ep]
                refine R_if_eq_t (tgt := 68) dX7_rests_62 rfl (by decide) ?_
                refine R_aload_n (n := 69) dX7_rests_68 rfl rfl ?_
                refine gf_X7_47 (n := 72) dX7_rests_69 rfl ?_
                refine R_aload_n (n := 73) dX7_rests_72 rfl rfl ?_
                refine gf_X7_19 (n := 76) dX7_rests_73 rfl ?_
                refine R_iload_n (n := 77) dX7_rests_76 rfl rfl ?_
                refine R_iload_n (n := 78) dX7_rests_77 rfl rfl ?_
                refine R_iload_n (n := 79) dX7_rests_78 rfl rfl ?_
                refine iv_X7_204 (n := 82) (ct_X2_findRests (h.q w) hxl hyl hzl) (by decide) dX7_rests_79 rfl (Nat.le_of_ble_eq_true rfl) (fun r μ' hq => ?_)
                obtain ⟨rfl, g1, g2, g4⟩ := hq
                have b5 : Sme Qry μ μ' := g4.mono (fun i j z => by omega)
                refine R_iload (n := 84) dX7_rests_82 rfl rfl ?_
                by_cases ez : v = 0
                · rw [if_pos ez]
                  refine R_if_ne_f (n := 87) dX7_rests_84 rfl rfl (ez) ?_
                  refine R_aload_n (n := 88) dX7_rests_87 rfl rfl ?_
                  refine gf_X7_47 (n := 91) dX7_rests_88 rfl ?_
                  refine ge_X7_195 (n := 94) dX7_rests_91 rfl (g1) ?_
                  refine R_goto (tgt := 104) dX7_rests_94 rfl ?_
                  refine R_iret dX7_rests_104 rfl (rfl) (⟨rfl, b5⟩)
                · rw [if_neg ez]
                  refine R_if_ne_t (tgt := 97) dX7_rests_84 rfl (ez) ?_
                  refine R_aload_n (n := 98) dX7_rests_97 rfl rfl ?_
                  refine gf_X7_47 (n := 101) dX7_rests_98 rfl ?_
                  refine ge_X7_208 (n := 104) dX7_rests_101 rfl (g2) ?_
                  refine R_iret dX7_rests_104 rfl (rfl) (⟨rfl, b5⟩)
            · rw [if_pos (Or.inr (Or.inr (Int32.not_le.mp e3)))]
              refine R_bipush (v := -2) (n := 53) dX7_rests_51 rfl rfl ?_
              refine R_iret dX7_rests_53 rfl (rfl) (⟨rfl, Sme.rf _ _⟩)
theorem ct_X7_asleep (h : CI μ σ) (w : WF σ) (x p t : Int32) (up : Bool) : Ct G l 7 yX7_asleep cX7_asleep 6 (some .int) [.ref (G.2.2.1 0), .int x, .int p, .int t, .int (bi up)] μ (fun r μ' => r = some (.int (aAsleep σ x p t up)) ∧ Sme Qry μ μ') := by
  obtain ⟨o1, o2, o3, o4, o5, o6⟩ := id w.1.1
  refine Ct.of 1 (by decide +kernel) rfl (Nat.le_of_ble_eq_true rfl) ?_
  show V G l RX7 cX7_asleep 6 _ false _ _ 0 [some (.ref _), some (.int _), some (.int _), some (.int _), some (.int _), none] [] _
  refine R_aload_n (n := 1) dX7_asleep_0 rfl rfl ?_
  refine gf_X7_19 (n := 4) dX7_asleep_1 rfl ?_
  refine R_iload_n (n := 5) dX7_asleep_4 rfl rfl ?_
  refine iv_X7_77 (n := 8) (ct_X1_hasBarge x h.2.1.2.1) (by decide) dX7_asleep_5 rfl (Nat.le_of_ble_eq_true rfl) (fun r μ' hq => ?_)
  obtain ⟨rfl, hq⟩ := hq
  have hq := hq.symm
  subst hq
  cases hx : inR x (gC σ).1 with
  | false =>
    refine R_if_ne_f (n := 11) dX7_asleep_8 rfl rfl (by decide) ?_
    refine R_iconst (v := -1) (n := 12) dX7_asleep_11 rfl rfl ?_
    refine R_iret dX7_asleep_12 rfl (rfl) (⟨by rw [aAsleep, hx]; rfl, Sme.rf _ _⟩)
  | true =>
    obtain ⟨hxl, hxe⟩ := inR_cl (by omega) hx
    rw [aAsleep, hx, if_pos rfl]
    clear hx
    generalize x.toNatClampNeg = j at *
    subst hxe
    refine R_if_ne_t (tgt := 13) dX7_asleep_8 rfl (by decide) ?_
    refine R_iload_n (n := 14) dX7_asleep_13 rfl rfl ?_
    refine R_if_lt (n := 17) (tgt := 38) dX7_asleep_14 rfl rfl (fun h1 => ?_) (fun h1 => ?_)
    · rw [if_pos (Or.inl (by rw [inR, decide_eq_false (fun z => z h1)]; rfl))]
      refine R_bipush (v := -2) (n := 40) dX7_asleep_38 rfl rfl ?_
      refine R_iret dX7_asleep_40 rfl (rfl) (⟨rfl, Sme.rf _ _⟩)
    · refine R_iload_n (n := 18) dX7_asleep_17 rfl rfl ?_
      refine R_aload_n (n := 19) dX7_asleep_18 rfl rfl ?_
      refine gf_X7_19 (n := 22) dX7_asleep_19 rfl ?_
      refine ge_X7_74 (n := 25) dX7_asleep_22 rfl (h.2.1.2.1) ?_
      refine R_icmp_ge (n := 28) (tgt := 38) dX7_asleep_25 rfl rfl (fun h2 => ?_) (fun h2 => ?_)
      · rw [if_pos (Or.inl (by rw [inR, decide_eq_false (p := ¬ nI (gC σ).1 ≤ p) (fun z => z h2), Bool.and_false]))]
        refine R_bipush (v := -2) (n := 40) dX7_asleep_38 rfl rfl ?_
        refine R_iret dX7_asleep_40 rfl (rfl) (⟨rfl, Sme.rf _ _⟩)
      · have hp : inR p (gC σ).1 = true := by rw [inR, decide_eq_true h1, decide_eq_true h2]; rfl
        obtain ⟨hpl, hpe⟩ := inR_cl (by omega) hp
        refine R_iload_n (n := 29) dX7_asleep_28 rfl rfl ?_
        refine R_if_lt (n := 32) (tgt := 38) dX7_asleep_29 rfl rfl (fun h3 => ?_) (fun h3 => ?_)
        · rw [if_pos (Or.inr (Or.inl h3))]
          refine R_bipush (v := -2) (n := 40) dX7_asleep_38 rfl rfl ?_
          refine R_iret dX7_asleep_40 rfl (rfl) (⟨rfl, Sme.rf _ _⟩)
        · refine R_iload_n (n := 33) dX7_asleep_32 rfl rfl ?_
          refine R_bipush (v := nI 10) (n := 35) dX7_asleep_33 rfl rfl ?_
          refine R_icmp_le (n := 38) (tgt := 41) dX7_asleep_35 rfl rfl (fun h4 => ?_) (fun h4 => ?_)
          · rw [if_neg (fun q => q.elim (by rw [hp]; decide) (fun q => q.elim h3 (fun q => absurd h4 (Int32.not_le.mpr q))))]
            obtain ⟨m, hm, rfl⟩ := nI_of h3
            have hm10 : m ≤ 10 := by rw [nI_leI hm (by omega)] at h4; exact h4
            rw [nI_clamp hm]
            clear hp h1 h2
            generalize p.toNatClampNeg = pl at *
            subst hpe
            refine R_bipush (v := nI 10) (n := 43) dX7_asleep_41 rfl rfl ?_
            refine R_aload_n (n := 44) dX7_asleep_43 rfl rfl ?_
            refine gf_X7_19 (n := 47) dX7_asleep_44 rfl ?_
            refine iv_X7_116 (n := 50) (ct_X1_locksLeft h.2.1.1 h.2.2.1.2.2.2.2.2.2 o6) (by decide) dX7_asleep_47 rfl (Nat.le_of_ble_eq_true rfl) (fun r μ' hq => ?_)
            obtain ⟨rfl, hq⟩ := hq
            have hq := hq.symm
            subst hq
            refine iv_X7_211 (n := 53) (ct_X7_power (nI 10) (by omega)) (by decide) dX7_asleep_50 rfl (Nat.le_of_ble_eq_true rfl) (fun r μ' hq => ?_)
            obtain ⟨rfl, hq⟩ := hq
            have hq := hq.symm
            subst hq
            refine R_istore (n := 55) dX7_asleep_53 rfl (Nat.le_of_ble_eq_true rfl) (Nat.le_of_ble_eq_true rfl) ?_
            refine R_aload_n (n := 56) dX7_asleep_55 rfl rfl ?_
            refine gf_X7_47 (n := 59) dX7_asleep_56 rfl ?_
            refine R_aload_n (n := 60) dX7_asleep_59 rfl rfl ?_
            refine gf_X7_19 (n := 63) dX7_asleep_60 rfl ?_
            refine R_iload_n (n := 64) dX7_asleep_63 rfl rfl ?_
            refine R_iload_n (n := 65) dX7_asleep_64 rfl rfl ?_
            refine R_iload_n (n := 66) dX7_asleep_65 rfl rfl ?_
            refine iv_X7_214 (n := 69) (ct_X2_asleepAbove (h.q w) hxl hpl hm10) (by decide) dX7_asleep_66 rfl (Nat.le_of_ble_eq_true rfl) (fun r μ' hq => ?_)
            obtain ⟨rfl, b2⟩ := hq
            refine R_iload (n := 71) dX7_asleep_69 rfl rfl ?_
            refine R_iload (n := 73) dX7_asleep_71 rfl rfl ?_
            refine iv_X7_183 (n := 76) (ct_X7_tellFraction _ _ up) (by decide) dX7_asleep_73 rfl (Nat.le_of_ble_eq_true rfl) (fun r μ' hq => ?_)
            obtain ⟨rfl, hq⟩ := hq
            have hq := hq.symm
            subst hq
            refine R_iret dX7_asleep_76 rfl (rfl) (⟨rfl, b2.mono (fun i j z => Or.inl z)⟩)
          · rw [if_pos (Or.inr (Or.inr (Int32.not_le.mp h4)))]
            refine R_bipush (v := -2) (n := 40) dX7_asleep_38 rfl rfl ?_
            refine R_iret dX7_asleep_40 rfl (rfl) (⟨rfl, Sme.rf _ _⟩)
theorem ct_X7_count (h : CI μ σ) (w : WF σ) (x : Int32) : Ct G l 6 yX7_count cX7_count 2 (some .int) [.ref (G.2.2.1 0), .int x] μ (fun r μ' => r = some (.int (aCount σ x)) ∧ Sme Qry μ μ') := by
  obtain ⟨o1, o2, o3, o4, o5, o6⟩ := id w.1.1
  have hS := h.2.2.1
  refine Ct.of 0 (by decide +kernel) rfl (Nat.le_of_ble_eq_true rfl) ?_
  show V G l RX7 cX7_count 2 _ false _ _ 0 [some (.ref _), some (.int _)] [] _
  refine R_iload_n (n := 1) dX7_count_0 rfl rfl ?_
  rw [aCount]
  by_cases e0 : x = nI 0
  · rw [if_pos e0, e0]
    refine R_tableIn (off := 51) (tgt := 52) dX7_count_1 (by decide) (by decide) (by decide) rfl ?_
    refine R_aload_n (n := 53) dX7_count_52 rfl rfl ?_
    refine gf_X7_10 (n := 56) dX7_count_53 rfl ?_
    refine ge_X7_51 (n := 59) dX7_count_56 rfl (h.1.1) ?_
    refine R_iret dX7_count_59 rfl (rfl) (⟨rfl, Sme.rf _ _⟩)
  rw [if_neg e0]
  by_cases e1 : x = nI 1
  · rw [if_pos e1, e1]
    refine R_tableIn (off := 59) (tgt := 60) dX7_count_1 (by decide) (by decide) (by decide) rfl ?_
    refine R_aload_n (n := 61) dX7_count_60 rfl rfl ?_
    refine gf_X7_19 (n := 64) dX7_count_61 rfl ?_
    refine ge_X7_71 (n := 67) dX7_count_64 rfl (h.2.1.1) ?_
    refine R_iret dX7_count_67 rfl (rfl) (⟨rfl, Sme.rf _ _⟩)
  rw [if_neg e1]
  by_cases e2 : x = nI 2
  · rw [if_pos e2, e2]
    refine R_tableIn (off := 67) (tgt := 68) dX7_count_1 (by decide) (by decide) (by decide) rfl ?_
    refine R_aload_n (n := 69) dX7_count_68 rfl rfl ?_
    refine gf_X7_19 (n := 72) dX7_count_69 rfl ?_
    refine ge_X7_74 (n := 75) dX7_count_72 rfl (h.2.1.2.1) ?_
    refine R_iret dX7_count_75 rfl (rfl) (⟨rfl, Sme.rf _ _⟩)
  rw [if_neg e2]
  by_cases e3 : x = nI 3
  · rw [if_pos e3, e3]
    refine R_tableIn (off := 75) (tgt := 76) dX7_count_1 (by decide) (by decide) (by decide) rfl ?_
    refine R_aload_n (n := 77) dX7_count_76 rfl rfl ?_
    refine gf_X7_19 (n := 80) dX7_count_77 rfl ?_
    refine gf_X7_88 (n := 83) dX7_count_80 rfl ?_
    refine ge_X7_236 (n := 86) stB_6 dX7_count_83 rfl (hS.2.2.2.2.2.2) ?_
    refine R_iret dX7_count_86 rfl (rfl) (⟨rfl, Sme.rf _ _⟩)
  rw [if_neg e3]
  by_cases e4 : x = nI 4
  · rw [if_pos e4, e4]
    refine R_tableIn (off := 86) (tgt := 87) dX7_count_1 (by decide) (by decide) (by decide) rfl ?_
    refine R_aload_n (n := 88) dX7_count_87 rfl rfl ?_
    refine gf_X7_19 (n := 91) dX7_count_88 rfl ?_
    refine gf_X7_88 (n := 94) dX7_count_91 rfl ?_
    refine iv_X7_126 (n := 97) (ct_X5_figures stB_6 o1 hS.2.2.2.2.2.1 hS.1) stB_6 (by decide) dX7_count_94 rfl (Nat.le_of_ble_eq_true rfl) (fun r μ' hq => ?_)
    obtain ⟨rfl, hq⟩ := hq
    have hq := hq.symm
    subst hq
    refine R_iret dX7_count_97 rfl (rfl) (⟨rfl, Sme.rf _ _⟩)
  rw [if_neg e4]
  by_cases e5 : x = nI 5
  · rw [if_pos e5, e5]
    refine R_tableIn (off := 97) (tgt := 98) dX7_count_1 (by decide) (by decide) (by decide) rfl ?_
    refine R_aload_n (n := 99) dX7_count_98 rfl rfl ?_
    refine gf_X7_19 (n := 102) dX7_count_99 rfl ?_
    refine gf_X7_88 (n := 105) dX7_count_102 rfl ?_
    refine gf_X7_92 (n := 108) stB_6 dX7_count_105 rfl ?_
    refine R_aload_n (n := 109) dX7_count_108 rfl rfl ?_
    refine gf_X7_19 (n := 112) dX7_count_109 rfl ?_
    refine ge_X7_74 (n := 115) dX7_count_112 rfl (h.2.1.2.1) ?_
    refine iv_X7_250 (n := 118) (ct_X7_sum (id := 9) rfl o1 (by omega)) (by decide) dX7_count_115 rfl (Nat.le_of_ble_eq_true rfl) (fun r μ' hq => ?_)
    obtain ⟨rfl, hq⟩ := hq
    have hq := hq.symm
    subst hq
    refine R_iret dX7_count_118 rfl (rfl) (⟨congrArg (fun z => some (Value.int z)) (sm_congr (fun j hj => hS.2.2.1 j hj)), Sme.rf _ _⟩)
  rw [if_neg e5]
  by_cases e6 : x = nI 6
  · rw [if_pos e6, e6]
    refine R_tableIn (off := 118) (tgt := 119) dX7_count_1 (by decide) (by decide) (by decide) rfl ?_
    refine R_aload_n (n := 120) dX7_count_119 rfl rfl ?_
    refine gf_X7_19 (n := 123) dX7_count_120 rfl ?_
    refine gf_X7_88 (n := 126) dX7_count_123 rfl ?_
    refine gf_X7_254 (n := 129) stB_6 dX7_count_126 rfl ?_
    refine R_bipush (v := nI 30) (n := 131) dX7_count_129 rfl rfl ?_
    refine iv_X7_250 (n := 134) (ct_X7_sum (id := 11) rfl (Nat.le_refl 30) (by omega)) (by decide) dX7_count_131 rfl (Nat.le_of_ble_eq_true rfl) (fun r μ' hq => ?_)
    obtain ⟨rfl, hq⟩ := hq
    have hq := hq.symm
    subst hq
    refine R_iret dX7_count_134 rfl (rfl) (⟨congrArg (fun z => some (Value.int z)) (sm_congr (fun j hj => hS.2.2.2.2.1 j hj)), Sme.rf _ _⟩)
  rw [if_neg e6]
  by_cases e7 : x = nI 7
  · rw [if_pos e7, e7]
    refine R_tableIn (off := 134) (tgt := 135) dX7_count_1 (by decide) (by decide) (by decide) rfl ?_
    refine R_aload_n (n := 136) dX7_count_135 rfl rfl ?_
    refine gf_X7_26 (n := 139) dX7_count_136 rfl ?_
    refine ge_X7_140 (n := 142) dX7_count_139 rfl (h.2.2.2.1.2.1) ?_
    refine R_iret dX7_count_142 rfl (rfl) (⟨rfl, Sme.rf _ _⟩)
  rw [if_neg e7]
  by_cases e8 : x = nI 8
  · rw [if_pos e8, e8]
    refine R_tableIn (off := 142) (tgt := 143) dX7_count_1 (by decide) (by decide) (by decide) rfl ?_
    refine R_aload_n (n := 144) dX7_count_143 rfl rfl ?_
    refine gf_X7_19 (n := 147) dX7_count_144 rfl ?_
    refine iv_X7_146 (n := 150) (ct_X1_atBasin h.2.1 hS w.1.1) (by decide) dX7_count_147 rfl (Nat.le_of_ble_eq_true rfl) (fun r μ' hq => ?_)
    obtain ⟨rfl, b1, b2⟩ := hq
    have hO2 := ok_gos ((gC σ).2.1 - sPsd (gS σ)) (gS σ) w.1.1 (by omega)
    refine iv_X7_257 (n := 153) (ct_X5_greatestHour stB_12 o1 b1.2.2.2.2.2.1 b1.1 (fun p hp => Nat.lt_of_lt_of_le (hO2.2.2.2.1 p hp) o1)) stB_12 (by decide) dX7_count_150 rfl (Nat.le_of_ble_eq_true rfl) (fun r μ' hq => ?_)
    obtain ⟨rfl, hq⟩ := hq
    have hq := hq.symm
    subst hq
    refine R_iret dX7_count_153 rfl rfl ⟨congrArg (fun z => some (Value.int z)) (gH_congr (fun p hp => ?_)), b2.mono (fun i j z => Or.inl z)⟩
    exact b1.2.1 _ (Nat.lt_of_lt_of_le (hO2.2.2.2.1 p hp) o1)
  rw [if_neg e8]
  refine R_tableOut (tgt := 154) dX7_count_1 (tbl_out (n := 8) (by omega) (fun k hk z => by rcases (show k = 0 ∨ k = 1 ∨ k = 2 ∨ k = 3 ∨ k = 4 ∨ k = 5 ∨ k = 6 ∨ k = 7 ∨ k = 8 by omega) with q | q | q | q | q | q | q | q | q <;> subst q <;> contradiction)) rfl ?_
  refine R_bipush (v := -2) (n := 156) dX7_count_154 rfl rfl ?_
  refine R_iret dX7_count_156 rfl (rfl) (⟨rfl, Sme.rf _ _⟩)
end PR

