/-! TEA -/
def addE (S : ST) (e : Nat) (x : Int32) : ST := mkS (sRow S) (sHrs S) (sTea S) (sLaw S) (fun i => if i = e then sGvn S i + x else sGvn S i) (sPsd S)
def addG (S : ST) (g : Nat) : ST := addE S (g % 10 * 6 + g / 10) (nI 1)
def addO (S : ST) : Option Nat → ST
  | none => S
  | some g => addG S g
def gI : Option Nat → Int32
  | none => -1
  | some g => nI g
def canG (C : CF) (S : ST) (g : Nat) : Bool := decide (g / 10 < C.1) && (decide (g % 10 < C.2.1) && (!decide (g % 10 < sPsd S) && decide (0 < sTea S (g / 10))))
def canB (C : CF) (S : ST) (g h : Nat) : Bool := canG C S g && (canG C S h && (!decide (g / 10 = h / 10) || decide (1 < sTea S (g / 10))))
def srch (p : Nat → Bool) : Nat → Nat → Option Nat
  | 0, _ => none
  | f + 1, k => if p k = true then some k else srch p f (k + 1)
def srch2 (c : Nat → Bool) (q : Nat → Nat → Bool) : Nat → Nat → Option Nat
  | 0, _ => none
  | f + 1, g => match (if c g = true then srch (q g) (60 - g) g else none) with
    | some h => some (10000 + 100 * g + h)
    | none => srch2 c q f (g + 1)
def teaN (C : CF) (S : ST) (one other : Nat) : Option Nat := if suF C S one other = true then some 1 else
  match srch (fun g => canG C S g && suF C (addG S g) one other) 60 0 with
  | some g => some (100 + g)
  | none => srch2 (canG C S) (fun g h => canB C S g h && suF C (addG (addG S g) h) one other) 60 0
theorem canG_lt {C : CF} {S : ST} {g : Nat} (h : canG C S g = true) : g / 10 < C.1 ∧ g % 10 < C.2.1 ∧ sPsd S ≤ g % 10 ∧ 0 < sTea S (g / 10) := by
  rw [canG, Bool.and_eq_true, Bool.and_eq_true, Bool.and_eq_true] at h
  exact ⟨of_decide_eq_true h.1, of_decide_eq_true h.2.1, by have := h.2.2.1; simp at this; exact this, of_decide_eq_true h.2.2.2⟩
section TE
variable {G : Gm} {l : Launch} {μ : Mem} {C : CF} {S : ST}
theorem cst_add {z j k : Nat} {T : ST} {x : Int32} (h : CSt μ 12 z C T) (hj : j < 6) (hk : k < 5) : CSt (sti μ 17 (k * 6 + j) (μ.1 17 (k * 6 + j) + x)) 12 z C (addE T (k * 6 + j) x) := by
  obtain ⟨t1, t2, t3, t4, t5, t6, t7⟩ := h
  refine ⟨fun p hp => ?_, fun p hp => ?_, fun p hp => ?_, fun p hp => ?_, fun e he => ?_, ?_, ?_⟩
  · rw [sti_1_ne _ _ _ (by omega)]; exact t1 p hp
  · rw [sti_1_ne _ _ _ (by omega)]; exact t2 p hp
  · rw [sti_1_ne _ _ _ (by omega)]; exact t3 p hp
  · rw [sti_1_ne _ _ _ (by omega)]; exact t4 p hp
  · rw [sti_1]
    show _ = if e = k * 6 + j then sGvn T e + x else sGvn T e
    by_cases q : e = k * 6 + j
    · subst q; rw [if_pos ⟨rfl, rfl⟩, if_pos rfl, t5 _ (by omega)]
    · rw [if_neg (fun z => q z.2), if_neg q]; exact t5 e he
  · rw [sti_1_ne _ _ _ (by omega)]; exact t6
  · rw [sti_1_ne _ _ _ (by omega)]; exact t7
theorem ok_addE {z e : Nat} {x : Int32} {T : ST} (h : Ok C z T) : Ok C z (addE T e x) := h
theorem ct_X3_howManyLoads {m : Nat} (hm : m < 2 ^ 31) : Ct G l 1 yX3_howManyLoads cX3_howManyLoads 2 (some .int) [.ref (G.2.2.1 119), .int (nI m)] μ (fun r μ' => r = some (.int (if m < 100 then nI 0 else if m < 10000 then nI 1 else nI 2)) ∧ μ' = μ) := by
  refine Ct.of 0 (by decide +kernel) rfl (Nat.le_of_ble_eq_true rfl) ?_
  show V G l RX3 cX3_howManyLoads 2 _ false _ _ 0 [some (.ref _), some (.int _)] [] _
  refine R_iload_n (n := 1) dX3_howManyLoads_0 rfl rfl ?_
  refine R_bipush (v := nI 100) (n := 3) dX3_howManyLoads_1 rfl rfl ?_
  refine R_icmp_ge (n := 6) (tgt := 10) dX3_howManyLoads_3 rfl rfl (fun h => ?_) (fun h => ?_)
  · rw [nI_leI (by omega) (by omega)] at h
    refine R_iload_n (n := 11) dX3_howManyLoads_10 rfl rfl ?_
    refine R_sipush (v := nI 10000) (n := 14) dX3_howManyLoads_11 rfl rfl ?_
    refine R_icmp_ge (n := 17) (tgt := 21) dX3_howManyLoads_14 rfl rfl (fun h2 => ?_) (fun h2 => ?_)
    · rw [nI_leI (by omega) (by omega)] at h2
      refine R_iconst (v := nI 2) (n := 22) dX3_howManyLoads_21 rfl rfl ?_
      refine R_iret dX3_howManyLoads_22 rfl (rfl) (⟨by rw [if_neg (by omega), if_neg (by omega)], rfl⟩)
    · rw [nI_leI (by omega) (by omega)] at h2
      refine R_iconst (v := nI 1) (n := 18) dX3_howManyLoads_17 rfl rfl ?_
      refine R_goto (tgt := 22) dX3_howManyLoads_18 rfl ?_
      refine R_iret dX3_howManyLoads_22 rfl (rfl) (⟨by rw [if_neg (by omega), if_pos (by omega)], rfl⟩)
  · rw [nI_leI (by omega) (by omega)] at h
    refine R_iconst (v := nI 0) (n := 7) dX3_howManyLoads_6 rfl rfl ?_
    refine R_goto (tgt := 22) dX3_howManyLoads_7 rfl ?_
    refine R_iret dX3_howManyLoads_22 rfl (rfl) (⟨by rw [if_pos (by omega)], rfl⟩)
theorem ct_X3_canGive {g : Nat} (hQ : Qc μ C S) (ht : ∀ j, j < C.1 → sTea S j < 2 ^ 31) (hg : g < 100) : Ct G l 2 yX3_canGive cX3_canGive 5 (some .boolean) [.ref (G.2.2.1 119), .ref (G.2.2.1 3), .int (nI g)] μ (fun r μ' => r = some (.int (bi (canG C S g))) ∧ μ' = μ) := by
  obtain ⟨hC, hS, hO, hP⟩ := hQ
  obtain ⟨o1, o2, o3, o4, o5, o6⟩ := hO
  refine Ct.of 2 (by decide +kernel) rfl (Nat.le_of_ble_eq_true rfl) ?_
  show V G l RX3 cX3_canGive 5 _ false _ _ 0 [some (.ref _), some (.ref _), some (.int _), none, none] [] _
  refine R_iload_n (n := 1) dX3_canGive_0 rfl rfl ?_
  refine R_bipush (v := nI 10) (n := 3) dX3_canGive_1 rfl rfl ?_
  refine R_idiv_n (n := 4) dX3_canGive_3 (by omega) (by omega) (by omega) rfl ?_
  refine R_istore_n (n := 5) dX3_canGive_4 rfl (Nat.le_of_ble_eq_true rfl) (Nat.le_of_ble_eq_true rfl) ?_
  refine R_iload_n (n := 6) dX3_canGive_5 rfl rfl ?_
  refine R_bipush (v := nI 10) (n := 8) dX3_canGive_6 rfl rfl ?_
  refine R_irem_n (n := 9) dX3_canGive_8 (by omega) (by omega) (by omega) rfl ?_
  refine R_istore (n := 11) dX3_canGive_9 rfl (Nat.le_of_ble_eq_true rfl) (Nat.le_of_ble_eq_true rfl) ?_
  refine R_aload_n (n := 12) dX3_canGive_11 rfl rfl ?_
  refine R_iload_n (n := 13) dX3_canGive_12 rfl rfl ?_
  refine iv_X3_95 (n := 16) (ct_X1_hasBarge (nI (g / 10)) hC.2.1) (by decide) dX3_canGive_13 rfl (Nat.le_of_ble_eq_true rfl) (fun r μ' hq => ?_)
  obtain ⟨rfl, hq⟩ := hq
  have hq := hq.symm
  subst hq
  by_cases h1 : g / 10 < C.1
  · rw [inR_nI (by omega) h1]
    refine R_if_eq_f (n := 19) dX3_canGive_16 rfl rfl (by decide) ?_
    refine R_aload_n (n := 20) dX3_canGive_19 rfl rfl ?_
    refine R_iload (n := 22) dX3_canGive_20 rfl rfl ?_
    refine iv_X3_99 (n := 25) (ct_X1_hasLock (nI (g % 10)) hC.1) (by decide) dX3_canGive_22 rfl (Nat.le_of_ble_eq_true rfl) (fun r μ' hq => ?_)
    obtain ⟨rfl, hq⟩ := hq
    have hq := hq.symm
    subst hq
    by_cases h2 : g % 10 < C.2.1
    · rw [inR_nI (by omega) h2]
      refine R_if_eq_f (n := 28) dX3_canGive_25 rfl rfl (by decide) ?_
      refine R_aload_n (n := 29) dX3_canGive_28 rfl rfl ?_
      refine R_iload (n := 31) dX3_canGive_29 rfl rfl ?_
      refine iv_X3_102 (n := 34) (ct_X1_isPassed (by omega) (by omega) hS.2.2.2.2.2.2) (by decide) dX3_canGive_31 rfl (Nat.le_of_ble_eq_true rfl) (fun r μ' hq => ?_)
      obtain ⟨rfl, hq⟩ := hq
      have hq := hq.symm
      subst hq
      by_cases h3 : g % 10 < sPsd S
      · rw [decide_eq_true h3]
        refine R_if_ne_t (tgt := 53) dX3_canGive_34 rfl (by decide) ?_
        refine R_iconst (v := nI 0) (n := 54) dX3_canGive_53 rfl rfl ?_
        refine R_iret dX3_canGive_54 rfl (by first | rfl | exact nar_bi _) (⟨by rw [canG, decide_eq_true h1, decide_eq_true h2, decide_eq_true h3]; rfl, rfl⟩)
      · rw [decide_eq_false h3]
        refine R_if_ne_f (n := 37) dX3_canGive_34 rfl rfl (by decide) ?_
        refine R_aload_n (n := 38) dX3_canGive_37 rfl rfl ?_
        refine gf_X3_105 (n := 41) dX3_canGive_38 rfl ?_
        refine gf_X3_109 (n := 44) stB_6 dX3_canGive_41 rfl ?_
        refine R_iload_n (n := 45) dX3_canGive_44 rfl rfl ?_
        refine R_iald_e (n := 46) stB_6.2.2.2.1 (rfl) (by omega) dX3_canGive_45 rfl (hS.2.2.1 _ h1) ?_
        have h4 := ht _ h1
        by_cases h5 : 0 < sTea S (g / 10)
        · refine R_if_le_f (n := 49) dX3_canGive_46 rfl rfl (nI_nle h5 h4) ?_
          refine R_iconst (v := nI 1) (n := 50) dX3_canGive_49 rfl rfl ?_
          refine R_goto (tgt := 54) dX3_canGive_50 rfl ?_
          refine R_iret dX3_canGive_54 rfl (by first | rfl | exact nar_bi _) (⟨by rw [canG, decide_eq_true h1, decide_eq_true h2, decide_eq_false h3, decide_eq_true h5]; rfl, rfl⟩)
        · refine R_if_le_t (tgt := 53) dX3_canGive_46 rfl (by rw [show sTea S (g / 10) = 0 by omega]; decide) ?_
          refine R_iconst (v := nI 0) (n := 54) dX3_canGive_53 rfl rfl ?_
          refine R_iret dX3_canGive_54 rfl (by first | rfl | exact nar_bi _) (⟨by rw [canG, decide_eq_true h1, decide_eq_true h2, decide_eq_false h3, decide_eq_false h5]; rfl, rfl⟩)
    · rw [inR_nI' (by omega) (by omega) (by omega)]
      refine R_if_eq_t (tgt := 53) dX3_canGive_25 rfl (by decide) ?_
      refine R_iconst (v := nI 0) (n := 54) dX3_canGive_53 rfl rfl ?_
      refine R_iret dX3_canGive_54 rfl (by first | rfl | exact nar_bi _) (⟨by rw [canG, decide_eq_true h1, decide_eq_false h2]; rfl, rfl⟩)
  · rw [inR_nI' (by omega) (by omega) (by omega)]
    refine R_if_eq_t (tgt := 53) dX3_canGive_16 rfl (by decide) ?_
    refine R_iconst (v := nI 0) (n := 54) dX3_canGive_53 rfl rfl ?_
    refine R_iret dX3_canGive_54 rfl (by first | rfl | exact nar_bi _) (⟨by rw [canG, decide_eq_false h1]; rfl, rfl⟩)
theorem ct_X3_canGiveBoth {g h : Nat} (hQ : Qc μ C S) (ht : ∀ j, j < C.1 → sTea S j < 2 ^ 31) (hg : g < 100) (hh : h < 100) : Ct G l 3 yX3_canGiveBoth cX3_canGiveBoth 4 (some .boolean) [.ref (G.2.2.1 119), .ref (G.2.2.1 3), .int (nI g), .int (nI h)] μ (fun r μ' => r = some (.int (bi (canB C S g h))) ∧ μ' = μ) := by
  have hn6 := hQ.2.2.1.1
  refine Ct.of 0 (by decide +kernel) rfl (Nat.le_of_ble_eq_true rfl) ?_
  show V G l RX3 cX3_canGiveBoth 4 _ false _ _ 0 [some (.ref _), some (.ref _), some (.int _), some (.int _)] [] _
  refine R_aload_n (n := 1) dX3_canGiveBoth_0 rfl rfl ?_
  refine R_aload_n (n := 2) dX3_canGiveBoth_1 rfl rfl ?_
  refine R_iload_n (n := 3) dX3_canGiveBoth_2 rfl rfl ?_
  refine iv_X3_87 (n := 6) (ct_X3_canGive hQ ht hg) (by decide) dX3_canGiveBoth_3 rfl (Nat.le_of_ble_eq_true rfl) (fun r μ' hq => ?_)
  obtain ⟨rfl, hq⟩ := hq
  have hq := hq.symm
  subst hq
  cases h1 : canG C S g with
  | false =>
    refine R_if_eq_t (tgt := 49) dX3_canGiveBoth_6 rfl (by decide) ?_
    refine R_iconst (v := nI 0) (n := 50) dX3_canGiveBoth_49 rfl rfl ?_
    refine R_iret dX3_canGiveBoth_50 rfl (by first | rfl | exact nar_bi _) (⟨by rw [canB, h1]; rfl, rfl⟩)
  | true =>
    refine R_if_eq_f (n := 9) dX3_canGiveBoth_6 rfl rfl (by decide) ?_
    refine R_aload_n (n := 10) dX3_canGiveBoth_9 rfl rfl ?_
    refine R_aload_n (n := 11) dX3_canGiveBoth_10 rfl rfl ?_
    refine R_iload_n (n := 12) dX3_canGiveBoth_11 rfl rfl ?_
    refine iv_X3_87 (n := 15) (ct_X3_canGive hQ ht hh) (by decide) dX3_canGiveBoth_12 rfl (Nat.le_of_ble_eq_true rfl) (fun r μ' hq => ?_)
    obtain ⟨rfl, hq⟩ := hq
    have hq := hq.symm
    subst hq
    cases h2 : canG C S h with
    | false =>
      refine R_if_eq_t (tgt := 49) dX3_canGiveBoth_15 rfl (by decide) ?_
      refine R_iconst (v := nI 0) (n := 50) dX3_canGiveBoth_49 rfl rfl ?_
      refine R_iret dX3_canGiveBoth_50 rfl (by first | rfl | exact nar_bi _) (⟨by rw [canB, h1, h2]; rfl, rfl⟩)
    | true =>
      refine R_if_eq_f (n := 18) dX3_canGiveBoth_15 rfl rfl (by decide) ?_
      obtain ⟨l1, l2, l3, l4⟩ := canG_lt h1
      have h4 := ht _ l1
      refine R_iload_n (n := 19) dX3_canGiveBoth_18 rfl rfl ?_
      refine R_bipush (v := nI 10) (n := 21) dX3_canGiveBoth_19 rfl rfl ?_
      refine R_idiv_n (n := 22) dX3_canGiveBoth_21 (by omega) (by omega) (by omega) rfl ?_
      refine R_iload_n (n := 23) dX3_canGiveBoth_22 rfl rfl ?_
      refine R_bipush (v := nI 10) (n := 25) dX3_canGiveBoth_23 rfl rfl ?_
      refine R_idiv_n (n := 26) dX3_canGiveBoth_25 (by omega) (by omega) (by omega) rfl ?_
      by_cases h3 : g / 10 = h / 10
      · refine R_icmp_ne_f (n := 29) dX3_canGiveBoth_26 rfl rfl (congrArg nI h3) ?_
        refine R_aload_n (n := 30) dX3_canGiveBoth_29 rfl rfl ?_
        refine gf_X3_105 (n := 33) dX3_canGiveBoth_30 rfl ?_
        refine gf_X3_109 (n := 36) stB_6 dX3_canGiveBoth_33 rfl ?_
        refine R_iload_n (n := 37) dX3_canGiveBoth_36 rfl rfl ?_
        refine R_bipush (v := nI 10) (n := 39) dX3_canGiveBoth_37 rfl rfl ?_
        refine R_idiv_n (n := 40) dX3_canGiveBoth_39 (by omega) (by omega) (by omega) rfl ?_
        refine R_iald_e (n := 41) stB_6.2.2.2.1 (rfl) (by omega) dX3_canGiveBoth_40 rfl (hQ.2.1.2.2.1 _ l1) ?_
        refine R_iconst (v := nI 1) (n := 42) dX3_canGiveBoth_41 rfl rfl ?_
        by_cases h5 : 1 < sTea S (g / 10)
        · refine R_icmp_le_f (n := 45) dX3_canGiveBoth_42 rfl rfl (by rw [nI_leI (by omega) (by omega)]; omega) ?_
          refine R_iconst (v := nI 1) (n := 46) dX3_canGiveBoth_45 rfl rfl ?_
          refine R_goto (tgt := 50) dX3_canGiveBoth_46 rfl ?_
          refine R_iret dX3_canGiveBoth_50 rfl (by first | rfl | exact nar_bi _) (⟨by rw [canB, h1, h2, decide_eq_true h3, decide_eq_true h5]; rfl, rfl⟩)
        · refine R_icmp_le_t (tgt := 49) dX3_canGiveBoth_42 rfl (by rw [nI_leI (by omega) (by omega)]; omega) ?_
          refine R_iconst (v := nI 0) (n := 50) dX3_canGiveBoth_49 rfl rfl ?_
          refine R_iret dX3_canGiveBoth_50 rfl (by first | rfl | exact nar_bi _) (⟨by rw [canB, h1, h2, decide_eq_true h3, decide_eq_false h5]; rfl, rfl⟩)
      · refine R_icmp_ne_t (tgt := 45) dX3_canGiveBoth_26 rfl (by rw [nI_eq (by omega) (by omega)]; omega) ?_
        refine R_iconst (v := nI 1) (n := 46) dX3_canGiveBoth_45 rfl rfl ?_
        refine R_goto (tgt := 50) dX3_canGiveBoth_46 rfl ?_
        refine R_iret dX3_canGiveBoth_50 rfl (by first | rfl | exact nar_bi _) (⟨by rw [canB, h1, h2, decide_eq_false h3]; rfl, rfl⟩)
theorem ct_X3_suitsWith {one other : Nat} {gift next : Option Nat} (hQ : Qc μ C S) (h1 : one < C.1) (h2 : other < C.1) (hg : ∀ g, gift = some g → g < 100 ∧ g / 10 < C.1 ∧ g % 10 < C.2.1) (hn : ∀ g, next = some g → g < 100 ∧ g / 10 < C.1 ∧ g % 10 < C.2.1) : Ct G l 6 yX3_suitsWith cX3_suitsWith 7 (some .boolean) [.ref (G.2.2.1 119), .ref (G.2.2.1 3), .int (nI one), .int (nI other), .int (gI gift), .int (gI next)] μ (fun r μ' => r = some (.int (bi (suF C (addO (addO S gift) next) one other))) ∧ Sme Ptr μ μ') := by
  obtain ⟨hC, hS, hO, hP⟩ := hQ
  obtain ⟨o1, o2, o3, o4, o5, o6⟩ := id hO
  have H1 : ∀ g, g < 100 → ¬ nI g = -1 := by decide +kernel
  refine Ct.of 1 (by decide +kernel) rfl (Nat.le_of_ble_eq_true rfl) ?_
  show V G l RX3 cX3_suitsWith 7 _ false _ _ 0 [some (.ref _), some (.ref _), some (.int _), some (.int _), some (.int _), some (.int _), none] [] _
  refine R_aload_n (n := 1) dX3_suitsWith_0 rfl rfl ?_
  refine iv_X3_18 (n := 4) (ct_X1_newTrial) (by decide) dX3_suitsWith_1 rfl (Nat.le_of_ble_eq_true rfl) (fun r μ' hq => ?_)
  obtain ⟨rfl, c1, c2⟩ := hq
  have hT := cst_cpy o2 o1 (by omega) hS c1
  refine R_astore (n := 6) dX3_suitsWith_4 rfl (Nat.le_of_ble_eq_true rfl) (Nat.le_of_ble_eq_true rfl) ?_
  refine R_iload (n := 8) dX3_suitsWith_6 rfl rfl ?_
  refine R_iconst (v := -1) (n := 9) dX3_suitsWith_8 rfl rfl ?_
  have fin : ∀ (T : ST) (μ1 : Mem), CSt μ1 12 C.1 C T → Ok C C.1 T → Sme Ptr μ μ1 → addO (addO S gift) next = T → V G l RX3 cX3_suitsWith 7 6 false (some .boolean) (fun r μ' => r = some (.int (bi (suF C (addO (addO S gift) next) one other))) ∧ Sme Ptr μ μ') 50 [some (.ref (G.2.2.1 119)), some (.ref (G.2.2.1 3)), some (.int (nI one)), some (.int (nI other)), some (.int (gI gift)), some (.int (gI next)), some (.ref (G.2.2.1 12))] [] μ1 := by
    intro T μ1 a1 a2 a3 a4
    refine R_aload_n (n := 51) dX3_suitsWith_50 rfl rfl ?_
    refine R_aload_n (n := 52) dX3_suitsWith_51 rfl rfl ?_
    refine R_aload (n := 54) dX3_suitsWith_52 rfl rfl ?_
    refine R_iload_n (n := 55) dX3_suitsWith_54 rfl rfl ?_
    refine R_iload_n (n := 56) dX3_suitsWith_55 rfl rfl ?_
    refine iv_X3_63 (n := 59) (ct_X3_suits (hC.kept a3 (by omega) (by omega) (fun j => by omega) (fun j => by omega)) a1 a2 h1 h2) (by decide) dX3_suitsWith_56 rfl (Nat.le_of_ble_eq_true rfl) (fun r μ' hq => ?_)
    obtain ⟨rfl, s1⟩ := hq
    refine R_iret dX3_suitsWith_59 rfl (by first | rfl | exact nar_bi _) (⟨by rw [a4], a3.tr s1⟩)
  have mid : ∀ (T : ST) (μ1 : Mem), CSt μ1 12 C.1 C T → Ok C C.1 T → Sme Ptr μ μ1 → addO S gift = T → V G l RX3 cX3_suitsWith 7 6 false (some .boolean) (fun r μ' => r = some (.int (bi (suF C (addO (addO S gift) next) one other))) ∧ Sme Ptr μ μ') 28 [some (.ref (G.2.2.1 119)), some (.ref (G.2.2.1 3)), some (.int (nI one)), some (.int (nI other)), some (.int (gI gift)), some (.int (gI next)), some (.ref (G.2.2.1 12))] [] μ1 := by
    intro T μ1 a1 a2 a3 a4
    cases next with
    | none =>
      refine R_iload (n := 30) dX3_suitsWith_28 rfl rfl ?_
      refine R_iconst (v := -1) (n := 31) dX3_suitsWith_30 rfl rfl ?_
      refine R_icmp_eq_t (tgt := 50) dX3_suitsWith_31 rfl (rfl) ?_
      exact fin T μ1 a1 a2 a3 a4
    | some g =>
      obtain ⟨g1, g2, g3⟩ := hn g rfl
      refine R_iload (n := 30) dX3_suitsWith_28 rfl rfl ?_
      refine R_iconst (v := -1) (n := 31) dX3_suitsWith_30 rfl rfl ?_
      refine R_icmp_eq_f (n := 34) dX3_suitsWith_31 rfl rfl (H1 g g1) ?_
      show V G l RX3 cX3_suitsWith 7 6 false (some .boolean) _ 34 [some (.ref (G.2.2.1 119)), some (.ref (G.2.2.1 3)), some (.int (nI one)), some (.int (nI other)), some (.int (gI gift)), some (.int (nI g)), some (.ref (G.2.2.1 12))] [] μ1
      refine R_aload (n := 36) dX3_suitsWith_34 rfl rfl ?_
      refine R_iload (n := 38) dX3_suitsWith_36 rfl rfl ?_
      refine R_bipush (v := nI 10) (n := 40) dX3_suitsWith_38 rfl rfl ?_
      refine R_idiv_n (n := 41) dX3_suitsWith_40 (by omega) (by omega) (by omega) rfl ?_
      refine R_iload (n := 43) dX3_suitsWith_41 rfl rfl ?_
      refine R_bipush (v := nI 10) (n := 45) dX3_suitsWith_43 rfl rfl ?_
      refine R_irem_n (n := 46) dX3_suitsWith_45 (by omega) (by omega) (by omega) rfl ?_
      refine R_iconst (v := nI 1) (n := 47) dX3_suitsWith_46 rfl rfl ?_
      refine iv_X3_112 (n := 50) (ct_X5_addLoads stB_12 (by omega) (by omega) (nI 1)) stB_12 (by decide) dX3_suitsWith_47 rfl (Nat.le_of_ble_eq_true rfl) (fun r μ' hq => ?_)
      obtain ⟨rfl, rfl⟩ := hq
      exact fin (addG T g) _ (cst_add a1 (by omega) (by omega)) (ok_addE a2) (a3.sti (by omega)) (by rw [a4]; rfl)
  cases gift with
  | none =>
    refine R_icmp_eq_t (tgt := 28) dX3_suitsWith_9 rfl (rfl) ?_
    exact mid S _ hT hO c2 rfl
  | some g =>
    obtain ⟨g1, g2, g3⟩ := hg g rfl
    refine R_icmp_eq_f (n := 12) dX3_suitsWith_9 rfl rfl (H1 g g1) ?_
    show V G l RX3 cX3_suitsWith 7 6 false (some .boolean) _ 12 [some (.ref (G.2.2.1 119)), some (.ref (G.2.2.1 3)), some (.int (nI one)), some (.int (nI other)), some (.int (nI g)), some (.int (gI next)), some (.ref (G.2.2.1 12))] [] _
    refine R_aload (n := 14) dX3_suitsWith_12 rfl rfl ?_
    refine R_iload (n := 16) dX3_suitsWith_14 rfl rfl ?_
    refine R_bipush (v := nI 10) (n := 18) dX3_suitsWith_16 rfl rfl ?_
    refine R_idiv_n (n := 19) dX3_suitsWith_18 (by omega) (by omega) (by omega) rfl ?_
    refine R_iload (n := 21) dX3_suitsWith_19 rfl rfl ?_
    refine R_bipush (v := nI 10) (n := 23) dX3_suitsWith_21 rfl rfl ?_
    refine R_irem_n (n := 24) dX3_suitsWith_23 (by omega) (by omega) (by omega) rfl ?_
    refine R_iconst (v := nI 1) (n := 25) dX3_suitsWith_24 rfl rfl ?_
    refine iv_X3_112 (n := 28) (ct_X5_addLoads stB_12 (by omega) (by omega) (nI 1)) stB_12 (by decide) dX3_suitsWith_25 rfl (Nat.le_of_ble_eq_true rfl) (fun r μ' hq => ?_)
    obtain ⟨rfl, rfl⟩ := hq
    exact mid (addG S g) _ (cst_add hT (by omega) (by omega)) (ok_addE hO) (c2.sti (by omega)) rfl
theorem ct_X3_leastLoads {one other : Nat} (hQ : Qc μ C S) (ht : ∀ j, j < C.1 → sTea S j < 2 ^ 31) (h1 : one < C.1) (h2 : other < C.1) : Ct G l 7 yX3_leastLoads cX3_leastLoads 6 (some .int) [.ref (G.2.2.1 119), .ref (G.2.2.1 3), .int (nI one), .int (nI other)] μ (fun r μ' => r = some (.int (oI (teaN C S one other))) ∧ Sme Ptr μ μ') := by
  generalize hR : teaN C S one other = R
  refine Ct.of 2 (by decide +kernel) rfl (Nat.le_of_ble_eq_true rfl) ?_
  show V G l RX3 cX3_leastLoads 6 _ false _ _ 0 [some (.ref _), some (.ref _), some (.int _), some (.int _), none, none] [] _
  refine R_aload_n (n := 1) dX3_leastLoads_0 rfl rfl ?_
  refine R_aload_n (n := 2) dX3_leastLoads_1 rfl rfl ?_
  refine R_iload_n (n := 3) dX3_leastLoads_2 rfl rfl ?_
  refine R_iload_n (n := 4) dX3_leastLoads_3 rfl rfl ?_
  refine R_iconst (v := -1) (n := 5) dX3_leastLoads_4 rfl rfl ?_
  refine R_iconst (v := -1) (n := 6) dX3_leastLoads_5 rfl rfl ?_
  refine iv_X3_83 (n := 9) (ct_X3_suitsWith (gift := none) (next := none) hQ h1 h2 (fun g z => by cases z) (fun g z => by cases z)) (by decide) dX3_leastLoads_6 rfl (Nat.le_of_ble_eq_true rfl) (fun r μ' hq => ?_)
  obtain ⟨rfl, s1⟩ := hq
  rw [teaN] at hR
  rw [show addO (addO S none) none = S from rfl]
  cases hs0 : suF C S one other with
  | true =>
    rw [if_pos hs0] at hR
    refine R_if_eq_f (n := 12) dX3_leastLoads_9 rfl rfl (by decide) ?_
    refine R_iconst (v := nI 1) (n := 13) dX3_leastLoads_12 rfl rfl ?_
    refine R_iret dX3_leastLoads_13 rfl (rfl) (⟨by rw [← hR]; rfl, s1⟩)
  | false =>
    rw [if_neg (by rw [hs0]; decide)] at hR
    refine R_if_eq_t (tgt := 14) dX3_leastLoads_9 rfl (by decide) ?_
    refine R_iconst (v := nI 0) (n := 15) dX3_leastLoads_14 rfl rfl ?_
    refine R_istore (n := 17) dX3_leastLoads_15 rfl (Nat.le_of_ble_eq_true rfl) (Nat.le_of_ble_eq_true rfl) ?_
    have outer : ∀ (f g : Nat) (μ1 : Mem) (j5 : Option Value), g + f = 60 → Sme Ptr μ μ1 → srch2 (canG C S) (fun g h => canB C S g h && suF C (addG (addG S g) h) one other) f g = R → V G l RX3 cX3_leastLoads 6 7 false (some .int) (fun r μ' => r = some (.int (oI R)) ∧ Sme Ptr μ μ') 62 [some (.ref (G.2.2.1 119)), some (.ref (G.2.2.1 3)), some (.int (nI one)), some (.int (nI other)), some (.int (nI g)), j5] [] μ1 := by
      intro f
      induction f with
      | zero =>
        intro g μ1 j5 a1 a2 a3
        refine R_iload (n := 64) dX3_leastLoads_62 rfl rfl ?_
        refine R_bipush (v := nI 60) (n := 66) dX3_leastLoads_64 rfl rfl ?_
        refine R_icmp_ge_t (tgt := 141) dX3_leastLoads_66 rfl (by rw [nI_leI (by omega) (by omega)]; omega) ?_
        refine R_bipush (v := -9) (n := 143) dX3_leastLoads_141 rfl rfl ?_
        refine R_iret dX3_leastLoads_143 rfl (rfl) (⟨by rw [← a3]; rfl, a2⟩)
      | succ f ih =>
        intro g μ1 j5 a1 a2 a3
        rw [srch2] at a3
        refine R_iload (n := 64) dX3_leastLoads_62 rfl rfl ?_
        refine R_bipush (v := nI 60) (n := 66) dX3_leastLoads_64 rfl rfl ?_
        refine R_icmp_ge_f (n := 69) dX3_leastLoads_66 rfl rfl (by rw [nI_leI (by omega) (by omega)]; omega) ?_
        refine R_iload (n := 71) dX3_leastLoads_69 rfl rfl ?_
        refine R_istore (n := 73) dX3_leastLoads_71 rfl (Nat.le_of_ble_eq_true rfl) (Nat.le_of_ble_eq_true rfl) ?_
        have tail : ∀ (μ2 : Mem) (j5 : Option Value), Sme Ptr μ μ2 → srch2 (canG C S) (fun g h => canB C S g h && suF C (addG (addG S g) h) one other) f (g + 1) = R → V G l RX3 cX3_leastLoads 6 7 false (some .int) (fun r μ' => r = some (.int (oI R)) ∧ Sme Ptr μ μ') 135 [some (.ref (G.2.2.1 119)), some (.ref (G.2.2.1 3)), some (.int (nI one)), some (.int (nI other)), some (.int (nI g)), j5] [] μ2 := by
          intro μ2 j5 b1 b2
          refine R_iinc (n := 138) dX3_leastLoads_135 rfl rfl (nI_1 _) (Nat.le_of_ble_eq_true rfl) ?_
          refine R_goto (tgt := 62) dX3_leastLoads_138 rfl ?_
          exact ih (g + 1) μ2 _ (by omega) b1 b2
        cases hcg : canG C S g with
        | false =>
          rw [if_neg (by rw [hcg]; decide)] at a3
          refine R_aload_n (n := 74) dX3_leastLoads_73 rfl rfl ?_
          refine R_aload_n (n := 75) dX3_leastLoads_74 rfl rfl ?_
          refine R_iload (n := 77) dX3_leastLoads_75 rfl rfl ?_
          refine iv_X3_87 (n := 80) (ct_X3_canGive (hQ.kept a2 (fun i j z1 z2 => by omega)) ht (by omega)) (by decide) dX3_leastLoads_77 rfl (Nat.le_of_ble_eq_true rfl) (fun r μ' hq => ?_)
          obtain ⟨rfl, hq⟩ := hq
          have hq := hq.symm
          subst hq
          rw [hcg]
          refine R_if_eq_t (tgt := 135) dX3_leastLoads_80 rfl (by decide) ?_
          exact tail μ1 _ a2 a3
        | true =>
          rw [if_pos hcg] at a3
          have inner : ∀ (f' h : Nat) (μ2 : Mem), h + f' = 60 → Sme Ptr μ μ2 → srch (fun h => canB C S g h && suF C (addG (addG S g) h) one other) (60 - g) g = srch (fun h => canB C S g h && suF C (addG (addG S g) h) one other) f' h → V G l RX3 cX3_leastLoads 6 7 false (some .int) (fun r μ' => r = some (.int (oI R)) ∧ Sme Ptr μ μ') 73 [some (.ref (G.2.2.1 119)), some (.ref (G.2.2.1 3)), some (.int (nI one)), some (.int (nI other)), some (.int (nI g)), some (.int (nI h))] [] μ2 := by
            intro f'
            induction f' with
            | zero =>
              intro h μ2 b1 b2 b3
              rw [b3] at a3
              refine R_aload_n (n := 74) dX3_leastLoads_73 rfl rfl ?_
              refine R_aload_n (n := 75) dX3_leastLoads_74 rfl rfl ?_
              refine R_iload (n := 77) dX3_leastLoads_75 rfl rfl ?_
              refine iv_X3_87 (n := 80) (ct_X3_canGive (hQ.kept b2 (fun i j z1 z2 => by omega)) ht (by omega)) (by decide) dX3_leastLoads_77 rfl (Nat.le_of_ble_eq_true rfl) (fun r μ' hq => ?_)
              obtain ⟨rfl, hq⟩ := hq
              have hq := hq.symm
              subst hq
              rw [hcg]
              refine R_if_eq_f (n := 83) dX3_leastLoads_80 rfl rfl (by decide) ?_
              refine R_iload (n := 85) dX3_leastLoads_83 rfl rfl ?_
              refine R_bipush (v := nI 60) (n := 87) dX3_leastLoads_85 rfl rfl ?_
              refine R_icmp_ge_t (tgt := 135) dX3_leastLoads_87 rfl (by rw [nI_leI (by omega) (by omega)]; omega) ?_
              exact tail μ2 _ b2 a3
            | succ f' ih2 =>
              intro h μ2 b1 b2 b3
              rw [srch] at b3
              have hQ2 := hQ.kept b2 (fun i j z1 z2 => by omega)
              refine R_aload_n (n := 74) dX3_leastLoads_73 rfl rfl ?_
              refine R_aload_n (n := 75) dX3_leastLoads_74 rfl rfl ?_
              refine R_iload (n := 77) dX3_leastLoads_75 rfl rfl ?_
              refine iv_X3_87 (n := 80) (ct_X3_canGive hQ2 ht (by omega)) (by decide) dX3_leastLoads_77 rfl (Nat.le_of_ble_eq_true rfl) (fun r μ' hq => ?_)
              obtain ⟨rfl, hq⟩ := hq
              have hq := hq.symm
              subst hq
              rw [hcg]
              refine R_if_eq_f (n := 83) dX3_leastLoads_80 rfl rfl (by decide) ?_
              refine R_iload (n := 85) dX3_leastLoads_83 rfl rfl ?_
              refine R_bipush (v := nI 60) (n := 87) dX3_leastLoads_85 rfl rfl ?_
              refine R_icmp_ge_f (n := 90) dX3_leastLoads_87 rfl rfl (by rw [nI_leI (by omega) (by omega)]; omega) ?_
              refine R_aload_n (n := 91) dX3_leastLoads_90 rfl rfl ?_
              refine R_aload_n (n := 92) dX3_leastLoads_91 rfl rfl ?_
              refine R_iload (n := 94) dX3_leastLoads_92 rfl rfl ?_
              refine R_iload (n := 96) dX3_leastLoads_94 rfl rfl ?_
              refine iv_X3_91 (n := 99) (ct_X3_canGiveBoth hQ2 ht (by omega) (by omega)) (by decide) dX3_leastLoads_96 rfl (Nat.le_of_ble_eq_true rfl) (fun r μ' hq => ?_)
              obtain ⟨rfl, hq⟩ := hq
              have hq := hq.symm
              subst hq
              cases hcb : canB C S g h with
              | false =>
                rw [hcb, Bool.false_and, if_neg (by decide)] at b3
                refine R_if_eq_t (tgt := 129) dX3_leastLoads_99 rfl (by decide) ?_
                refine R_iinc (n := 132) dX3_leastLoads_129 rfl rfl (nI_1 _) (Nat.le_of_ble_eq_true rfl) ?_
                refine R_goto (tgt := 73) dX3_leastLoads_132 rfl ?_
                exact ih2 (h + 1) μ2 (by omega) b2 b3
              | true =>
                rw [hcb, Bool.true_and] at b3
                have hch : canG C S h = true := by
                  rw [canB, Bool.and_eq_true, Bool.and_eq_true] at hcb
                  exact hcb.2.1
                obtain ⟨g1, g2, g3, g4⟩ := canG_lt hcg
                obtain ⟨k1, k2, k3, k4⟩ := canG_lt hch
                refine R_if_eq_f (n := 102) dX3_leastLoads_99 rfl rfl (by decide) ?_
                refine R_aload_n (n := 103) dX3_leastLoads_102 rfl rfl ?_
                refine R_aload_n (n := 104) dX3_leastLoads_103 rfl rfl ?_
                refine R_iload_n (n := 105) dX3_leastLoads_104 rfl rfl ?_
                refine R_iload_n (n := 106) dX3_leastLoads_105 rfl rfl ?_
                refine R_iload (n := 108) dX3_leastLoads_106 rfl rfl ?_
                refine R_iload (n := 110) dX3_leastLoads_108 rfl rfl ?_
                refine iv_X3_83 (n := 113) (ct_X3_suitsWith (gift := some g) (next := some h) hQ2 h1 h2 (fun x z => by cases z; exact ⟨by omega, g1, g2⟩) (fun x z => by cases z; exact ⟨by omega, k1, k2⟩)) (by decide) dX3_leastLoads_110 rfl (Nat.le_of_ble_eq_true rfl) (fun r μ' hq => ?_)
                obtain ⟨rfl, s2⟩ := hq
                rw [show addO (addO S (some g)) (some h) = addG (addG S g) h from rfl]
                cases hsu : suF C (addG (addG S g) h) one other with
                | false =>
                  rw [hsu, if_neg (by decide)] at b3
                  refine R_if_eq_t (tgt := 129) dX3_leastLoads_113 rfl (by decide) ?_
                  refine R_iinc (n := 132) dX3_leastLoads_129 rfl rfl (nI_1 _) (Nat.le_of_ble_eq_true rfl) ?_
                  refine R_goto (tgt := 73) dX3_leastLoads_132 rfl ?_
                  exact ih2 (h + 1) _ (by omega) (b2.tr s2) b3
                | true =>
                  rw [hsu, if_pos rfl] at b3
                  rw [b3] at a3
                  refine R_if_eq_f (n := 116) dX3_leastLoads_113 rfl rfl (by decide) ?_
                  refine R_sipush (v := nI 10000) (n := 119) dX3_leastLoads_116 rfl rfl ?_
                  refine R_bipush (v := nI 100) (n := 121) dX3_leastLoads_119 rfl rfl ?_
                  refine R_iload (n := 123) dX3_leastLoads_121 rfl rfl ?_
                  refine R_imul_n (n := 124) dX3_leastLoads_123 rfl ?_
                  refine R_iadd_n (n := 125) dX3_leastLoads_124 rfl ?_
                  refine R_iload (n := 127) dX3_leastLoads_125 rfl rfl ?_
                  refine R_iadd_n (n := 128) dX3_leastLoads_127 rfl ?_
                  refine R_iret dX3_leastLoads_128 rfl (rfl) (⟨by rw [← a3]; rfl, b2.tr s2⟩)
          exact inner (60 - g) g μ1 (by omega) a2 rfl
    generalize hX : srch (fun g => canG C S g && suF C (addG S g) one other) 60 0 = X at hR
    have one1 : ∀ (f g : Nat) (μ1 : Mem) (j5 : Option Value), g + f = 60 → Sme Ptr μ μ1 → X = srch (fun g => canG C S g && suF C (addG S g) one other) f g → V G l RX3 cX3_leastLoads 6 7 false (some .int) (fun r μ' => r = some (.int (oI R)) ∧ Sme Ptr μ μ') 17 [some (.ref (G.2.2.1 119)), some (.ref (G.2.2.1 3)), some (.int (nI one)), some (.int (nI other)), some (.int (nI g)), j5] [] μ1 := by
      intro f
      induction f with
      | zero =>
        intro g μ1 j5 a1 a2 a3
        rw [a3] at hR
        refine R_iload (n := 19) dX3_leastLoads_17 rfl rfl ?_
        refine R_bipush (v := nI 60) (n := 21) dX3_leastLoads_19 rfl rfl ?_
        refine R_icmp_ge_t (tgt := 59) dX3_leastLoads_21 rfl (by rw [nI_leI (by omega) (by omega)]; omega) ?_
        refine R_iconst (v := nI 0) (n := 60) dX3_leastLoads_59 rfl rfl ?_
        refine R_istore (n := 62) dX3_leastLoads_60 rfl (Nat.le_of_ble_eq_true rfl) (Nat.le_of_ble_eq_true rfl) ?_
        exact outer 60 0 μ1 _ (by omega) a2 hR
      | succ f ih =>
        intro g μ1 j5 a1 a2 a3
        rw [srch] at a3
        have hQ2 := hQ.kept a2 (fun i j z1 z2 => by omega)
        refine R_iload (n := 19) dX3_leastLoads_17 rfl rfl ?_
        refine R_bipush (v := nI 60) (n := 21) dX3_leastLoads_19 rfl rfl ?_
        refine R_icmp_ge_f (n := 24) dX3_leastLoads_21 rfl rfl (by rw [nI_leI (by omega) (by omega)]; omega) ?_
        refine R_aload_n (n := 25) dX3_leastLoads_24 rfl rfl ?_
        refine R_aload_n (n := 26) dX3_leastLoads_25 rfl rfl ?_
        refine R_iload (n := 28) dX3_leastLoads_26 rfl rfl ?_
        refine iv_X3_87 (n := 31) (ct_X3_canGive hQ2 ht (by omega)) (by decide) dX3_leastLoads_28 rfl (Nat.le_of_ble_eq_true rfl) (fun r μ' hq => ?_)
        obtain ⟨rfl, hq⟩ := hq
        have hq := hq.symm
        subst hq
        cases hcg : canG C S g with
        | false =>
          rw [hcg, Bool.false_and, if_neg (by decide)] at a3
          refine R_if_eq_t (tgt := 53) dX3_leastLoads_31 rfl (by decide) ?_
          refine R_iinc (n := 56) dX3_leastLoads_53 rfl rfl (nI_1 _) (Nat.le_of_ble_eq_true rfl) ?_
          refine R_goto (tgt := 17) dX3_leastLoads_56 rfl ?_
          exact ih (g + 1) μ1 _ (by omega) a2 a3
        | true =>
          rw [hcg, Bool.true_and] at a3
          obtain ⟨g1, g2, g3, g4⟩ := canG_lt hcg
          refine R_if_eq_f (n := 34) dX3_leastLoads_31 rfl rfl (by decide) ?_
          refine R_aload_n (n := 35) dX3_leastLoads_34 rfl rfl ?_
          refine R_aload_n (n := 36) dX3_leastLoads_35 rfl rfl ?_
          refine R_iload_n (n := 37) dX3_leastLoads_36 rfl rfl ?_
          refine R_iload_n (n := 38) dX3_leastLoads_37 rfl rfl ?_
          refine R_iload (n := 40) dX3_leastLoads_38 rfl rfl ?_
          refine R_iconst (v := -1) (n := 41) dX3_leastLoads_40 rfl rfl ?_
          refine iv_X3_83 (n := 44) (ct_X3_suitsWith (gift := some g) (next := none) hQ2 h1 h2 (fun x z => by cases z; exact ⟨by omega, g1, g2⟩) (fun x z => by cases z)) (by decide) dX3_leastLoads_41 rfl (Nat.le_of_ble_eq_true rfl) (fun r μ' hq => ?_)
          obtain ⟨rfl, s2⟩ := hq
          rw [show addO (addO S (some g)) none = addG S g from rfl]
          cases hsu : suF C (addG S g) one other with
          | false =>
            rw [hsu, if_neg (by decide)] at a3
            refine R_if_eq_t (tgt := 53) dX3_leastLoads_44 rfl (by decide) ?_
            refine R_iinc (n := 56) dX3_leastLoads_53 rfl rfl (nI_1 _) (Nat.le_of_ble_eq_true rfl) ?_
            refine R_goto (tgt := 17) dX3_leastLoads_56 rfl ?_
            exact ih (g + 1) _ _ (by omega) (a2.tr s2) a3
          | true =>
            rw [hsu, if_pos rfl] at a3
            rw [a3] at hR
            refine R_if_eq_f (n := 47) dX3_leastLoads_44 rfl rfl (by decide) ?_
            refine R_bipush (v := nI 100) (n := 49) dX3_leastLoads_47 rfl rfl ?_
            refine R_iload (n := 51) dX3_leastLoads_49 rfl rfl ?_
            refine R_iadd_n (n := 52) dX3_leastLoads_51 rfl ?_
            refine R_iret dX3_leastLoads_52 rfl (rfl) (⟨by rw [← hR]; rfl, a2.tr s2⟩)
    exact one1 60 0 _ _ (by omega) s1 hX.symm
end TE

