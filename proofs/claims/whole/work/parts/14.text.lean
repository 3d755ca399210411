/-! THE TEXT: an automaton, and the parts one by one -/
def dueF (d t : Nat) : Nat := match d with
  | 0 => if t = 67 then 1 else 6
  | 1 => if t = 75 then 2 else if t = 66 then 3 else 6
  | 2 => if 48 ≤ t ∧ t ≤ 51 then 1 else 6
  | 3 => if t = 49 ∨ t = 50 then 4 else 6
  | 4 => if 48 ≤ t ∧ t ≤ 57 then 5 else 6
  | 5 => if 48 ≤ t ∧ t ≤ 57 then 1 else 6
  | _ => 6
/-- the fault's place, by the automaton; none: none -/
def flt (tx : Nat → Nat) (len : Nat) : Nat → Nat → Nat → Nat → Nat → Option Nat
  | 0, _, d, _, _ => if d = 1 then none else some len
  | f + 1, p, d, ks, bs =>
    if p < len then
      if dueF d (tx p) = 6 ∨ 5 < (if tx p = 75 then ks + 1 else ks) ∨ 6 < (if tx p = 66 then bs + 1 else bs) then some p
      else flt tx len f (p + 1) (dueF d (tx p)) (if tx p = 75 then ks + 1 else ks) (if tx p = 66 then bs + 1 else bs)
    else if d = 1 then none else some len
theorem dueF_le (d t : Nat) : dueF d t ≤ 6 := by
  unfold dueF
  split <;> (repeat (first | omega | split))
def CTx (μ : Mem) (tx : Nat → Nat) (len : Nat) : Prop := μ.1 1 1 = nI len ∧ len ≤ 40 ∧ (∀ k, k < len → μ.1 2 k = nI (tx k)) ∧ ∀ k, k < len → tx k < 256
section TX
variable {G : Gm} {l : Launch} {μ : Mem} {tx : Nat → Nat} {len : Nat}
theorem ct_X6_append {x : Nat} (hT : CTx μ tx len) (hx : x < 256) (hl : len < 40) : Ct G l 1 yX6_append cX6_append 2 none [.ref (G.2.2.1 1), .int (nI x)] μ (fun r μ' => r = none ∧ CTx μ' (fun k => if k = len then x else tx k) (len + 1) ∧ Sme (fun i j => (i = 1 ∧ j = 1) ∨ i = 2) μ μ') := by
  obtain ⟨h1, h2, h3, h4⟩ := hT
  refine Ct.of 0 (by decide +kernel) rfl (Nat.le_of_ble_eq_true rfl) ?_
  show V G l RX6 cX6_append 2 _ false none _ 0 [some (.ref _), some (.int _)] [] _
  refine R_aload_n (n := 1) dX6_append_0 rfl rfl ?_
  refine ge_X6_15 (n := 4) dX6_append_1 rfl (h1) ?_
  refine R_bipush (v := nI 40) (n := 6) dX6_append_4 rfl rfl ?_
  refine R_icmp_ge_f (n := 9) dX6_append_6 rfl rfl (by rw [nI_leI (by omega) (by omega)]; omega) ?_
  refine R_aload_n (n := 10) dX6_append_9 rfl rfl ?_
  refine gf_X6_9 (n := 13) dX6_append_10 rfl ?_
  refine R_aload_n (n := 14) dX6_append_13 rfl rfl ?_
  refine ge_X6_15 (n := 17) dX6_append_14 rfl (h1) ?_
  refine R_iload_n (n := 18) dX6_append_17 rfl rfl ?_
  refine R_iast (n := 19) sh_2 (rfl) (by omega) dX6_append_18 rfl ?_
  refine R_aload_n (n := 20) dX6_append_19 rfl rfl ?_
  have h1' : (sti μ 2 len (nI x)).1 1 1 = nI len := by rw [sti_1_ne _ _ _ (by omega)]; exact h1
  refine R_dup (n := 21) dX6_append_20 rfl rfl ?_
  refine ge_X6_15 (n := 24) dX6_append_21 rfl (h1') ?_
  refine R_iconst (v := nI 1) (n := 25) dX6_append_24 rfl rfl ?_
  refine R_iadd_n (n := 26) dX6_append_25 rfl ?_
  refine pf_X6_15 (n := 29) dX6_append_26 rfl ?_
  refine R_ret dX6_append_29 rfl ⟨rfl, ⟨by rw [sti_1_eq], by omega, fun k hk => ?_, fun k hk => ?_⟩, ((Sme.rf _ _).sti (Or.inr rfl)).sti (Or.inl ⟨rfl, rfl⟩)⟩
  · rw [sti_1_ne _ _ _ (by omega), sti_1]
    dsimp only
    by_cases e : k = len
    · rw [if_pos ⟨rfl, e⟩, if_pos e]
    · rw [if_neg (fun z => e z.2), if_neg e]; exact h3 k (by omega)
  · dsimp only
    by_cases e : k = len
    · rw [if_pos e]; exact hx
    · rw [if_neg e]; exact h4 k (by omega)
theorem ct_X6_figureAt {p : Nat} (hT : CTx μ tx len) (hp : p < len) : Ct G l 1 yX6_figureAt cX6_figureAt 2 (some .int) [.ref (G.2.2.1 1), .int (nI p)] μ (fun r μ' => r = some (.int (nI (tx p) - nI 48)) ∧ μ' = μ) := by
  obtain ⟨h1, h2, h3, h4⟩ := hT
  refine Ct.of 0 (by decide +kernel) rfl (Nat.le_of_ble_eq_true rfl) ?_
  show V G l RX6 cX6_figureAt 2 _ false _ _ 0 [some (.ref _), some (.int _)] [] _
  refine R_iload_n (n := 1) dX6_figureAt_0 rfl rfl ?_
  refine R_if_lt_f (n := 4) dX6_figureAt_1 rfl rfl (nI_pos (by omega)) ?_
  refine R_iload_n (n := 5) dX6_figureAt_4 rfl rfl ?_
  refine R_aload_n (n := 6) dX6_figureAt_5 rfl rfl ?_
  refine ge_X6_15 (n := 9) dX6_figureAt_6 rfl (h1) ?_
  refine R_icmp_ge_f (n := 12) dX6_figureAt_9 rfl rfl (by rw [nI_leI (by omega) (by omega)]; omega) ?_
  refine R_aload_n (n := 13) dX6_figureAt_12 rfl rfl ?_
  refine gf_X6_9 (n := 16) dX6_figureAt_13 rfl ?_
  refine R_iload_n (n := 17) dX6_figureAt_16 rfl rfl ?_
  refine R_iald_e (n := 18) sh_2 (rfl) (by omega) dX6_figureAt_17 rfl (h3 _ (by omega)) ?_
  refine R_bipush (v := nI 48) (n := 20) dX6_figureAt_18 rfl rfl ?_
  refine R_isub (n := 21) dX6_figureAt_20 rfl ?_
  refine R_goto (tgt := 25) dX6_figureAt_21 rfl ?_
  refine R_iret dX6_figureAt_25 rfl (rfl) (⟨rfl, rfl⟩)
theorem ct_X6_dueBehind {d t : Nat} (hd : d ≤ 6) (ht : t < 256) : Ct G l 1 yX6_dueBehind cX6_dueBehind 2 (some .int) [.int (nI d), .int (nI t)] μ (fun r μ' => r = some (.int (nI (dueF d t))) ∧ μ' = μ) := by
  have e : ∀ c : Nat, c < 256 → ((nI t = nI c) ↔ t = c) := fun c hc => nI_eq (by omega) (by omega)
  have e1 : ∀ c : Nat, c < 256 → ((nI t < nI c) ↔ t < c) := fun c hc => nI_ltI (by omega) (by omega)
  have e2 : ∀ c : Nat, c < 256 → ((nI c < nI t) ↔ c < t) := fun c hc => nI_ltI (by omega) (by omega)
  refine Ct.of 0 (by decide +kernel) rfl (Nat.le_of_ble_eq_true rfl) ?_
  show V G l RX6 cX6_dueBehind 2 _ false _ _ 0 [some (.int _), some (.int _)] [] _
  refine R_iload_n (n := 1) dX6_dueBehind_0 rfl rfl ?_
  match d, hd with
  | 0, _ =>
    refine R_tableIn (off := 39) (tgt := 40) dX6_dueBehind_1 (by decide) (by decide) (by decide) rfl ?_
    refine R_iload_n (n := 41) dX6_dueBehind_40 rfl rfl ?_
    refine R_bipush (v := nI 67) (n := 43) dX6_dueBehind_41 rfl rfl ?_
    refine R_icmp_ne (n := 46) (tgt := 50) dX6_dueBehind_43 rfl rfl (fun h => ?_) (fun h => ?_)
    · rw [e _ (by omega)] at h
      refine R_bipush (v := nI 6) (n := 52) dX6_dueBehind_50 rfl rfl ?_
      refine R_iret dX6_dueBehind_52 rfl (rfl) (⟨by rw [dueF, if_neg h], rfl⟩)
    · rw [e _ (by omega)] at h
      refine R_iconst (v := nI 1) (n := 47) dX6_dueBehind_46 rfl rfl ?_
      refine R_goto (tgt := 52) dX6_dueBehind_47 rfl ?_
      refine R_iret dX6_dueBehind_52 rfl (rfl) (⟨by rw [dueF, if_pos h], rfl⟩)
  | 1, _ =>
    refine R_tableIn (off := 52) (tgt := 53) dX6_dueBehind_1 (by decide) (by decide) (by decide) rfl ?_
    refine R_iload_n (n := 54) dX6_dueBehind_53 rfl rfl ?_
    refine R_bipush (v := nI 75) (n := 56) dX6_dueBehind_54 rfl rfl ?_
    refine R_icmp_ne (n := 59) (tgt := 63) dX6_dueBehind_56 rfl rfl (fun h => ?_) (fun h => ?_)
    · rw [e _ (by omega)] at h
      refine R_iload_n (n := 64) dX6_dueBehind_63 rfl rfl ?_
      refine R_bipush (v := nI 66) (n := 66) dX6_dueBehind_64 rfl rfl ?_
      refine R_icmp_ne (n := 69) (tgt := 73) dX6_dueBehind_66 rfl rfl (fun h2 => ?_) (fun h2 => ?_)
      · rw [e _ (by omega)] at h2
        refine R_bipush (v := nI 6) (n := 75) dX6_dueBehind_73 rfl rfl ?_
        refine R_iret dX6_dueBehind_75 rfl (rfl) (⟨by rw [dueF, if_neg h, if_neg h2], rfl⟩)
      · rw [e _ (by omega)] at h2
        refine R_iconst (v := nI 3) (n := 70) dX6_dueBehind_69 rfl rfl ?_
        refine R_goto (tgt := 75) dX6_dueBehind_70 rfl ?_
        refine R_iret dX6_dueBehind_75 rfl (rfl) (⟨by rw [dueF, if_neg h, if_pos h2], rfl⟩)
    · rw [e _ (by omega)] at h
      refine R_iconst (v := nI 2) (n := 60) dX6_dueBehind_59 rfl rfl ?_
      refine R_goto (tgt := 75) dX6_dueBehind_60 rfl ?_
      refine R_iret dX6_dueBehind_75 rfl (rfl) (⟨by rw [dueF, if_pos h], rfl⟩)
  | 2, _ =>
    refine R_tableIn (off := 75) (tgt := 76) dX6_dueBehind_1 (by decide) (by decide) (by decide) rfl ?_
    refine R_iload_n (n := 77) dX6_dueBehind_76 rfl rfl ?_
    refine R_bipush (v := nI 48) (n := 79) dX6_dueBehind_77 rfl rfl ?_
    refine R_icmp_lt (n := 82) (tgt := 92) dX6_dueBehind_79 rfl rfl (fun h => ?_) (fun h => ?_)
    · rw [e1 _ (by omega)] at h
      refine R_bipush (v := nI 6) (n := 94) dX6_dueBehind_92 rfl rfl ?_
      refine R_iret dX6_dueBehind_94 rfl (rfl) (⟨by rw [dueF, if_neg (by omega)], rfl⟩)
    · rw [e1 _ (by omega)] at h
      refine R_iload_n (n := 83) dX6_dueBehind_82 rfl rfl ?_
      refine R_bipush (v := nI 51) (n := 85) dX6_dueBehind_83 rfl rfl ?_
      refine R_icmp_gt (n := 88) (tgt := 92) dX6_dueBehind_85 rfl rfl (fun h2 => ?_) (fun h2 => ?_)
      · rw [e2 _ (by omega)] at h2
        refine R_bipush (v := nI 6) (n := 94) dX6_dueBehind_92 rfl rfl ?_
        refine R_iret dX6_dueBehind_94 rfl (rfl) (⟨by rw [dueF, if_neg (by omega)], rfl⟩)
      · rw [e2 _ (by omega)] at h2
        refine R_iconst (v := nI 1) (n := 89) dX6_dueBehind_88 rfl rfl ?_
        refine R_goto (tgt := 94) dX6_dueBehind_89 rfl ?_
        refine R_iret dX6_dueBehind_94 rfl (rfl) (⟨by rw [dueF, if_pos (by omega)], rfl⟩)
  | 3, _ =>
    refine R_tableIn (off := 94) (tgt := 95) dX6_dueBehind_1 (by decide) (by decide) (by decide) rfl ?_
    refine R_iload_n (n := 96) dX6_dueBehind_95 rfl rfl ?_
    refine R_bipush (v := nI 49) (n := 98) dX6_dueBehind_96 rfl rfl ?_
    refine R_icmp_eq (n := 101) (tgt := 107) dX6_dueBehind_98 rfl rfl (fun h => ?_) (fun h => ?_)
    · rw [e _ (by omega)] at h
      refine R_iconst (v := nI 4) (n := 108) dX6_dueBehind_107 rfl rfl ?_
      refine R_goto (tgt := 113) dX6_dueBehind_108 rfl ?_
      refine R_iret dX6_dueBehind_113 rfl (rfl) (⟨by rw [dueF, if_pos (by omega)], rfl⟩)
    · rw [e _ (by omega)] at h
      refine R_iload_n (n := 102) dX6_dueBehind_101 rfl rfl ?_
      refine R_bipush (v := nI 50) (n := 104) dX6_dueBehind_102 rfl rfl ?_
      refine R_icmp_ne (n := 107) (tgt := 111) dX6_dueBehind_104 rfl rfl (fun h2 => ?_) (fun h2 => ?_)
      · rw [e _ (by omega)] at h2
        refine R_bipush (v := nI 6) (n := 113) dX6_dueBehind_111 rfl rfl ?_
        refine R_iret dX6_dueBehind_113 rfl (rfl) (⟨by rw [dueF, if_neg (by omega)], rfl⟩)
      · rw [e _ (by omega)] at h2
        refine R_iconst (v := nI 4) (n := 108) dX6_dueBehind_107 rfl rfl ?_
        refine R_goto (tgt := 113) dX6_dueBehind_108 rfl ?_
        refine R_iret dX6_dueBehind_113 rfl (rfl) (⟨by rw [dueF, if_pos (by omega)], rfl⟩)
  | 4, _ =>
    refine R_tableIn (off := 113) (tgt := 114) dX6_dueBehind_1 (by decide) (by decide) (by decide) rfl ?_
    refine R_iload_n (n := 115) dX6_dueBehind_114 rfl rfl ?_
    refine R_bipush (v := nI 48) (n := 117) dX6_dueBehind_115 rfl rfl ?_
    refine R_icmp_lt (n := 120) (tgt := 130) dX6_dueBehind_117 rfl rfl (fun h => ?_) (fun h => ?_)
    · rw [e1 _ (by omega)] at h
      refine R_bipush (v := nI 6) (n := 132) dX6_dueBehind_130 rfl rfl ?_
      refine R_iret dX6_dueBehind_132 rfl (rfl) (⟨by rw [dueF, if_neg (by omega)], rfl⟩)
    · rw [e1 _ (by omega)] at h
      refine R_iload_n (n := 121) dX6_dueBehind_120 rfl rfl ?_
      refine R_bipush (v := nI 57) (n := 123) dX6_dueBehind_121 rfl rfl ?_
      refine R_icmp_gt (n := 126) (tgt := 130) dX6_dueBehind_123 rfl rfl (fun h2 => ?_) (fun h2 => ?_)
      · rw [e2 _ (by omega)] at h2
        refine R_bipush (v := nI 6) (n := 132) dX6_dueBehind_130 rfl rfl ?_
        refine R_iret dX6_dueBehind_132 rfl (rfl) (⟨by rw [dueF, if_neg (by omega)], rfl⟩)
      · rw [e2 _ (by omega)] at h2
        refine R_iconst (v := nI 5) (n := 127) dX6_dueBehind_126 rfl rfl ?_
        refine R_goto (tgt := 132) dX6_dueBehind_127 rfl ?_
        refine R_iret dX6_dueBehind_132 rfl (rfl) (⟨by rw [dueF, if_pos (by omega)], rfl⟩)
  | 5, _ =>
    refine R_tableIn (off := 132) (tgt := 133) dX6_dueBehind_1 (by decide) (by decide) (by decide) rfl ?_
    refine R_iload_n (n := 134) dX6_dueBehind_133 rfl rfl ?_
    refine R_bipush (v := nI 48) (n := 136) dX6_dueBehind_134 rfl rfl ?_
    refine R_icmp_lt (n := 139) (tgt := 149) dX6_dueBehind_136 rfl rfl (fun h => ?_) (fun h => ?_)
    · rw [e1 _ (by omega)] at h
      refine R_bipush (v := nI 6) (n := 151) dX6_dueBehind_149 rfl rfl ?_
      refine R_iret dX6_dueBehind_151 rfl (rfl) (⟨by rw [dueF, if_neg (by omega)], rfl⟩)
    · rw [e1 _ (by omega)] at h
      refine R_iload_n (n := 140) dX6_dueBehind_139 rfl rfl ?_
      refine R_bipush (v := nI 57) (n := 142) dX6_dueBehind_140 rfl rfl ?_
      refine R_icmp_gt (n := 145) (tgt := 149) dX6_dueBehind_142 rfl rfl (fun h2 => ?_) (fun h2 => ?_)
      · rw [e2 _ (by omega)] at h2
        refine R_bipush (v := nI 6) (n := 151) dX6_dueBehind_149 rfl rfl ?_
        refine R_iret dX6_dueBehind_151 rfl (rfl) (⟨by rw [dueF, if_neg (by omega)], rfl⟩)
      · rw [e2 _ (by omega)] at h2
        refine R_iconst (v := nI 1) (n := 146) dX6_dueBehind_145 rfl rfl ?_
        refine R_goto (tgt := 151) dX6_dueBehind_146 rfl ?_
        refine R_iret dX6_dueBehind_151 rfl (rfl) (⟨by rw [dueF, if_pos (by omega)], rfl⟩)
  | 6, _ =>
    refine R_tableOut (tgt := 152) dX6_dueBehind_1 (by decide) rfl ?_
    refine R_bipush (v := nI 6) (n := 154) dX6_dueBehind_152 rfl rfl ?_
    refine R_iret dX6_dueBehind_154 rfl (rfl) (⟨rfl, rfl⟩)
theorem ct_X6_faultPlace (hT : CTx μ tx len) : Ct G l 2 yX6_faultPlace cX6_faultPlace 6 (some .int) [.ref (G.2.2.1 1)] μ (fun r μ' => r = some (.int (oI (flt tx len len 0 0 0 0))) ∧ μ' = μ) := by
  obtain ⟨h1, h2, h3, h4⟩ := hT
  refine Ct.of 5 (by decide +kernel) rfl (Nat.le_of_ble_eq_true rfl) ?_
  show V G l RX6 cX6_faultPlace 6 _ false _ _ 0 [some (.ref _), none, none, none, none, none] [] _
  refine R_iconst (v := nI 0) (n := 1) dX6_faultPlace_0 rfl rfl ?_
  refine R_istore_n (n := 2) dX6_faultPlace_1 rfl (Nat.le_of_ble_eq_true rfl) (Nat.le_of_ble_eq_true rfl) ?_
  refine R_iconst (v := nI 0) (n := 3) dX6_faultPlace_2 rfl rfl ?_
  refine R_istore_n (n := 4) dX6_faultPlace_3 rfl (Nat.le_of_ble_eq_true rfl) (Nat.le_of_ble_eq_true rfl) ?_
  refine R_iconst (v := nI 0) (n := 5) dX6_faultPlace_4 rfl rfl ?_
  refine R_istore_n (n := 6) dX6_faultPlace_5 rfl (Nat.le_of_ble_eq_true rfl) (Nat.le_of_ble_eq_true rfl) ?_
  refine R_iconst (v := nI 0) (n := 7) dX6_faultPlace_6 rfl rfl ?_
  refine R_istore (n := 9) dX6_faultPlace_7 rfl (Nat.le_of_ble_eq_true rfl) (Nat.le_of_ble_eq_true rfl) ?_
  have loop : ∀ (f p d ks bs : Nat) (j5 : Option Value), p ≤ len → len ≤ p + f → d ≤ 6 → ks ≤ p → bs ≤ p → V G l RX6 cX6_faultPlace 6 2 false (some .int) (fun r μ' => r = some (.int (oI (flt tx len f p d ks bs))) ∧ μ' = μ) 9 [some (.ref (G.2.2.1 1)), some (.int (nI d)), some (.int (nI ks)), some (.int (nI bs)), some (.int (nI p)), j5] [] μ := by
    intro f
    induction f with
    | zero =>
      intro p d ks bs j5 hp hf hd hk hb
      refine R_iload (n := 11) dX6_faultPlace_9 rfl rfl ?_
      refine R_aload_n (n := 12) dX6_faultPlace_11 rfl rfl ?_
      refine ge_X6_15 (n := 15) dX6_faultPlace_12 rfl (h1) ?_
      refine R_icmp_ge_t (tgt := 90) dX6_faultPlace_15 rfl (by rw [nI_leI (by omega) (by omega)]; omega) ?_
      refine R_iload_n (n := 91) dX6_faultPlace_90 rfl rfl ?_
      refine R_iconst (v := nI 1) (n := 92) dX6_faultPlace_91 rfl rfl ?_
      refine R_icmp_ne (n := 95) (tgt := 100) dX6_faultPlace_92 rfl rfl (fun h => ?_) (fun h => ?_)
      · rw [nI_eq (by omega) (by omega)] at h
        refine R_aload_n (n := 101) dX6_faultPlace_100 rfl rfl ?_
        refine ge_X6_15 (n := 104) dX6_faultPlace_101 rfl (h1) ?_
        refine R_iret dX6_faultPlace_104 rfl (rfl) (⟨by rw [flt, if_neg h]; rfl, rfl⟩)
      · rw [nI_eq (by omega) (by omega)] at h
        refine R_bipush (v := -9) (n := 97) dX6_faultPlace_95 rfl rfl ?_
        refine R_goto (tgt := 104) dX6_faultPlace_97 rfl ?_
        refine R_iret dX6_faultPlace_104 rfl (rfl) (⟨by rw [flt, if_pos h]; rfl, rfl⟩)
    | succ f ih =>
      intro p d ks bs j5 hp hf hd hk hb
      by_cases hlt : p < len
      · have hx := h4 p hlt
        have hd' := dueF_le d (tx p)
        rw [flt, if_pos hlt]
        refine R_iload (n := 11) dX6_faultPlace_9 rfl rfl ?_
        refine R_aload_n (n := 12) dX6_faultPlace_11 rfl rfl ?_
        refine ge_X6_15 (n := 15) dX6_faultPlace_12 rfl (h1) ?_
        refine R_icmp_ge_f (n := 18) dX6_faultPlace_15 rfl rfl (by rw [nI_leI (by omega) (by omega)]; omega) ?_
        refine R_aload_n (n := 19) dX6_faultPlace_18 rfl rfl ?_
        refine gf_X6_9 (n := 22) dX6_faultPlace_19 rfl ?_
        refine R_iload (n := 24) dX6_faultPlace_22 rfl rfl ?_
        refine R_iald_e (n := 25) sh_2 (rfl) (by omega) dX6_faultPlace_24 rfl (h3 _ (by omega)) ?_
        refine R_istore (n := 27) dX6_faultPlace_25 rfl (Nat.le_of_ble_eq_true rfl) (Nat.le_of_ble_eq_true rfl) ?_
        refine R_iload_n (n := 28) dX6_faultPlace_27 rfl rfl ?_
        refine R_iload (n := 30) dX6_faultPlace_28 rfl rfl ?_
        refine iv_X6_19 (n := 33) (ct_X6_dueBehind hd hx) (by decide) dX6_faultPlace_30 rfl (Nat.le_of_ble_eq_true rfl) (fun r μ' hq => ?_)
        obtain ⟨rfl, hq⟩ := hq
        have hq := hq.symm
        subst hq
        have tail : ∀ ks' bs' : Nat, ks' = (if tx p = 75 then ks + 1 else ks) → bs' = (if tx p = 66 then bs + 1 else bs) → V G l RX6 cX6_faultPlace 6 2 false (some .int) (fun r μ' => r = some (.int (oI (if dueF d (tx p) = 6 ∨ 5 < (if tx p = 75 then ks + 1 else ks) ∨ 6 < (if tx p = 66 then bs + 1 else bs) then some p
      else flt tx len f (p + 1) (dueF d (tx p)) (if tx p = 75 then ks + 1 else ks) (if tx p = 66 then bs + 1 else bs)))) ∧ μ' = μ) 64 [some (.ref (G.2.2.1 1)), some (.int (nI (dueF d (tx p)))), some (.int (nI ks')), some (.int (nI bs')), some (.int (nI p)), some (.int (nI (tx p)))] [] μ := by
          intro ks' bs' e1 e2
          have e3 : ks' ≤ p + 1 := by rw [e1]; split <;> omega
          have e4 : bs' ≤ p + 1 := by rw [e2]; split <;> omega
          rw [← e1, ← e2]
          refine R_iload_n (n := 65) dX6_faultPlace_64 rfl rfl ?_
          refine R_bipush (v := nI 6) (n := 67) dX6_faultPlace_65 rfl rfl ?_
          refine R_icmp_eq (n := 70) (tgt := 81) dX6_faultPlace_67 rfl rfl (fun h => ?_) (fun h => ?_)
          · rw [nI_eq (by omega) (by omega)] at h
            rw [if_pos (Or.inl h)]
            refine R_iload (n := 83) dX6_faultPlace_81 rfl rfl ?_
            refine R_iret dX6_faultPlace_83 rfl (rfl) (⟨rfl, rfl⟩)
          · rw [nI_eq (by omega) (by omega)] at h
            refine R_iload_n (n := 71) dX6_faultPlace_70 rfl rfl ?_
            refine R_iconst (v := nI 5) (n := 72) dX6_faultPlace_71 rfl rfl ?_
            refine R_icmp_gt (n := 75) (tgt := 81) dX6_faultPlace_72 rfl rfl (fun h' => ?_) (fun h' => ?_)
            · rw [nI_ltI (by omega) (by omega)] at h'
              rw [if_pos (Or.inr (Or.inl h'))]
              refine R_iload (n := 83) dX6_faultPlace_81 rfl rfl ?_
              refine R_iret dX6_faultPlace_83 rfl (rfl) (⟨rfl, rfl⟩)
            · rw [nI_ltI (by omega) (by omega)] at h'
              refine R_iload_n (n := 76) dX6_faultPlace_75 rfl rfl ?_
              refine R_bipush (v := nI 6) (n := 78) dX6_faultPlace_76 rfl rfl ?_
              refine R_icmp_le (n := 81) (tgt := 84) dX6_faultPlace_78 rfl rfl (fun h'' => ?_) (fun h'' => ?_)
              · rw [nI_leI (by omega) (by omega)] at h''
                rw [if_neg (by omega)]
                refine R_iinc (n := 87) dX6_faultPlace_84 rfl rfl (nI_1 _) (Nat.le_of_ble_eq_true rfl) ?_
                refine R_goto (tgt := 9) dX6_faultPlace_87 rfl ?_
                exact ih (p + 1) _ _ _ _ (by omega) (by omega) hd' e3 e4
              · rw [nI_leI (by omega) (by omega)] at h''
                rw [if_pos (Or.inr (Or.inr (by omega)))]
                refine R_iload (n := 83) dX6_faultPlace_81 rfl rfl ?_
                refine R_iret dX6_faultPlace_83 rfl (rfl) (⟨rfl, rfl⟩)
        refine R_istore_n (n := 34) dX6_faultPlace_33 rfl (Nat.le_of_ble_eq_true rfl) (Nat.le_of_ble_eq_true rfl) ?_
        refine R_iload_n (n := 35) dX6_faultPlace_34 rfl rfl ?_
        refine R_iload (n := 37) dX6_faultPlace_35 rfl rfl ?_
        refine R_bipush (v := nI 75) (n := 39) dX6_faultPlace_37 rfl rfl ?_
        refine R_icmp_ne (n := 42) (tgt := 46) dX6_faultPlace_39 rfl rfl (fun hK => ?_) (fun hK => ?_)
        · rw [nI_eq (by omega) (by omega)] at hK
          refine R_iconst (v := nI 0) (n := 47) dX6_faultPlace_46 rfl rfl ?_
          refine R_iadd_n (n := 48) dX6_faultPlace_47 rfl ?_
          refine R_istore_n (n := 49) dX6_faultPlace_48 rfl (Nat.le_of_ble_eq_true rfl) (Nat.le_of_ble_eq_true rfl) ?_
          refine R_iload_n (n := 50) dX6_faultPlace_49 rfl rfl ?_
          refine R_iload (n := 52) dX6_faultPlace_50 rfl rfl ?_
          refine R_bipush (v := nI 66) (n := 54) dX6_faultPlace_52 rfl rfl ?_
          refine R_icmp_ne (n := 57) (tgt := 61) dX6_faultPlace_54 rfl rfl (fun hB => ?_) (fun hB => ?_)
          · rw [nI_eq (by omega) (by omega)] at hB
            refine R_iconst (v := nI 0) (n := 62) dX6_faultPlace_61 rfl rfl ?_
            refine R_iadd_n (n := 63) dX6_faultPlace_62 rfl ?_
            refine R_istore_n (n := 64) dX6_faultPlace_63 rfl (Nat.le_of_ble_eq_true rfl) (Nat.le_of_ble_eq_true rfl) ?_
            exact tail ks bs (by rw [if_neg hK]) (by rw [if_neg hB])
          · rw [nI_eq (by omega) (by omega)] at hB
            refine R_iconst (v := nI 1) (n := 58) dX6_faultPlace_57 rfl rfl ?_
            refine R_goto (tgt := 62) dX6_faultPlace_58 rfl ?_
            refine R_iadd_n (n := 63) dX6_faultPlace_62 rfl ?_
            refine R_istore_n (n := 64) dX6_faultPlace_63 rfl (Nat.le_of_ble_eq_true rfl) (Nat.le_of_ble_eq_true rfl) ?_
            exact tail ks (bs + 1) (by rw [if_neg hK]) (by rw [if_pos hB])
        · rw [nI_eq (by omega) (by omega)] at hK
          refine R_iconst (v := nI 1) (n := 43) dX6_faultPlace_42 rfl rfl ?_
          refine R_goto (tgt := 47) dX6_faultPlace_43 rfl ?_
          refine R_iadd_n (n := 48) dX6_faultPlace_47 rfl ?_
          refine R_istore_n (n := 49) dX6_faultPlace_48 rfl (Nat.le_of_ble_eq_true rfl) (Nat.le_of_ble_eq_true rfl) ?_
          refine R_iload_n (n := 50) dX6_faultPlace_49 rfl rfl ?_
          refine R_iload (n := 52) dX6_faultPlace_50 rfl rfl ?_
          refine R_bipush (v := nI 66) (n := 54) dX6_faultPlace_52 rfl rfl ?_
          refine R_icmp_ne_t (tgt := 61) dX6_faultPlace_54 rfl (by rw [nI_eq (by omega) (by omega)]; omega) ?_
          refine R_iconst (v := nI 0) (n := 62) dX6_faultPlace_61 rfl rfl ?_
          refine R_iadd_n (n := 63) dX6_faultPlace_62 rfl ?_
          refine R_istore_n (n := 64) dX6_faultPlace_63 rfl (Nat.le_of_ble_eq_true rfl) (Nat.le_of_ble_eq_true rfl) ?_
          exact tail (ks + 1) bs (by rw [if_pos hK]) (by rw [if_neg (by omega)])
      · rw [flt, if_neg hlt]
        refine R_iload (n := 11) dX6_faultPlace_9 rfl rfl ?_
        refine R_aload_n (n := 12) dX6_faultPlace_11 rfl rfl ?_
        refine ge_X6_15 (n := 15) dX6_faultPlace_12 rfl (h1) ?_
        refine R_icmp_ge_t (tgt := 90) dX6_faultPlace_15 rfl (by rw [nI_leI (by omega) (by omega)]; omega) ?_
        refine R_iload_n (n := 91) dX6_faultPlace_90 rfl rfl ?_
        refine R_iconst (v := nI 1) (n := 92) dX6_faultPlace_91 rfl rfl ?_
        refine R_icmp_ne (n := 95) (tgt := 100) dX6_faultPlace_92 rfl rfl (fun h => ?_) (fun h => ?_)
        · rw [nI_eq (by omega) (by omega)] at h
          refine R_aload_n (n := 101) dX6_faultPlace_100 rfl rfl ?_
          refine ge_X6_15 (n := 104) dX6_faultPlace_101 rfl (h1) ?_
          refine R_iret dX6_faultPlace_104 rfl (rfl) (⟨by rw [if_neg h]; rfl, rfl⟩)
        · rw [nI_eq (by omega) (by omega)] at h
          refine R_bipush (v := -9) (n := 97) dX6_faultPlace_95 rfl rfl ?_
          refine R_goto (tgt := 104) dX6_faultPlace_97 rfl ?_
          refine R_iret dX6_faultPlace_104 rfl (rfl) (⟨by rw [if_pos h]; rfl, rfl⟩)
  exact loop len 0 0 0 0 _ (Nat.zero_le _) (by omega) (by omega) (by omega) (by omega)
end TX

