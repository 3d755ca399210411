/-! THE MODEL's share, asleep -/
def wlF (t s : Nat) : Nat → Int32
  | 0 => nI 1
  | j + 1 => wlF t s j * (if tb s j = 1 then nI t else nI (10 - t))
def alL (t left : Nat) : Nat → Nat → Int32 → Int32
  | 0, _, acc => acc
  | f + 1, s, acc => alL t left f (s + 1) (acc + wlF t s left)
theorem wl_pw : ∀ t, t < 11 → ∀ left, left < 6 → ∀ s, s < 2 ^ left → wlF t s left = pw (nI t) (bc s) * pw (nI (10 - t)) (left - bc s) := by decide +kernel
theorem wl_bn : ∀ t, t < 11 → ∀ left, left < 6 → ∀ s, s < 2 ^ left → 0 ≤ (wlF t s left).toInt ∧ (wlF t s left).toInt ≤ 100000 := by decide +kernel
theorem al_all : ∀ t, t < 11 → ∀ left, left < 6 → alL t left (2 ^ left) 0 (nI 0) = pw (nI 10) left := by decide +kernel
theorem pw_10 : ∀ left, left < 6 → pw (nI 10) left = nI (10 ^ left) ∧ 0 < 10 ^ left ∧ 10 ^ left < 2 ^ 17 := by decide +kernel
theorem asL_bab {p : Nat → Bool} {t left : Nat} (ht : t < 11) (hl : left < 6) : ∀ (f s A : Nat) (acc : Int32), s + f ≤ 2 ^ left → A + f * 100000 < 2 ^ 31 → bab acc A → bab (asL p t left f s acc) (A + f * 100000)
  | 0, s, A, acc, _, _, h => by rw [Nat.zero_mul]; exact h
  | f + 1, s, A, acc, hs, hA, h => by
    rw [asL, show A + (f + 1) * 100000 = A + 100000 + f * 100000 by omega]
    refine asL_bab ht hl f (s + 1) (A + 100000) _ (by omega) (by omega) ?_
    split
    · rw [← wl_pw t ht left hl s (by omega)]
      have b := wl_bn t ht left hl s (by omega)
      exact bab_add h ⟨by omega, by omega⟩ (by omega)
    · exact ⟨by have := h.1; omega, by have := h.2; omega⟩
theorem share_lt : ∀ n, n < 7 → ∀ s, s < 2 ^ n → ∀ v, v < n → tb s v = 0 → s + 2 ^ v < 2 ^ n := by decide +kernel
section M14
variable {G : Gm} {l : Launch} {μ : Mem} {σ : GS}
theorem ct_X8_share (h : MI μ σ) (w : WF σ) (x : Int32) (up : Bool) : Ct G l 5 yX8_share cX8_share 6 (some .int) [.ref (G.2.2.1 125), .int x, .int (bi up)] μ (fun r μ' => r = some (.int (aShare σ x up)) ∧ Sme Qrm μ μ') := by
  obtain ⟨o1, o2, o3, o4, o5, o6⟩ := id w.1.1
  have h64 : ∀ n, n < 7 → 0 < 2 ^ n ∧ 2 ^ n < 65 := by decide +kernel
  have h2n := h64 (gC σ).1 (by omega)
  have hbt : nI 1 <<< (nI (gC σ).1 &&& 31) = nI (2 ^ (gC σ).1) := bt_pow _ (by omega)
  refine Ct.of 3 (by decide +kernel) rfl (Nat.le_of_ble_eq_true rfl) ?_
  show V G l RX8 cX8_share 6 _ false _ _ 0 [some (.ref _), some (.int _), some (.int _), none, none, none] [] _
  refine R_aload_n (n := 1) dX8_share_0 rfl rfl ?_
  refine R_iload_n (n := 2) dX8_share_1 rfl rfl ?_
  refine iv_X8_89 (n := 5) (ct_X8_isBarge x h.2.1.2.1 (by omega)) (by decide) dX8_share_2 rfl (Nat.le_of_ble_eq_true rfl) (fun r μ' hq => ?_)
  obtain ⟨rfl, hq⟩ := hq
  have hq := hq.symm
  subst hq
  cases hx : inR x (gC σ).1 with
  | false =>
    refine R_if_ne_f (n := 8) dX8_share_5 rfl rfl (by decide) ?_
    refine R_iconst (v := -1) (n := 9) dX8_share_8 rfl rfl ?_
    refine R_iret dX8_share_9 rfl (rfl) (⟨by rw [aShare, hx]; rfl, Sme.rf _ _⟩)
  | true =>
    obtain ⟨hxl, hxe⟩ := inR_cl (by omega) hx
    rw [aShare, hx, if_pos rfl]
    clear hx
    generalize x.toNatClampNeg = v at *
    subst hxe
    have hv6 : v < 6 := by omega
    refine R_if_ne_t (tgt := 10) dX8_share_5 rfl (by decide) ?_
    refine R_iconst (v := nI 0) (n := 11) dX8_share_10 rfl rfl ?_
    refine R_istore_n (n := 12) dX8_share_11 rfl (Nat.le_of_ble_eq_true rfl) (Nat.le_of_ble_eq_true rfl) ?_
    refine down (z := 2 ^ (gC σ).1) (P := fun k => ∀ (μ1 : Mem), (∀ q, q < k → μ1.1 134 q = lh (gC σ) (gS σ) q) → Sme Qrm μ μ1 → V G l RX8 cX8_share 6 5 false (some .int) (fun r μ' => r = some (.int (tfF (shrL (gC σ) (gS σ) v (2 ^ (gC σ).1) 0 (nI 0)) (nI (fct (gC σ).1)) up)) ∧ Sme Qrm μ μ') 12 [some (.ref _), some (.int (nI v)), some (.int (bi up)), some (.int (nI k)), none, none] [] μ1) ?_ ?_ 0 (Nat.zero_le _) μ (fun q hq => absurd hq (by omega)) (Sme.rf _ _)
    · intro μ1 g1 hs
      have hM1 := (h.kept w hs).2.1
      refine R_iload_n (n := 13) dX8_share_12 rfl rfl ?_
      refine R_iconst (v := nI 1) (n := 14) dX8_share_13 rfl rfl ?_
      refine R_aload_n (n := 15) dX8_share_14 rfl rfl ?_
      refine ge_X8_83 (n := 18) dX8_share_15 rfl (hM1.2.1) ?_
      refine R_ishl (n := 19) dX8_share_18 rfl ?_
      rw [hbt]
      refine R_icmp_ge_t (tgt := 39) dX8_share_19 rfl (by rw [nI_leI (by omega) (by omega)]; omega) ?_
      refine R_iconst (v := nI 0) (n := 40) dX8_share_39 rfl rfl ?_
      refine R_istore_n (n := 41) dX8_share_40 rfl (Nat.le_of_ble_eq_true rfl) (Nat.le_of_ble_eq_true rfl) ?_
      refine R_iconst (v := nI 0) (n := 42) dX8_share_41 rfl rfl ?_
      refine R_istore (n := 44) dX8_share_42 rfl (Nat.le_of_ble_eq_true rfl) (Nat.le_of_ble_eq_true rfl) ?_
      have loop : ∀ (f k : Nat) (acc : Int32) (j5 : Option Value), k + f = 2 ^ (gC σ).1 → bab (shrL (gC σ) (gS σ) v f k acc) (64 * 3600) → V G l RX8 cX8_share 6 5 false (some .int) (fun r μ' => r = some (.int (tfF (shrL (gC σ) (gS σ) v f k acc) (nI (fct (gC σ).1)) up)) ∧ Sme Qrm μ μ') 44 [some (.ref (G.2.2.1 125)), some (.int (nI v)), some (.int (bi up)), some (.int acc), some (.int (nI k)), j5] [] μ1 := by
        intro f
        induction f with
        | zero =>
          intro k acc j5 hf hb
          rw [shrL] at hb ⊢
          have hfc := fct_ok (gC σ).1 (by omega)
          have hfd := fct_720 (gC σ).1 (by omega)
          obtain ⟨t1, t2, t3⟩ := tf_eq (B := fct (gC σ).1) up hb (by omega) hfc.1 (by omega)
          refine R_iload (n := 46) dX8_share_44 rfl rfl ?_
          refine R_iconst (v := nI 1) (n := 47) dX8_share_46 rfl rfl ?_
          refine R_aload_n (n := 48) dX8_share_47 rfl rfl ?_
          refine ge_X8_83 (n := 51) dX8_share_48 rfl (hM1.2.1) ?_
          refine R_ishl (n := 52) dX8_share_51 rfl ?_
          rw [hbt]
          refine R_icmp_ge_t (tgt := 121) dX8_share_52 rfl (by rw [nI_leI (by omega) (by omega)]; omega) ?_
          refine R_iload_n (n := 122) dX8_share_121 rfl rfl ?_
          refine R_aload_n (n := 123) dX8_share_122 rfl rfl ?_
          refine ge_X8_83 (n := 126) dX8_share_123 rfl (hM1.2.1) ?_
          refine iv_X8_136 (n := 129) (ct_X8_factorial (by omega)) (by decide) dX8_share_126 rfl (Nat.le_of_ble_eq_true rfl) (fun r μ' hq => ?_)
          obtain ⟨rfl, hq⟩ := hq
          have hq := hq.symm
          subst hq
          refine iv_X8_166 (n := 132) (ct_X8_common t1) (by decide) dX8_share_129 rfl (Nat.le_of_ble_eq_true rfl) (fun r μ' hq => ?_)
          obtain ⟨rfl, hq⟩ := hq
          have hq := hq.symm
          subst hq
          rw [← t3]
          refine R_istore (n := 134) dX8_share_132 rfl (Nat.le_of_ble_eq_true rfl) (Nat.le_of_ble_eq_true rfl) ?_
          refine R_iload_n (n := 135) dX8_share_134 rfl rfl ?_
          cases up with
          | true =>
            refine R_if_eq_f (n := 138) dX8_share_135 rfl rfl (by decide) ?_
            refine R_iload_n (n := 139) dX8_share_138 rfl rfl ?_
            refine R_iload (n := 141) dX8_share_139 rfl rfl ?_
            refine R_idiv (n := 142) dX8_share_141 (t2) rfl ?_
            refine R_goto (tgt := 155) dX8_share_142 rfl ?_
            refine R_iret dX8_share_155 rfl (rfl) (⟨rfl, hs⟩)
          | false =>
            refine R_if_eq_t (tgt := 145) dX8_share_135 rfl (by decide) ?_
            refine R_aload_n (n := 146) dX8_share_145 rfl rfl ?_
            refine ge_X8_83 (n := 149) dX8_share_146 rfl (hM1.2.1) ?_
            refine iv_X8_136 (n := 152) (ct_X8_factorial (by omega)) (by decide) dX8_share_149 rfl (Nat.le_of_ble_eq_true rfl) (fun r μ' hq => ?_)
            obtain ⟨rfl, hq⟩ := hq
            have hq := hq.symm
            subst hq
            refine R_iload (n := 154) dX8_share_152 rfl rfl ?_
            refine R_idiv (n := 155) dX8_share_154 (t2) rfl ?_
            refine R_iret dX8_share_155 rfl (rfl) (⟨rfl, hs⟩)
        | succ f ih =>
          intro k acc j5 hf hb
          have hk64 : k < 64 := by omega
          have tb2 := tb_le k v
          rw [shrL] at hb ⊢
          refine R_iload (n := 46) dX8_share_44 rfl rfl ?_
          refine R_iconst (v := nI 1) (n := 47) dX8_share_46 rfl rfl ?_
          refine R_aload_n (n := 48) dX8_share_47 rfl rfl ?_
          refine ge_X8_83 (n := 51) dX8_share_48 rfl (hM1.2.1) ?_
          refine R_ishl (n := 52) dX8_share_51 rfl ?_
          rw [hbt]
          refine R_icmp_ge_f (n := 55) dX8_share_52 rfl rfl (by rw [nI_leI (by omega) (by omega)]; omega) ?_
          refine R_iload (n := 57) dX8_share_55 rfl rfl ?_
          refine R_iload_n (n := 58) dX8_share_57 rfl rfl ?_
          refine iv_X8_139 (n := 61) (ct_X8_has hk64 hv6) (by decide) dX8_share_58 rfl (Nat.le_of_ble_eq_true rfl) (fun r μ' hq => ?_)
          obtain ⟨rfl, hq⟩ := hq
          have hq := hq.symm
          subst hq
          by_cases e : tb k v = 0
          · rw [if_pos e] at hb ⊢
            rw [show decide (tb k v = 1) = false from decide_eq_false (by omega)]
            have hbc := bc_le (gC σ).1 (by omega) k (by omega) v hxl e
            have hkv := or_lt (gC σ).1 (by omega) k (by omega) v hxl e
            have hor : nI k ||| nI 1 <<< (nI v &&& 31) = nI (k + 2 ^ v) := set_or k hk64 v hv6 e
            have hle : k + 2 ^ v < 2 ^ (gC σ).1 := share_lt (gC σ).1 (by omega) k (by omega) v hxl e
            refine R_if_ne_f (n := 64) dX8_share_61 rfl rfl (by decide) ?_
            refine R_iload (n := 66) dX8_share_64 rfl rfl ?_
            refine iv_X8_163 (n := 69) (ct_X8_ones hk64) (by decide) dX8_share_66 rfl (Nat.le_of_ble_eq_true rfl) (fun r μ' hq => ?_)
            obtain ⟨rfl, hq⟩ := hq
            have hq := hq.symm
            subst hq
            refine iv_X8_136 (n := 72) (ct_X8_factorial (by omega)) (by decide) dX8_share_69 rfl (Nat.le_of_ble_eq_true rfl) (fun r μ' hq => ?_)
            obtain ⟨rfl, hq⟩ := hq
            have hq := hq.symm
            subst hq
            refine R_aload_n (n := 73) dX8_share_72 rfl rfl ?_
            refine ge_X8_83 (n := 76) dX8_share_73 rfl (hM1.2.1) ?_
            refine R_iconst (v := nI 1) (n := 77) dX8_share_76 rfl rfl ?_
            refine R_isub_n (n := 78) dX8_share_77 ((by omega)) rfl ?_
            refine R_iload (n := 80) dX8_share_78 rfl rfl ?_
            refine iv_X8_163 (n := 83) (ct_X8_ones hk64) (by decide) dX8_share_80 rfl (Nat.le_of_ble_eq_true rfl) (fun r μ' hq => ?_)
            obtain ⟨rfl, hq⟩ := hq
            have hq := hq.symm
            subst hq
            refine R_isub_n (n := 84) dX8_share_83 ((by omega)) rfl ?_
            refine iv_X8_136 (n := 87) (ct_X8_factorial (by omega)) (by decide) dX8_share_84 rfl (Nat.le_of_ble_eq_true rfl) (fun r μ' hq => ?_)
            obtain ⟨rfl, hq⟩ := hq
            have hq := hq.symm
            subst hq
            refine R_imul (n := 88) dX8_share_87 rfl ?_
            refine R_istore (n := 90) dX8_share_88 rfl (Nat.le_of_ble_eq_true rfl) (Nat.le_of_ble_eq_true rfl) ?_
            refine R_iload_n (n := 91) dX8_share_90 rfl rfl ?_
            refine R_iload (n := 93) dX8_share_91 rfl rfl ?_
            refine R_aload_n (n := 94) dX8_share_93 rfl rfl ?_
            refine gf_X8_34 (n := 97) dX8_share_94 rfl ?_
            refine R_iload (n := 99) dX8_share_97 rfl rfl ?_
            refine R_iconst (v := nI 1) (n := 100) dX8_share_99 rfl rfl ?_
            refine R_iload_n (n := 101) dX8_share_100 rfl rfl ?_
            refine R_ishl (n := 102) dX8_share_101 rfl ?_
            refine R_ior (n := 103) dX8_share_102 rfl ?_
            rw [hor]
            refine R_iald_e (n := 104) sh_134 (rfl) (by omega) dX8_share_103 rfl (g1 _ (by omega)) ?_
            refine R_aload_n (n := 105) dX8_share_104 rfl rfl ?_
            refine gf_X8_34 (n := 108) dX8_share_105 rfl ?_
            refine R_iload (n := 110) dX8_share_108 rfl rfl ?_
            refine R_iald_e (n := 111) sh_134 (rfl) (by omega) dX8_share_110 rfl (g1 _ (by omega)) ?_
            refine R_isub (n := 112) dX8_share_111 rfl ?_
            refine R_imul (n := 113) dX8_share_112 rfl ?_
            refine R_iadd (n := 114) dX8_share_113 rfl ?_
            refine R_istore_n (n := 115) dX8_share_114 rfl (Nat.le_of_ble_eq_true rfl) (Nat.le_of_ble_eq_true rfl) ?_
            refine R_iinc (n := 118) dX8_share_115 rfl rfl (nI_1 _) (Nat.le_of_ble_eq_true rfl) ?_
            refine R_goto (tgt := 44) dX8_share_118 rfl ?_
            exact ih (k + 1) _ _ (by omega) hb
          · rw [if_neg e] at hb ⊢
            rw [show decide (tb k v = 1) = true from decide_eq_true (by omega)]
            refine R_if_ne_t (tgt := 115) dX8_share_61 rfl (by decide) ?_
            refine R_iinc (n := 118) dX8_share_115 rfl rfl (nI_1 _) (Nat.le_of_ble_eq_true rfl) ?_
            refine R_goto (tgt := 44) dX8_share_118 rfl ?_
            exact ih (k + 1) _ _ (by omega) hb
      refine loop (2 ^ (gC σ).1) 0 (nI 0) _ (by omega) ?_
      have b := shrL_bnd (S := gS σ) o1 o2 hxl (2 ^ (gC σ).1) 0 0 (nI 0) (by omega) (by omega) ⟨by decide, by decide⟩
      exact ⟨by have := b.1; omega, by have := b.2; omega⟩
    · intro k hk ih μ1 g1 hs
      have hM1 := (h.kept w hs).2.1
      refine R_iload_n (n := 13) dX8_share_12 rfl rfl ?_
      refine R_iconst (v := nI 1) (n := 14) dX8_share_13 rfl rfl ?_
      refine R_aload_n (n := 15) dX8_share_14 rfl rfl ?_
      refine ge_X8_83 (n := 18) dX8_share_15 rfl (hM1.2.1) ?_
      refine R_ishl (n := 19) dX8_share_18 rfl ?_
      rw [hbt]
      refine R_icmp_ge_f (n := 22) dX8_share_19 rfl rfl (by rw [nI_leI (by omega) (by omega)]; omega) ?_
      refine R_aload_n (n := 23) dX8_share_22 rfl rfl ?_
      refine gf_X8_34 (n := 26) dX8_share_23 rfl ?_
      refine R_iload_n (n := 27) dX8_share_26 rfl rfl ?_
      refine R_aload_n (n := 28) dX8_share_27 rfl rfl ?_
      refine R_iload_n (n := 29) dX8_share_28 rfl rfl ?_
      refine iv_X8_160 (n := 32) (ct_X8_hoursBy ((h.q w).kept hs) (by omega)) (by decide) dX8_share_29 rfl (Nat.le_of_ble_eq_true rfl) (fun r μ' hq => ?_)
      obtain ⟨rfl, b2⟩ := hq
      refine R_iast (n := 33) sh_134 (rfl) (by omega) dX8_share_32 rfl ?_
      refine R_iinc (n := 36) dX8_share_33 rfl rfl (nI_1 _) (Nat.le_of_ble_eq_true rfl) ?_
      refine R_goto (tgt := 12) dX8_share_36 rfl ?_
      refine ih _ (fun q hq => ?_) ((hs.tr b2.qm).sti (by omega))
      rw [sti_1]
      by_cases e : q = k
      · rw [if_pos ⟨rfl, e⟩, e]
      · rw [if_neg (fun z => e z.2), b2.1 _ _ (by omega)]; exact g1 q (by omega)
end M14

