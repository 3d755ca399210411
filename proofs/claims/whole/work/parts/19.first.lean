section FO
variable {G : Gm} {l : Launch} {μ : Mem} {C : CF} {S : ST}
abbrev Por : Nat → Nat → Prop := fun i _ => i = 120
theorem ct_X3_makeNextOrder {n : Nat} {ord : Nat → Nat} (h : COr μ n ord) (hn : n ≤ 6) (hn2 : 2 ≤ n) (ho : ∀ k, k < n → ord k < 6) : Ct G l 2 yX3_makeNextOrder cX3_makeNextOrder 6 none [.ref (G.2.2.1 119), .int (nI n)] μ (fun r μ' => r = none ∧ COr μ' n (mno n ord) ∧ Sme Por μ μ') := by
  refine Ct.of 4 (by decide +kernel) rfl (Nat.le_of_ble_eq_true rfl) ?_
  show V G l RX3 cX3_makeNextOrder 6 _ false none _ 0 [some (.ref _), some (.int _), none, none, none, none] [] _
  refine R_iload_n (n := 1) dX3_makeNextOrder_0 rfl rfl ?_
  refine R_iconst (v := nI 2) (n := 2) dX3_makeNextOrder_1 rfl rfl ?_
  refine R_isub_n (n := 3) dX3_makeNextOrder_2 (hn2) rfl ?_
  rw [show nI (n - 2) = mI (n - 1) by rw [show n - 1 = (n - 2) + 1 by omega, mI_succ]]
  refine R_istore_n (n := 4) dX3_makeNextOrder_3 rfl (Nat.le_of_ble_eq_true rfl) (Nat.le_of_ble_eq_true rfl) ?_
  have rise : ∀ (k : Nat) (hk : k + 1 ≤ n), (risF ord k = none → mno n ord = ord) → (∀ r, risF ord k = some r → mno n ord = revF n (r + 1) (n - 1) (exc ord r (grF ord r (n - 1)))) → V G l RX3 cX3_makeNextOrder 6 2 false none (fun r μ' => r = none ∧ COr μ' n (mno n ord) ∧ Sme Por μ μ') 4 [some (.ref (G.2.2.1 119)), some (.int (nI n)), some (.int (mI k)), none, none, none] [] μ := by
    intro k
    induction k with
    | zero =>
      intro hk e1 e2
      refine R_iload_n (n := 5) dX3_makeNextOrder_4 rfl rfl ?_
      refine R_if_lt_t (tgt := 31) dX3_makeNextOrder_5 rfl (by decide) ?_
      refine R_iload_n (n := 32) dX3_makeNextOrder_31 rfl rfl ?_
      refine R_if_ge_f (n := 35) dX3_makeNextOrder_32 rfl rfl (by decide) ?_
      refine R_ret dX3_makeNextOrder_35 rfl (⟨rfl, by rw [e1 rfl]; exact h, Sme.rf _ _⟩)
    | succ r ih =>
      intro hk e1 e2
      have q1 := ho r (by omega)
      have q2 := ho (r + 1) (by omega)
      rw [mI_succ]
      refine R_iload_n (n := 5) dX3_makeNextOrder_4 rfl rfl ?_
      refine R_if_lt_f (n := 8) dX3_makeNextOrder_5 rfl rfl (nI_pos (by omega)) ?_
      refine R_aload_n (n := 9) dX3_makeNextOrder_8 rfl rfl ?_
      refine gf_X3_9 (n := 12) dX3_makeNextOrder_9 rfl ?_
      refine R_iload_n (n := 13) dX3_makeNextOrder_12 rfl rfl ?_
      refine R_iald_e (n := 14) sh_120 (rfl) (by omega) dX3_makeNextOrder_13 rfl (h _ (by omega)) ?_
      refine R_aload_n (n := 15) dX3_makeNextOrder_14 rfl rfl ?_
      refine gf_X3_9 (n := 18) dX3_makeNextOrder_15 rfl ?_
      refine R_iload_n (n := 19) dX3_makeNextOrder_18 rfl rfl ?_
      refine R_iconst (v := nI 1) (n := 20) dX3_makeNextOrder_19 rfl rfl ?_
      refine R_iadd_n (n := 21) dX3_makeNextOrder_20 rfl ?_
      refine R_iald_e (n := 22) sh_120 (rfl) (by omega) dX3_makeNextOrder_21 rfl (h _ (by omega)) ?_
      refine R_icmp_le (n := 25) (tgt := 31) dX3_makeNextOrder_22 rfl rfl (fun hc => ?_) (fun hc => ?_)
      · rw [nI_leI (by omega) (by omega)] at hc
        have er : risF ord (r + 1) = some r := by rw [risF, if_neg (by omega)]
        have hM := e2 r er
        refine R_iload_n (n := 32) dX3_makeNextOrder_31 rfl rfl ?_
        refine R_if_ge_t (tgt := 36) dX3_makeNextOrder_32 rfl (nI_pos' (by omega)) ?_
        refine R_iload_n (n := 37) dX3_makeNextOrder_36 rfl rfl ?_
        refine R_iconst (v := nI 1) (n := 38) dX3_makeNextOrder_37 rfl rfl ?_
        refine R_isub_n (n := 39) dX3_makeNextOrder_38 ((by omega)) rfl ?_
        refine R_istore_n (n := 40) dX3_makeNextOrder_39 rfl (Nat.le_of_ble_eq_true rfl) (Nat.le_of_ble_eq_true rfl) ?_
        have gr : ∀ (g : Nat), g + 1 ≤ n → r ≤ g → grF ord r g = grF ord r (n - 1) → V G l RX3 cX3_makeNextOrder 6 2 false none (fun r μ' => r = none ∧ COr μ' n (mno n ord) ∧ Sme Por μ μ') 40 [some (.ref (G.2.2.1 119)), some (.int (nI n)), some (.int (nI r)), some (.int (nI g)), none, none] [] μ := by
          have fin : ∀ g : Nat, g + 1 ≤ n → g = grF ord r (n - 1) → V G l RX3 cX3_makeNextOrder 6 2 false none (fun r μ' => r = none ∧ COr μ' n (mno n ord) ∧ Sme Por μ μ') 66 [some (.ref (G.2.2.1 119)), some (.int (nI n)), some (.int (nI r)), some (.int (nI g)), none, none] [] μ := by
            intro g hg eg
            rw [hM, ← eg]
            refine R_aload_n (n := 67) dX3_makeNextOrder_66 rfl rfl ?_
            refine R_iload_n (n := 68) dX3_makeNextOrder_67 rfl rfl ?_
            refine R_iload_n (n := 69) dX3_makeNextOrder_68 rfl rfl ?_
            refine iv_X3_71 (n := 72) (ct_X3_exchange h hn (by omega) (by omega)) (by decide) dX3_makeNextOrder_69 rfl (Nat.le_of_ble_eq_true rfl) (fun r μ' hq => ?_)
            obtain ⟨rfl, x1, x2⟩ := hq
            refine R_iload_n (n := 73) dX3_makeNextOrder_72 rfl rfl ?_
            refine R_iconst (v := nI 1) (n := 74) dX3_makeNextOrder_73 rfl rfl ?_
            refine R_iadd_n (n := 75) dX3_makeNextOrder_74 rfl ?_
            refine R_istore (n := 77) dX3_makeNextOrder_75 rfl (Nat.le_of_ble_eq_true rfl) (Nat.le_of_ble_eq_true rfl) ?_
            refine R_iload_n (n := 78) dX3_makeNextOrder_77 rfl rfl ?_
            refine R_iconst (v := nI 1) (n := 79) dX3_makeNextOrder_78 rfl rfl ?_
            refine R_isub_n (n := 80) dX3_makeNextOrder_79 ((by omega)) rfl ?_
            refine R_istore (n := 82) dX3_makeNextOrder_80 rfl (Nat.le_of_ble_eq_true rfl) (Nat.le_of_ble_eq_true rfl) ?_
            have rv : ∀ (f lo hi : Nat) (o : Nat → Nat) (μ1 : Mem), hi + 1 ≤ n → lo ≤ n → 0 < lo → hi < lo + f → COr μ1 n o → Sme Por μ μ1 → revF f lo hi o = revF n (r + 1) (n - 1) (exc ord r g) → V G l RX3 cX3_makeNextOrder 6 2 false none (fun r_1 μ' => r_1 = none ∧ COr μ' n (revF n (r + 1) (n - 1) (exc ord r g)) ∧ Sme Por μ μ') 82 [some (.ref (G.2.2.1 119)), some (.int (nI n)), some (.int (nI r)), some (.int (nI g)), some (.int (nI lo)), some (.int (nI hi))] [] μ1 := by
              intro f
              induction f with
              | zero =>
                intro lo hi o μ1 a1 a2 a3 a4 a5 a6 a7
                refine R_iload (n := 84) dX3_makeNextOrder_82 rfl rfl ?_
                refine R_iload (n := 86) dX3_makeNextOrder_84 rfl rfl ?_
                refine R_icmp_ge_t (tgt := 106) dX3_makeNextOrder_86 rfl (by rw [nI_leI (by omega) (by omega)]; omega) ?_
                refine R_ret dX3_makeNextOrder_106 rfl (⟨rfl, a7 ▸ a5, a6⟩)
              | succ f ih2 =>
                intro lo hi o μ1 a1 a2 a3 a4 a5 a6 a7
                rw [revF] at a7
                by_cases hlh : lo < hi
                · rw [if_pos hlh] at a7
                  refine R_iload (n := 84) dX3_makeNextOrder_82 rfl rfl ?_
                  refine R_iload (n := 86) dX3_makeNextOrder_84 rfl rfl ?_
                  refine R_icmp_ge_f (n := 89) dX3_makeNextOrder_86 rfl rfl (by rw [nI_leI (by omega) (by omega)]; omega) ?_
                  refine R_aload_n (n := 90) dX3_makeNextOrder_89 rfl rfl ?_
                  refine R_iload (n := 92) dX3_makeNextOrder_90 rfl rfl ?_
                  refine R_iload (n := 94) dX3_makeNextOrder_92 rfl rfl ?_
                  refine iv_X3_71 (n := 97) (ct_X3_exchange a5 hn (by omega) (by omega)) (by decide) dX3_makeNextOrder_94 rfl (Nat.le_of_ble_eq_true rfl) (fun r μ' hq => ?_)
                  obtain ⟨rfl, y1, y2⟩ := hq
                  refine R_iinc (n := 100) dX3_makeNextOrder_97 rfl rfl (nI_1 _) (Nat.le_of_ble_eq_true rfl) ?_
                  refine R_iinc (n := 103) dX3_makeNextOrder_100 rfl rfl ((mI_dec hi).trans (by conv => lhs; rw [show hi = (hi - 1) + 1 by omega, mI_succ])) (Nat.le_of_ble_eq_true rfl) ?_
                  refine R_goto (tgt := 82) dX3_makeNextOrder_103 rfl ?_
                  exact ih2 (lo + 1) (hi - 1) _ _ (by omega) (by omega) (by omega) (by omega) y1 (a6.tr y2) a7
                · rw [if_neg hlh] at a7
                  refine R_iload (n := 84) dX3_makeNextOrder_82 rfl rfl ?_
                  refine R_iload (n := 86) dX3_makeNextOrder_84 rfl rfl ?_
                  refine R_icmp_ge_t (tgt := 106) dX3_makeNextOrder_86 rfl (by rw [nI_leI (by omega) (by omega)]; omega) ?_
                  refine R_ret dX3_makeNextOrder_106 rfl (⟨rfl, a7 ▸ a5, a6⟩)
            exact rv n (r + 1) (n - 1) _ _ (by omega) (by omega) (by omega) (by omega) x1 x2 rfl
          intro g
          induction g with
          | zero =>
            intro hg hrg eg
            refine R_iload_n (n := 41) dX3_makeNextOrder_40 rfl rfl ?_
            refine R_iload_n (n := 42) dX3_makeNextOrder_41 rfl rfl ?_
            refine R_icmp_le_t (tgt := 66) dX3_makeNextOrder_42 rfl (by rw [nI_leI (by omega) (by omega)]; omega) ?_
            exact fin 0 hg eg
          | succ g ih2 =>
            intro hg hrg eg
            have q3 := ho (g + 1) (by omega)
            rw [grF] at eg
            by_cases hlt : r < g + 1
            · refine R_iload_n (n := 41) dX3_makeNextOrder_40 rfl rfl ?_
              refine R_iload_n (n := 42) dX3_makeNextOrder_41 rfl rfl ?_
              refine R_icmp_le_f (n := 45) dX3_makeNextOrder_42 rfl rfl (by rw [nI_leI (by omega) (by omega)]; omega) ?_
              refine R_aload_n (n := 46) dX3_makeNextOrder_45 rfl rfl ?_
              refine gf_X3_9 (n := 49) dX3_makeNextOrder_46 rfl ?_
              refine R_iload_n (n := 50) dX3_makeNextOrder_49 rfl rfl ?_
              refine R_iald_e (n := 51) sh_120 (rfl) (by omega) dX3_makeNextOrder_50 rfl (h _ (by omega)) ?_
              refine R_aload_n (n := 52) dX3_makeNextOrder_51 rfl rfl ?_
              refine gf_X3_9 (n := 55) dX3_makeNextOrder_52 rfl ?_
              refine R_iload_n (n := 56) dX3_makeNextOrder_55 rfl rfl ?_
              refine R_iald_e (n := 57) sh_120 (rfl) (by omega) dX3_makeNextOrder_56 rfl (h _ (by omega)) ?_
              refine R_icmp_ge (n := 60) (tgt := 66) dX3_makeNextOrder_57 rfl rfl (fun hd => ?_) (fun hd => ?_)
              · rw [nI_leI (by omega) (by omega)] at hd
                rw [if_neg (by omega)] at eg
                exact fin (g + 1) hg eg
              · rw [nI_leI (by omega) (by omega)] at hd
                rw [if_pos (by omega)] at eg
                refine R_iinc (n := 63) dX3_makeNextOrder_60 rfl rfl ((mI_dec (g + 1)).trans (mI_succ g)) (Nat.le_of_ble_eq_true rfl) ?_
                refine R_goto (tgt := 40) dX3_makeNextOrder_63 rfl ?_
                exact ih2 (by omega) (by omega) eg
            · rw [if_neg (by omega)] at eg
              refine R_iload_n (n := 41) dX3_makeNextOrder_40 rfl rfl ?_
              refine R_iload_n (n := 42) dX3_makeNextOrder_41 rfl rfl ?_
              refine R_icmp_le_t (tgt := 66) dX3_makeNextOrder_42 rfl (by rw [nI_leI (by omega) (by omega)]; omega) ?_
              exact fin (g + 1) hg eg
        exact gr (n - 1) (by omega) (by omega) rfl
      · rw [nI_leI (by omega) (by omega)] at hc
        have er : risF ord (r + 1) = risF ord r := by rw [risF, if_pos (by omega)]
        refine R_iinc (n := 28) dX3_makeNextOrder_25 rfl rfl (mI_dec r) (Nat.le_of_ble_eq_true rfl) ?_
        refine R_goto (tgt := 4) dX3_makeNextOrder_28 rfl ?_
        exact ih (by omega) (fun z => e1 (er.trans z)) (fun r' z => e2 r' (er.trans z))
  exact rise (n - 1) (by omega) (fun z => by rw [mno, z]) (fun r z => by rw [mno, z])
theorem ct_X3_firstOrder {one other : Nat} (hQ : Qc μ C S) (h1 : one < C.1) (h2 : other < C.1) (hne : one ≠ other) : Ct G l 6 yX3_firstOrder cX3_firstOrder 7 (some .int) [.ref (G.2.2.1 119), .ref (G.2.2.1 3), .int (nI one), .int (nI other)] μ (fun r μ' => r = some (.int (foL C S one other (fct C.1) 0)) ∧ Sme Scr μ μ') := by
  obtain ⟨hC, hS, hO, hP⟩ := hQ
  obtain ⟨o1, o2, o3, o4, o5, o6⟩ := id hO
  have hn2 : 2 ≤ C.1 := by omega
  have hf : fct C.1 < 1000 := by
    have H : ∀ n, n < 7 → fct n < 1000 := by decide +kernel
    exact H C.1 (by omega)
  refine Ct.of 3 (by decide +kernel) rfl (Nat.le_of_ble_eq_true rfl) ?_
  show V G l RX3 cX3_firstOrder 7 _ false _ _ 0 [some (.ref _), some (.ref _), some (.int _), some (.int _), none, none, none] [] _
  refine R_iconst (v := nI 0) (n := 1) dX3_firstOrder_0 rfl rfl ?_
  refine R_istore (n := 3) dX3_firstOrder_1 rfl (Nat.le_of_ble_eq_true rfl) (Nat.le_of_ble_eq_true rfl) ?_
  refine down (z := C.1) (P := fun j => ∀ μ1 : Mem, COr μ1 j (fun k => k) → Sme Por μ μ1 → V G l RX3 cX3_firstOrder 7 6 false _ _ 3 [some (.ref _), some (.ref _), some (.int (nI one)), some (.int (nI other)), some (.int (nI j)), none, none] [] μ1) ?_ ?_ 0 (Nat.zero_le _) μ (fun k h => absurd h (by omega)) (Sme.rf _ _)
  · intro μ1 a1 a2
    have hcn := (a2.1 _ _ (by omega)).trans hC.2.1
    refine R_iload (n := 5) dX3_firstOrder_3 rfl rfl ?_
    refine R_aload_n (n := 6) dX3_firstOrder_5 rfl rfl ?_
    refine ge_X3_45 (n := 9) dX3_firstOrder_6 rfl (hcn) ?_
    refine R_icmp_ge_t (tgt := 27) dX3_firstOrder_9 rfl (by rw [nI_leI (by omega) (by omega)]; omega) ?_
    refine R_iconst (v := nI 0) (n := 28) dX3_firstOrder_27 rfl rfl ?_
    refine R_istore (n := 30) dX3_firstOrder_28 rfl (Nat.le_of_ble_eq_true rfl) (Nat.le_of_ble_eq_true rfl) ?_
    have loop : ∀ (f i : Nat) (μ2 : Mem) (j5 j6 : Option Value), i + f = fct C.1 → (0 < f → COr μ2 C.1 (prm C.1 i)) → Sme Scr μ μ2 → V G l RX3 cX3_firstOrder 7 6 false (some .int) (fun r μ' => r = some (.int (foL C S one other f i)) ∧ Sme Scr μ μ') 30 [some (.ref (G.2.2.1 119)), some (.ref (G.2.2.1 3)), some (.int (nI one)), some (.int (nI other)), some (.int (nI i)), j5, j6] [] μ2 := by
      intro f
      induction f with
      | zero =>
        intro i μ2 j5 j6 b1 b2 b3
        have hcn := (b3.1 3 5 (by omega)).trans hC.2.1
        refine R_iload (n := 32) dX3_firstOrder_30 rfl rfl ?_
        refine R_getsN (n := 35) rfl dX3_firstOrder_32 rfl (fun fa hfa => ?_)
        refine R_aload_n (n := 36) dX3_firstOrder_35 rfl rfl ?_
        refine ge_X3_45 (n := 39) dX3_firstOrder_36 rfl (hcn) ?_
        refine R_rld (n := 40) hfa (by decide) (rfl) (by omega) dX3_firstOrder_39 rfl ?_
        rw [fac_eq C.1 (by omega)]
        refine R_icmp_ge_t (tgt := 103) dX3_firstOrder_40 rfl (by rw [nI_leI (by omega) (by omega)]; omega) ?_
        refine R_bipush (v := -9) (n := 105) dX3_firstOrder_103 rfl rfl ?_
        refine R_iret dX3_firstOrder_105 rfl (rfl) (⟨rfl, b3⟩)
      | succ f ih =>
        intro i μ2 j5 j6 b1 b2 b3
        have hC2 := hC.kept b3 (by omega) (by omega) (fun j => by omega) (fun j => by omega)
        have hcn := hC2.2.1
        refine R_iload (n := 32) dX3_firstOrder_30 rfl rfl ?_
        refine R_getsN (n := 35) rfl dX3_firstOrder_32 rfl (fun fa hfa => ?_)
        refine R_aload_n (n := 36) dX3_firstOrder_35 rfl rfl ?_
        refine ge_X3_45 (n := 39) dX3_firstOrder_36 rfl (hcn) ?_
        refine R_rld (n := 40) hfa (by decide) (rfl) (by omega) dX3_firstOrder_39 rfl ?_
        rw [fac_eq C.1 (by omega)]
        refine R_icmp_ge_f (n := 43) dX3_firstOrder_40 rfl rfl (by rw [nI_leI (by omega) (by omega)]; omega) ?_
        refine R_aload_n (n := 44) dX3_firstOrder_43 rfl rfl ?_
        refine iv_X3_18 (n := 47) (ct_X1_newTrial) (by decide) dX3_firstOrder_44 rfl (Nat.le_of_ble_eq_true rfl) (fun r μ' hq => ?_)
        obtain ⟨rfl, c1, c2⟩ := hq
        have hT := cst_cpy o2 o1 (by omega) (hS.kept b3 (fun x y z1 z2 => by omega)) c1
        have hcn := (c2.1 _ _ (by omega)).trans hC2.2.1
        refine R_astore (n := 49) dX3_firstOrder_47 rfl (Nat.le_of_ble_eq_true rfl) (Nat.le_of_ble_eq_true rfl) ?_
        refine R_aload_n (n := 50) dX3_firstOrder_49 rfl rfl ?_
        refine gf_X3_9 (n := 53) dX3_firstOrder_50 rfl ?_
        refine R_iconst (v := nI 0) (n := 54) dX3_firstOrder_53 rfl rfl ?_
        refine R_aload (n := 56) dX3_firstOrder_54 rfl rfl ?_
        refine gf_X3_51 (n := 59) stB_12 dX3_firstOrder_56 rfl ?_
        refine R_iconst (v := nI 0) (n := 60) dX3_firstOrder_59 rfl rfl ?_
        refine R_aload_n (n := 61) dX3_firstOrder_60 rfl rfl ?_
        refine ge_X3_45 (n := 64) dX3_firstOrder_61 rfl (hcn) ?_
        refine R_copy (n := 67) tM_RX3_54 tV_System_arraycopy tT_System_arraycopy tN_RJ10 sh_120 stB_12.2.1 rfl (by omega) (by decide) (Nat.le_of_ble_eq_true rfl) dX3_firstOrder_64 rfl ?_
        refine R_aload (n := 69) dX3_firstOrder_67 rfl rfl ?_
        have b2' : COr μ' C.1 (prm C.1 i) := fun k hk => (c2.1 _ _ (by omega)).trans (b2 (Nat.succ_pos _) k hk)
        have c3 : Sme Ptr μ2 (sta μ' 13 (va_cpy (μ'.1 120) (μ'.1 13) 0 0 C.1)) := c2.sta (fun k => by omega)
        have hT' : CSt (sta μ' 13 (va_cpy (μ'.1 120) (μ'.1 13) 0 0 C.1)) 12 C.1 C (rowS S (prm C.1 i)) := by
          obtain ⟨t1, t2, t3, t4, t5, t6, t7⟩ := hT
          refine ⟨fun p hp => ?_, fun p hp => ?_, fun p hp => ?_, fun p hp => ?_, fun p hp => ?_, ?_, ?_⟩
          · rw [sta_1_eq, cpy0 hp]; exact b2' p hp
          · rw [sta_1_ne _ _ _ (by omega)]; exact t2 p hp
          · rw [sta_1_ne _ _ _ (by omega)]; exact t3 p hp
          · rw [sta_1_ne _ _ _ (by omega)]; exact t4 p hp
          · rw [sta_1_ne _ _ _ (by omega)]; exact t5 p hp
          · rw [sta_1_ne _ _ _ (by omega)]; exact t6
          · rw [sta_1_ne _ _ _ (by omega)]; exact t7
        have hpl := prm_lt C.1 (by omega) i (by omega)
        have hO' : Ok C C.1 (rowS S (prm C.1 i)) := ⟨o1, o2, o3, hpl, o5, o6⟩
        have b2'' : COr (sta μ' 13 (va_cpy (μ'.1 120) (μ'.1 13) 0 0 C.1)) C.1 (prm C.1 i) := fun k hk => by rw [sta_1_ne _ _ _ (by omega)]; exact b2' k hk
        generalize sta μ' 13 (va_cpy (μ'.1 120) (μ'.1 13) 0 0 C.1) = μ3 at *
        refine iv_X3_60 (n := 72) (ct_X5_figures stB_12 o1 hT'.2.2.2.2.2.1 hT'.1) stB_12 (by decide) dX3_firstOrder_69 rfl (Nat.le_of_ble_eq_true rfl) (fun r μ' hq => ?_)
        obtain ⟨rfl, hq⟩ := hq
        have hq := hq.symm
        subst hq
        refine R_istore (n := 74) dX3_firstOrder_72 rfl (Nat.le_of_ble_eq_true rfl) (Nat.le_of_ble_eq_true rfl) ?_
        refine R_aload_n (n := 75) dX3_firstOrder_74 rfl rfl ?_
        refine R_aload_n (n := 76) dX3_firstOrder_75 rfl rfl ?_
        refine R_aload (n := 78) dX3_firstOrder_76 rfl rfl ?_
        refine R_iload_n (n := 79) dX3_firstOrder_78 rfl rfl ?_
        refine R_iload_n (n := 80) dX3_firstOrder_79 rfl rfl ?_
        have hC3 := hC2.kept c3 (by omega) (by omega) (fun j => by omega) (fun j => by omega)
        refine iv_X3_63 (n := 83) (ct_X3_suits hC3 hT' hO' h1 h2) (by decide) dX3_firstOrder_80 rfl (Nat.le_of_ble_eq_true rfl) (fun r μ' hq => ?_)
        obtain ⟨rfl, s1⟩ := hq
        have b4 : Sme Scr μ μ' := b3.tr ((c3.tr s1).mono (fun i j h => by omega))
        rw [foL]
        cases hsu : suF C (rowS S (prm C.1 i)) one other with
        | true =>
          rw [if_pos rfl]
          refine R_if_eq_f (n := 86) dX3_firstOrder_83 rfl rfl (by decide) ?_
          refine R_iload (n := 88) dX3_firstOrder_86 rfl rfl ?_
          refine R_iret dX3_firstOrder_88 rfl (rfl) (⟨rfl, b4⟩)
        | false =>
          rw [if_neg (by decide)]
          have hcn := (b4.1 3 5 (by omega)).trans hC.2.1
          refine R_if_eq_t (tgt := 89) dX3_firstOrder_83 rfl (by decide) ?_
          refine R_aload_n (n := 90) dX3_firstOrder_89 rfl rfl ?_
          refine R_aload_n (n := 91) dX3_firstOrder_90 rfl rfl ?_
          refine ge_X3_45 (n := 94) dX3_firstOrder_91 rfl (hcn) ?_
          have b5 : COr μ' C.1 (prm C.1 i) := fun k hk => (s1.1 _ _ (by omega)).trans (b2'' k hk)
          refine iv_X3_67 (n := 97) (ct_X3_makeNextOrder b5 o1 hn2 (fun k hk => Nat.lt_of_lt_of_le (hpl k hk) o1)) (by decide) dX3_firstOrder_94 rfl (Nat.le_of_ble_eq_true rfl) (fun r μ' hq => ?_)
          obtain ⟨rfl, m1, m2⟩ := hq
          refine R_iinc (n := 100) dX3_firstOrder_97 rfl rfl (nI_1 _) (Nat.le_of_ble_eq_true rfl) ?_
          refine R_goto (tgt := 30) dX3_firstOrder_100 rfl ?_
          exact ih (i + 1) _ _ _ (by omega) (fun hf0 k hk => by rw [← prm_next C.1 (by omega) i (by omega) k hk]; exact m1 k hk) (b4.tr (m2.mono (fun i j h => by omega)))
    refine loop (fct C.1) 0 μ1 _ _ (by omega) (fun _ k hk => by rw [a1 k hk, prm_zero _ (by omega) k hk]) (a2.mono (fun i j h => by omega))
  · intro j hj ih μ1 a1 a2
    have hcn := (a2.1 _ _ (by omega)).trans hC.2.1
    refine R_iload (n := 5) dX3_firstOrder_3 rfl rfl ?_
    refine R_aload_n (n := 6) dX3_firstOrder_5 rfl rfl ?_
    refine ge_X3_45 (n := 9) dX3_firstOrder_6 rfl (hcn) ?_
    refine R_icmp_ge_f (n := 12) dX3_firstOrder_9 rfl rfl (by rw [nI_leI (by omega) (by omega)]; omega) ?_
    refine R_aload_n (n := 13) dX3_firstOrder_12 rfl rfl ?_
    refine gf_X3_9 (n := 16) dX3_firstOrder_13 rfl ?_
    refine R_iload (n := 18) dX3_firstOrder_16 rfl rfl ?_
    refine R_iload (n := 20) dX3_firstOrder_18 rfl rfl ?_
    refine R_iast (n := 21) sh_120 (rfl) (by omega) dX3_firstOrder_20 rfl ?_
    refine R_iinc (n := 24) dX3_firstOrder_21 rfl rfl (nI_1 _) (Nat.le_of_ble_eq_true rfl) ?_
    refine R_goto (tgt := 3) dX3_firstOrder_24 rfl ?_
    refine ih _ (fun k hk => ?_) (a2.sti rfl)
    rw [sti_1]
    by_cases e : k = j
    · rw [if_pos ⟨rfl, e⟩, e]
    · rw [if_neg (fun z => e z.2)]; exact a1 k (by omega)
end FO

