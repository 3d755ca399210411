/-! THE MODEL's asleep -/
section M15
variable {G : Gm} {l : Launch} {μ : Mem} {σ : GS}
theorem ct_X8_asleep (h : MI μ σ) (w : WF σ) (x p t : Int32) (up : Bool) : Ct G l 4 yX8_asleep cX8_asleep 12 (some .int) [.ref (G.2.2.1 125), .int x, .int p, .int t, .int (bi up)] μ (fun r μ' => r = some (.int (aAsleep σ x p t up)) ∧ Sme Qrm μ μ') := by
  obtain ⟨o1, o2, o3, o4, o5, o6⟩ := id w.1.1
  obtain ⟨m1, m2, m3, m4, m5, m6⟩ := m0 h.2.2.1
  refine Ct.of 7 (by decide +kernel) rfl (Nat.le_of_ble_eq_true rfl) ?_
  show V G l RX8 cX8_asleep 12 _ false _ _ 0 [some (.ref _), some (.int _), some (.int _), some (.int _), some (.int _), none, none, none, none, none, none, none] [] _
  refine R_aload_n (n := 1) dX8_asleep_0 rfl rfl ?_
  refine R_iload_n (n := 2) dX8_asleep_1 rfl rfl ?_
  refine iv_X8_89 (n := 5) (ct_X8_isBarge x h.2.1.2.1 (by omega)) (by decide) dX8_asleep_2 rfl (Nat.le_of_ble_eq_true rfl) (fun r μ' hq => ?_)
  obtain ⟨rfl, hq⟩ := hq
  have hq := hq.symm
  subst hq
  cases hx : inR x (gC σ).1 with
  | false =>
    refine R_if_ne_f (n := 8) dX8_asleep_5 rfl rfl (by decide) ?_
    refine R_iconst (v := -1) (n := 9) dX8_asleep_8 rfl rfl ?_
    refine R_iret dX8_asleep_9 rfl (rfl) (⟨by rw [aAsleep, hx]; rfl, Sme.rf _ _⟩)
  | true =>
    obtain ⟨hxl, hxe⟩ := inR_cl (by omega) hx
    rw [aAsleep, hx, if_pos rfl]
    clear hx
    generalize x.toNatClampNeg = v at *
    subst hxe
    refine R_if_ne_t (tgt := 10) dX8_asleep_5 rfl (by decide) ?_
    refine R_iload_n (n := 11) dX8_asleep_10 rfl rfl ?_
    refine R_i2l (n := 12) dX8_asleep_11 rfl ?_
    refine R_lconst (n := 13) dX8_asleep_12 rfl rfl ?_
    refine R_aload_n (n := 14) dX8_asleep_13 rfl rfl ?_
    refine ge_X8_83 (n := 17) dX8_asleep_14 rfl (h.2.1.2.1) ?_
    refine R_iconst (v := nI 1) (n := 18) dX8_asleep_17 rfl rfl ?_
    refine R_isub (n := 19) dX8_asleep_18 rfl ?_
    refine R_i2l (n := 20) dX8_asleep_19 rfl ?_
    refine iv_X8_56 (n := 23) (ct_X8_in p 0 (nI (gC σ).1 - nI 1)) (by decide) dX8_asleep_20 rfl (Nat.le_of_ble_eq_true rfl) (fun r μ' hq => ?_)
    obtain ⟨rfl, hq⟩ := hq
    have hq := hq.symm
    subst hq
    rw [inI_bar (x := p) (n := (gC σ).1) (by omega)]
    cases hp : inR p (gC σ).1 with
    | false =>
      rw [if_pos (Or.inl rfl)]
      refine R_if_eq_t (tgt := 38) dX8_asleep_23 rfl (by decide) ?_
      refine R_bipush (v := -2) (n := 40) dX8_asleep_38 rfl rfl ?_
      refine R_iret dX8_asleep_40 rfl (rfl) (⟨rfl, Sme.rf _ _⟩)
    | true =>
      refine R_if_eq_f (n := 26) dX8_asleep_23 rfl rfl (by decide) ?_
      refine R_iload_n (n := 27) dX8_asleep_26 rfl rfl ?_
      refine R_i2l (n := 28) dX8_asleep_27 rfl ?_
      refine R_lconst (n := 29) dX8_asleep_28 rfl rfl ?_
      refine R_ldc2 (n := 32) dX8_asleep_29 tK_RX8_185 rfl ?_
      refine iv_X8_56 (n := 35) (ct_X8_in t 0 (nI 10)) (by decide) dX8_asleep_32 rfl (Nat.le_of_ble_eq_true rfl) (fun r μ' hq => ?_)
      obtain ⟨rfl, hq⟩ := hq
      have hq := hq.symm
      subst hq
      cases ht : inI t 0 (nI 10) with
      | false =>
        rw [if_pos (Or.inr (inI_b.mp ht))]
        refine R_if_ne_f (n := 38) dX8_asleep_35 rfl rfl (by decide) ?_
        refine R_bipush (v := -2) (n := 40) dX8_asleep_38 rfl rfl ?_
        refine R_iret dX8_asleep_40 rfl (rfl) (⟨rfl, Sme.rf _ _⟩)
      | true =>
        have ht2 : ¬ (t < 0 ∨ nI 10 < t) := fun q => by rw [inI_b.mpr q] at ht; cases ht
        rw [if_neg (fun q => q.elim (fun q => by cases q) ht2)]
        obtain ⟨tn, htn, rfl⟩ := nI_of (x := t) (fun z => ht2 (Or.inl z))
        have ht11 : tn < 11 := by
          have q : ¬ nI 10 < nI tn := fun z => ht2 (Or.inr z)
          rw [nI_ltI (by omega) htn] at q
          omega
        obtain ⟨hpl, hpe⟩ := inR_cl (by omega) hp
        rw [nI_clamp htn]
        clear hp
        generalize p.toNatClampNeg = pl at *
        subst hpe
        generalize hlf : (gC σ).2.1 - sPsd (gS σ) = lf at *
        have h64 : ∀ n, n < 6 → 0 < 2 ^ n ∧ 2 ^ n < 33 := by decide +kernel
        have h2n := h64 lf (by omega)
        have hbt : nI 1 <<< (nI lf &&& 31) = nI (2 ^ lf) := bt_pow _ (by omega)
        refine R_if_ne_t (tgt := 41) dX8_asleep_35 rfl (by decide) ?_
        refine R_iconst (v := nI 0) (n := 42) dX8_asleep_41 rfl rfl ?_
        refine R_istore (n := 44) dX8_asleep_42 rfl (Nat.le_of_ble_eq_true rfl) (Nat.le_of_ble_eq_true rfl) ?_
        refine R_iconst (v := nI 0) (n := 45) dX8_asleep_44 rfl rfl ?_
        refine R_istore (n := 47) dX8_asleep_45 rfl (Nat.le_of_ble_eq_true rfl) (Nat.le_of_ble_eq_true rfl) ?_
        refine R_aload_n (n := 48) dX8_asleep_47 rfl rfl ?_
        refine ge_X8_50 (n := 51) dX8_asleep_48 rfl (h.2.1.1) ?_
        refine R_aload_n (n := 52) dX8_asleep_51 rfl rfl ?_
        refine gf_X8_16 (n := 55) dX8_asleep_52 rfl ?_
        refine R_bipush (v := nI 53) (n := 57) dX8_asleep_55 rfl rfl ?_
        refine R_iald_e (n := 58) sh_128 (rfl) (by omega) dX8_asleep_57 rfl (m6) ?_
        refine R_isub_n (n := 59) dX8_asleep_58 ((by omega)) rfl ?_
        rw [hlf]
        refine R_istore (n := 61) dX8_asleep_59 rfl (Nat.le_of_ble_eq_true rfl) (Nat.le_of_ble_eq_true rfl) ?_
        refine R_iconst (v := nI 0) (n := 62) dX8_asleep_61 rfl rfl ?_
        refine R_istore (n := 64) dX8_asleep_62 rfl (Nat.le_of_ble_eq_true rfl) (Nat.le_of_ble_eq_true rfl) ?_
        have fin : ∀ (won : Int32) (μ1 : Mem) (j8 j9 j10 j11 : Option Value), Sme Qrm μ μ1 → bab won (32 * 100000) → V G l RX8 cX8_asleep 12 4 false (some .int) (fun r μ' => r = some (.int (tfF won (pw (nI 10) lf) up)) ∧ Sme Qrm μ μ') 207 [some (.ref (G.2.2.1 125)), some (.int (nI v)), some (.int (nI pl)), some (.int (nI tn)), some (.int (bi up)), some (.int won), some (.int (pw (nI 10) lf)), some (.int (nI lf)), j8, j9, j10, j11] [] μ1 := by
          intro won μ1 j8 j9 j10 j11 hs hb
          obtain ⟨w1, w2, w3⟩ := pw_10 lf (by omega)
          rw [w1]
          obtain ⟨t1, t2, t3⟩ := tf_eq (B := 10 ^ lf) up hb (by omega) w2 w3
          refine R_iload (n := 209) dX8_asleep_207 rfl rfl ?_
          refine R_iload (n := 211) dX8_asleep_209 rfl rfl ?_
          refine iv_X8_166 (n := 214) (ct_X8_common t1) (by decide) dX8_asleep_211 rfl (Nat.le_of_ble_eq_true rfl) (fun r μ' hq => ?_)
          obtain ⟨rfl, hq⟩ := hq
          have hq := hq.symm
          subst hq
          rw [← t3]
          refine R_istore (n := 216) dX8_asleep_214 rfl (Nat.le_of_ble_eq_true rfl) (Nat.le_of_ble_eq_true rfl) ?_
          refine R_iload (n := 218) dX8_asleep_216 rfl rfl ?_
          cases up with
          | true =>
            refine R_if_eq_f (n := 221) dX8_asleep_218 rfl rfl (by decide) ?_
            refine R_iload (n := 223) dX8_asleep_221 rfl rfl ?_
            refine R_iload (n := 225) dX8_asleep_223 rfl rfl ?_
            refine R_idiv (n := 226) dX8_asleep_225 (t2) rfl ?_
            refine R_goto (tgt := 234) dX8_asleep_226 rfl ?_
            refine R_iret dX8_asleep_234 rfl (rfl) (⟨rfl, hs⟩)
          | false =>
            refine R_if_eq_t (tgt := 229) dX8_asleep_218 rfl (by decide) ?_
            refine R_iload (n := 231) dX8_asleep_229 rfl rfl ?_
            refine R_iload (n := 233) dX8_asleep_231 rfl rfl ?_
            refine R_idiv (n := 234) dX8_asleep_233 (t2) rfl ?_
            refine R_iret dX8_asleep_234 rfl (rfl) (⟨rfl, hs⟩)
        have loop : ∀ (f s : Nat) (won all : Int32) (μ1 : Mem) (j9 j10 j11 : Option Value), s + f = 2 ^ lf → Sme Qrm μ μ1 → bab (asL (isW (gC σ) (gS σ) v pl) tn lf f s won) (32 * 100000) → alL tn lf f s all = pw (nI 10) lf → V G l RX8 cX8_asleep 12 4 false (some .int) (fun r μ' => r = some (.int (tfF (asL (isW (gC σ) (gS σ) v pl) tn lf f s won) (pw (nI 10) lf) up)) ∧ Sme Qrm μ μ') 64 [some (.ref (G.2.2.1 125)), some (.int (nI v)), some (.int (nI pl)), some (.int (nI tn)), some (.int (bi up)), some (.int won), some (.int all), some (.int (nI lf)), some (.int (nI s)), j9, j10, j11] [] μ1 := by
          intro f
          induction f with
          | zero =>
            intro s won all μ1 j9 j10 j11 hf hs hb ha
            rw [asL] at hb ⊢
            rw [alL] at ha
            rw [ha]
            refine R_iload (n := 66) dX8_asleep_64 rfl rfl ?_
            refine R_iconst (v := nI 1) (n := 67) dX8_asleep_66 rfl rfl ?_
            refine R_iload (n := 69) dX8_asleep_67 rfl rfl ?_
            refine R_ishl (n := 70) dX8_asleep_69 rfl ?_
            rw [hbt]
            refine R_icmp_ge_t (tgt := 207) dX8_asleep_70 rfl (by rw [nI_leI (by omega) (by omega)]; omega) ?_
            exact fin won μ1 _ _ _ _ hs hb
          | succ f ih =>
            intro s won all μ1 j9 j10 j11 hf hs hb ha
            have hs64 : s < 64 := by omega
            rw [asL] at hb ⊢
            rw [alL] at ha
            rw [← wl_pw tn ht11 lf (by omega) s (by omega)] at hb ⊢
            refine R_iload (n := 66) dX8_asleep_64 rfl rfl ?_
            refine R_iconst (v := nI 1) (n := 67) dX8_asleep_66 rfl rfl ?_
            refine R_iload (n := 69) dX8_asleep_67 rfl rfl ?_
            refine R_ishl (n := 70) dX8_asleep_69 rfl ?_
            rw [hbt]
            refine R_icmp_ge_f (n := 73) dX8_asleep_70 rfl rfl (by rw [nI_leI (by omega) (by omega)]; omega) ?_
            refine R_iconst (v := nI 1) (n := 74) dX8_asleep_73 rfl rfl ?_
            refine R_istore (n := 76) dX8_asleep_74 rfl (Nat.le_of_ble_eq_true rfl) (Nat.le_of_ble_eq_true rfl) ?_
            refine R_aload_n (n := 77) dX8_asleep_76 rfl rfl ?_
            refine iv_X8_126 (n := 80) (ct_X8_layTrial ((h.q w).kept hs)) (by decide) dX8_asleep_77 rfl (Nat.le_of_ble_eq_true rfl) (fun r μ' hq => ?_)
            obtain ⟨rfl, -, g1, g2, g3⟩ := hq
            have hs2 : Sme Qrm μ μ' := hs.tr g3.qm
            have hI2 := h.kept w hs2
            refine R_iconst (v := nI 0) (n := 81) dX8_asleep_80 rfl rfl ?_
            refine R_istore (n := 83) dX8_asleep_81 rfl (Nat.le_of_ble_eq_true rfl) (Nat.le_of_ble_eq_true rfl) ?_
            refine down (z := lf) (P := fun j => ∀ (μ2 : Mem) (j11 : Option Value), (∀ k, k < (gC σ).2.1 → μ2.1 128 (66 + k) = nI (if sPsd (gS σ) ≤ k ∧ k < sPsd (gS σ) + j ∧ tb s (k - sPsd (gS σ)) = 1 then 0 else sLaw (gS σ) k)) → Sme (fun i j => i = 128 ∧ 66 ≤ j ∧ j < 71) μ' μ2 → V G l RX8 cX8_asleep 12 4 false (some .int) (fun r μ' => r = some (.int (tfF (asL (isW (gC σ) (gS σ) v pl) tn lf f (s + 1) (if isW (gC σ) (gS σ) v pl s = true then won + wlF tn s lf else won)) (pw (nI 10) lf) up)) ∧ Sme Qrm μ μ') 83 [some (.ref _), some (.int (nI v)), some (.int (nI pl)), some (.int (nI tn)), some (.int (bi up)), some (.int won), some (.int all), some (.int (nI lf)), some (.int (nI s)), some (.int (wlF tn s j)), some (.int (nI j)), j11] [] μ2) ?_ ?_ 0 (Nat.zero_le _) μ' _ (fun k hk => ?_) (Sme.rf _ _)
            · intro μ2 j11 d1 d2
              have hs3 : Sme Qrm μ μ2 := hs2.tr (d2.mono (fun i j z => by omega))
              have hM3 := (h.kept w hs3).2.1
              have hT3 : MSt μ2 128 54 (gC σ).1 (gC σ) (slS (gC σ) (gS σ) s) := by
                obtain ⟨t1, t2, t3, t4, t5, t6⟩ := g1
                refine ⟨fun q hq => (d2.1 _ _ (by omega)).trans (t1 q hq), fun q hq => (d2.1 _ _ (by omega)).trans (t2 q hq), fun q hq => ?_, fun q hq => (d2.1 _ _ (by omega)).trans (t4 q hq), fun q hq => (d2.1 _ _ (by omega)).trans (t5 q hq), (d2.1 _ _ (by omega)).trans t6⟩
                have hq' : q < (gC σ).2.1 := hq
                show μ2.1 128 (66 + q) = nI (if sPsd (gS σ) ≤ q ∧ tb s (q - sPsd (gS σ)) = 1 then 0 else sLaw (gS σ) q)
                rw [d1 q hq']
                by_cases e : sPsd (gS σ) ≤ q ∧ tb s (q - sPsd (gS σ)) = 1
                · rw [if_pos e, if_pos ⟨e.1, by omega, e.2⟩]
                · rw [if_neg e, if_neg (fun z => e ⟨z.1, z.2.2⟩)]
              have hO3 : Ok (gC σ) (gC σ).1 (slS (gC σ) (gS σ) s) := ⟨o1, o2, o3, o4, fun k hk => by
                show (if sPsd (gS σ) ≤ k ∧ tb s (k - sPsd (gS σ)) = 1 then 0 else sLaw (gS σ) k) < 4
                split
                · omega
                · exact o5 k hk, o6⟩
              refine R_iload (n := 85) dX8_asleep_83 rfl rfl ?_
              refine R_iload (n := 87) dX8_asleep_85 rfl rfl ?_
              refine R_icmp_ge_t (tgt := 162) dX8_asleep_87 rfl (by rw [nI_leI (by omega) (by omega)]; omega) ?_
              refine R_aload_n (n := 163) dX8_asleep_162 rfl rfl ?_
              refine R_aload_n (n := 164) dX8_asleep_163 rfl rfl ?_
              refine ge_X8_83 (n := 167) dX8_asleep_164 rfl (hM3.2.1) ?_
              refine iv_X8_129 (n := 170) (ct_X8_passAll (w0 := fun j => μ2.1 132 j) hM3 hT3 (fun _ _ => rfl) hO3) (by decide) dX8_asleep_167 rfl (Nat.le_of_ble_eq_true rfl) (fun r μ9 hq => ?_)
              obtain ⟨rfl, f1, -, f3⟩ := hq
              have hs4 := hs3.tr f3.qm
              refine R_iload (n := 172) dX8_asleep_170 rfl rfl ?_
              refine R_iload (n := 174) dX8_asleep_172 rfl rfl ?_
              refine R_iadd (n := 175) dX8_asleep_174 rfl ?_
              refine R_istore (n := 177) dX8_asleep_175 rfl (Nat.le_of_ble_eq_true rfl) (Nat.le_of_ble_eq_true rfl) ?_
              refine R_iload (n := 179) dX8_asleep_177 rfl rfl ?_
              refine R_aload_n (n := 180) dX8_asleep_179 rfl rfl ?_
              refine gf_X8_16 (n := 183) dX8_asleep_180 rfl ?_
              refine R_bipush (v := nI 54) (n := 185) dX8_asleep_183 rfl rfl ?_
              refine R_iload_n (n := 186) dX8_asleep_185 rfl rfl ?_
              refine R_iadd_n (n := 187) dX8_asleep_186 rfl ?_
              refine R_iald_e (n := 188) sh_128 (rfl) (by omega) dX8_asleep_187 rfl (f1.1 pl hpl) ?_
              refine R_iload_n (n := 189) dX8_asleep_188 rfl rfl ?_
              have hw : isW (gC σ) (gS σ) v pl s = decide (sRow (bas (gC σ) (slS (gC σ) (gS σ) s)) pl = v) := rfl
              by_cases e : sRow (bas (gC σ) (slS (gC σ) (gS σ) s)) pl = v
              · rw [hw, decide_eq_true e] at hb ⊢
                rw [if_pos rfl] at hb ⊢
                refine R_icmp_ne_f (n := 192) dX8_asleep_189 rfl rfl (congrArg nI e) ?_
                refine R_iload (n := 194) dX8_asleep_192 rfl rfl ?_
                refine R_goto (tgt := 198) dX8_asleep_194 rfl ?_
                refine R_iadd (n := 199) dX8_asleep_198 rfl ?_
                refine R_istore (n := 201) dX8_asleep_199 rfl (Nat.le_of_ble_eq_true rfl) (Nat.le_of_ble_eq_true rfl) ?_
                refine R_iinc (n := 204) dX8_asleep_201 rfl rfl (nI_1 _) (Nat.le_of_ble_eq_true rfl) ?_
                refine R_goto (tgt := 64) dX8_asleep_204 rfl ?_
                exact ih (s + 1) _ _ _ _ _ _ (by omega) hs4 hb ha
              · rw [hw, decide_eq_false e] at hb ⊢
                rw [if_neg (by decide)] at hb ⊢
                have hlt := (ok_gos ((gC σ).2.1 - sPsd (gS σ)) _ hO3 (by show sPsd (gS σ) + _ ≤ _; omega)).2.2.2.1 pl hpl
                have hlt2 : sRow (bas (gC σ) (slS (gC σ) (gS σ) s)) pl < (gC σ).1 := hlt
                refine R_icmp_ne_t (tgt := 197) dX8_asleep_189 rfl (by show ¬ nI (sRow (bas (gC σ) (slS (gC σ) (gS σ) s)) pl) = nI v; rw [nI_eq (by omega) (by omega)]; exact e) ?_
                refine R_iconst (v := nI 0) (n := 198) dX8_asleep_197 rfl rfl ?_
                refine R_iadd (n := 199) dX8_asleep_198 rfl ?_
                refine R_istore (n := 201) dX8_asleep_199 rfl (Nat.le_of_ble_eq_true rfl) (Nat.le_of_ble_eq_true rfl) ?_
                refine R_iinc (n := 204) dX8_asleep_201 rfl rfl (nI_1 _) (Nat.le_of_ble_eq_true rfl) ?_
                refine R_goto (tgt := 64) dX8_asleep_204 rfl ?_
                rw [show won + nI 0 = won by rw [Int32.add_comm]; exact Int32.zero_add _]
                exact ih (s + 1) _ _ _ _ _ _ (by omega) hs4 hb ha
            · intro j hj ihj μ2 j11 d1 d2
              have hs3 : Sme Qrm μ μ2 := hs2.tr (d2.mono (fun i j z => by omega))
              have hp3 := (m0 (h.kept w hs3).2.2.1).2.2.2.2.2
              have tb2 := tb_le s j
              have fin2 : ∀ (y : Nat) (wv : Int32), y = (if tb s j = 1 then 0 else sLaw (gS σ) (sPsd (gS σ) + j)) → wv = wlF tn s (j + 1) → V G l RX8 cX8_asleep 12 4 false (some .int) (fun r μ' => r = some (.int (tfF (asL (isW (gC σ) (gS σ) v pl) tn lf f (s + 1) (if isW (gC σ) (gS σ) v pl s = true then won + wlF tn s lf else won)) (pw (nI 10) lf) up)) ∧ Sme Qrm μ μ') 155 [some (.ref (G.2.2.1 125)), some (.int (nI v)), some (.int (nI pl)), some (.int (nI tn)), some (.int (bi up)), some (.int won), some (.int all), some (.int (nI lf)), some (.int (nI s)), some (.int wv), some (.int (nI j)), some (.int (nI (66 + sPsd (gS σ) + j)))] [.int (nI y), .int (nI (66 + sPsd (gS σ) + j)), .ref (G.2.2.1 128)] μ2 := by
                intro y wv hy hwv
                subst hwv
                refine R_iast (n := 156) sh_128 (rfl) (by omega) dX8_asleep_155 rfl ?_
                refine R_iinc (n := 159) dX8_asleep_156 rfl rfl (nI_1 _) (Nat.le_of_ble_eq_true rfl) ?_
                refine R_goto (tgt := 83) dX8_asleep_159 rfl ?_
                refine ihj _ _ (fun k hk => ?_) (d2.sti (by omega))
                rw [sti_1]
                by_cases e : k = sPsd (gS σ) + j
                · rw [if_pos ⟨rfl, by omega⟩, hy, e, show sPsd (gS σ) + j - sPsd (gS σ) = j by omega]
                  by_cases e2 : tb s j = 1
                  · rw [if_pos e2, if_pos ⟨by omega, by omega, e2⟩]
                  · rw [if_neg e2, if_neg (fun z => e2 z.2.2)]
                · rw [if_neg (by omega), d1 k hk]
                  by_cases e2 : sPsd (gS σ) ≤ k ∧ k < sPsd (gS σ) + j ∧ tb s (k - sPsd (gS σ)) = 1
                  · rw [if_pos e2, if_pos ⟨e2.1, by omega, e2.2.2⟩]
                  · rw [if_neg e2, if_neg (fun z => e2 ⟨z.1, by omega, z.2.2⟩)]
              refine R_iload (n := 85) dX8_asleep_83 rfl rfl ?_
              refine R_iload (n := 87) dX8_asleep_85 rfl rfl ?_
              refine R_icmp_ge_f (n := 90) dX8_asleep_87 rfl rfl (by rw [nI_leI (by omega) (by omega)]; omega) ?_
              refine R_iload (n := 92) dX8_asleep_90 rfl rfl ?_
              refine R_iload (n := 94) dX8_asleep_92 rfl rfl ?_
              refine R_iload (n := 96) dX8_asleep_94 rfl rfl ?_
              refine iv_X8_139 (n := 99) (ct_X8_has hs64 (by omega)) (by decide) dX8_asleep_96 rfl (Nat.le_of_ble_eq_true rfl) (fun r μ' hq => ?_)
              obtain ⟨rfl, hq⟩ := hq
              have hq := hq.symm
              subst hq
              by_cases e2 : tb s j = 1
              · rw [decide_eq_true e2]
                refine R_if_eq_f (n := 102) dX8_asleep_99 rfl rfl (by decide) ?_
                refine R_iload_n (n := 103) dX8_asleep_102 rfl rfl ?_
                refine R_goto (tgt := 110) dX8_asleep_103 rfl ?_
                refine R_imul (n := 111) dX8_asleep_110 rfl ?_
                refine R_istore (n := 113) dX8_asleep_111 rfl (Nat.le_of_ble_eq_true rfl) (Nat.le_of_ble_eq_true rfl) ?_
                refine R_bipush (v := nI 66) (n := 115) dX8_asleep_113 rfl rfl ?_
                refine R_aload_n (n := 116) dX8_asleep_115 rfl rfl ?_
                refine gf_X8_16 (n := 119) dX8_asleep_116 rfl ?_
                refine R_bipush (v := nI 53) (n := 121) dX8_asleep_119 rfl rfl ?_
                refine R_iald_e (n := 122) sh_128 (rfl) (by omega) dX8_asleep_121 rfl (hp3) ?_
                refine R_iadd_n (n := 123) dX8_asleep_122 rfl ?_
                refine R_iload (n := 125) dX8_asleep_123 rfl rfl ?_
                refine R_iadd_n (n := 126) dX8_asleep_125 rfl ?_
                refine R_istore (n := 128) dX8_asleep_126 rfl (Nat.le_of_ble_eq_true rfl) (Nat.le_of_ble_eq_true rfl) ?_
                refine R_aload_n (n := 129) dX8_asleep_128 rfl rfl ?_
                refine gf_X8_16 (n := 132) dX8_asleep_129 rfl ?_
                refine R_iload (n := 134) dX8_asleep_132 rfl rfl ?_
                refine R_iload (n := 136) dX8_asleep_134 rfl rfl ?_
                refine R_iload (n := 138) dX8_asleep_136 rfl rfl ?_
                refine iv_X8_139 (n := 141) (ct_X8_has hs64 (by omega)) (by decide) dX8_asleep_138 rfl (Nat.le_of_ble_eq_true rfl) (fun r μ' hq => ?_)
                obtain ⟨rfl, hq⟩ := hq
                have hq := hq.symm
                subst hq
                rw [decide_eq_true e2]
                refine R_if_eq_f (n := 144) dX8_asleep_141 rfl rfl (by decide) ?_
                refine R_iconst (v := nI 0) (n := 145) dX8_asleep_144 rfl rfl ?_
                refine R_goto (tgt := 155) dX8_asleep_145 rfl ?_
                exact fin2 0 _ (by rw [if_pos e2]) (by rw [wlF, if_pos e2])
              · rw [decide_eq_false e2]
                refine R_if_eq_t (tgt := 106) dX8_asleep_99 rfl (by decide) ?_
                refine R_bipush (v := nI 10) (n := 108) dX8_asleep_106 rfl rfl ?_
                refine R_iload_n (n := 109) dX8_asleep_108 rfl rfl ?_
                refine R_isub_n (n := 110) dX8_asleep_109 ((by omega)) rfl ?_
                refine R_imul (n := 111) dX8_asleep_110 rfl ?_
                refine R_istore (n := 113) dX8_asleep_111 rfl (Nat.le_of_ble_eq_true rfl) (Nat.le_of_ble_eq_true rfl) ?_
                refine R_bipush (v := nI 66) (n := 115) dX8_asleep_113 rfl rfl ?_
                refine R_aload_n (n := 116) dX8_asleep_115 rfl rfl ?_
                refine gf_X8_16 (n := 119) dX8_asleep_116 rfl ?_
                refine R_bipush (v := nI 53) (n := 121) dX8_asleep_119 rfl rfl ?_
                refine R_iald_e (n := 122) sh_128 (rfl) (by omega) dX8_asleep_121 rfl (hp3) ?_
                refine R_iadd_n (n := 123) dX8_asleep_122 rfl ?_
                refine R_iload (n := 125) dX8_asleep_123 rfl rfl ?_
                refine R_iadd_n (n := 126) dX8_asleep_125 rfl ?_
                refine R_istore (n := 128) dX8_asleep_126 rfl (Nat.le_of_ble_eq_true rfl) (Nat.le_of_ble_eq_true rfl) ?_
                refine R_aload_n (n := 129) dX8_asleep_128 rfl rfl ?_
                refine gf_X8_16 (n := 132) dX8_asleep_129 rfl ?_
                refine R_iload (n := 134) dX8_asleep_132 rfl rfl ?_
                refine R_iload (n := 136) dX8_asleep_134 rfl rfl ?_
                refine R_iload (n := 138) dX8_asleep_136 rfl rfl ?_
                refine iv_X8_139 (n := 141) (ct_X8_has hs64 (by omega)) (by decide) dX8_asleep_138 rfl (Nat.le_of_ble_eq_true rfl) (fun r μ' hq => ?_)
                obtain ⟨rfl, hq⟩ := hq
                have hq := hq.symm
                subst hq
                rw [decide_eq_false e2]
                refine R_if_eq_t (tgt := 148) dX8_asleep_141 rfl (by decide) ?_
                have hl := d1 (sPsd (gS σ) + j) (by omega)
                rw [if_neg (by omega), ← Nat.add_assoc] at hl
                refine R_aload_n (n := 149) dX8_asleep_148 rfl rfl ?_
                refine gf_X8_16 (n := 152) dX8_asleep_149 rfl ?_
                refine R_iload (n := 154) dX8_asleep_152 rfl rfl ?_
                refine R_iald_e (n := 155) sh_128 (rfl) (by omega) dX8_asleep_154 rfl (hl) ?_
                exact fin2 _ _ (by rw [if_neg e2]) (by rw [wlF, if_neg e2])
            · rw [if_neg (by omega)]
              exact g1.2.2.1 k hk
        refine loop (2 ^ lf) 0 (nI 0) (nI 0) μ _ _ _ (by omega) (Sme.rf _ _) ?_ (al_all tn ht11 lf (by omega))
        have b := asL_bab (p := isW (gC σ) (gS σ) v pl) ht11 (show lf < 6 by omega) (2 ^ lf) 0 0 (nI 0) (by omega) (by omega) ⟨by decide, by decide⟩
        exact ⟨by have := b.1; omega, by have := b.2; omega⟩
end M15

