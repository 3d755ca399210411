section SD
variable {G : Gm} {l : Launch} {own : String} {cc : ByteArray} {nL dep : Nat} {lg : Bool} {ret : Option FieldType} {Q : Option Value → Mem → Prop} {pc n : Nat} {lo : List (Option Value)} {st : List Value} {μ : Mem} {σ : GS}
theorem lm_ent {As : List Value} {lo : List (Option Value)} (h : (lg_sl As).length ≤ nL) (hlo : ∀ (i : Nat) (v : Value), lo[i]? = some (some v) → (i, v) ∈ lv_args 0 As) : lm true ((lg_sl As ++ List.replicate (nL - (lg_sl As).length) Slot.unset).toArray) nL lo := by
  have hl := lv_entry As (n := nL) h
  exact ⟨hl.1, hl.2.1, fun i v hi => ⟨hl.2.2 _ (hlo i v hi), fun z => by cases z⟩⟩
theorem R_lstore_n {j : Fin 4} {x : Int64} (hdg : decode cc pc = .ok (.lstore_n j, 1)) (hn : pc + 1 = n) (hi : (j : Nat) < lo.length) (hi2 : (j : Nat) + 1 < nL) (hfree : ∀ (i : Nat) (v : Value), lo[i]? = some (some v) → i ≠ (j : Nat) ∧ i ≠ (j : Nat) + 1 ∧ i + 1 ≠ (j : Nat)) (k : V G l own cc nL dep true ret Q n (lo.set (j : Nat) (some (.long x))) st μ) : V G l own cc nL dep true ret Q pc lo (.long x :: st) μ := by
  subst hn
  intro p e R s m args below meth c H locs cells slots Qf ls hC hH hL hF
  refine lv_lstore_n hC.1 hC.2.1 hdg rfl (lm_has hL) hi2 rfl (fun ls' h' => k p e R s m args below meth c H locs cells slots Qf ls' hC hH ⟨h'.1, h'.2.1, fun i v hiv => ⟨?_, fun z => by cases z⟩⟩ hF)
  by_cases e1 : (j : Nat) = i
  · rw [← e1, List.getElem?_set_self hi] at hiv
    cases hiv
    rw [← e1]
    exact h'.2.2 _ List.mem_cons_self
  · rw [List.getElem?_set_ne e1] at hiv
    obtain ⟨f1, f2, f3⟩ := hfree i v hiv
    refine h'.2.2 (i, v) (List.mem_cons_of_mem _ (List.mem_filter.mpr ⟨?_, ?_⟩))
    · have := (prs_mem i v lo 0).mpr hiv
      rwa [Nat.zero_add] at this
    · simp [f1, f2, f3]
theorem CI.wZ (h : CI μ σ) (z : Int64) : CI (stl μ 0 z) (setZ σ z) := ⟨h.1, h.2.1, h.2.2.1, h.2.2.2.1, h.2.2.2.2.1, by rw [stl_2, if_pos rfl]; rfl⟩
theorem CI.qz {z : Int64} (h : CI μ (setZ σ z)) (w : WF σ) : Qc μ (gC σ) (gS σ) := ⟨h.2.1, h.2.2.1, w.1.1, w.1.2.1⟩
theorem SmC.stl (μ : Mem) (z : Int64) : SmC μ (stl μ 0 z) := ⟨fun _ _ _ => rfl, by rw [stl_2, if_neg (by decide)]⟩
theorem ct_X7_seed (h : CI μ σ) (v : Int64) : Ct G l 1 yX7_seed cX7_seed 5 (some .long) [.ref (G.2.2.1 0), .long v] μ (fun r μ' => r = some (.long (gZ σ)) ∧ CI μ' (setZ σ v) ∧ SmC μ μ') := by
  refine Ct.ofLm (lg := true) (lo := [some (.ref (G.2.2.1 0)), some (.long v), none, none, none]) (by decide +kernel) (lm_ent (Nat.le_of_ble_eq_true rfl) (fun i w hi => ?_)) ?_
  · match i, hi with
    | 0, hi => cases hi; exact List.mem_cons_self
    | 1, hi => cases hi; exact List.mem_cons_of_mem _ List.mem_cons_self
    | 2, hi => cases hi
    | 3, hi => cases hi
    | 4, hi => cases hi
    | i + 5, hi => simp at hi
  show V G l RX7 cX7_seed 5 1 true (some .long) _ 0 [some (.ref (G.2.2.1 0)), some (.long v), none, none, none] [] μ
  refine R_aload_n (n := 1) dX7_seed_0 rfl rfl ?_
  refine gf_X7_218 (n := 4) dX7_seed_1 rfl ?_
  refine R_lstore_n (n := 5) dX7_seed_4 rfl (Nat.le_of_ble_eq_true rfl) (Nat.le_of_ble_eq_true rfl) (fun i w hi => ?_) ?_
  · match i, hi with
    | 0, hi => exact ⟨by decide, by decide, by decide⟩
    | 1, hi => exact ⟨by decide, by decide, by decide⟩
    | 2, hi => cases hi
    | 3, hi => cases hi
    | 4, hi => cases hi
    | i + 5, hi => simp at hi
  refine R_aload_n (n := 6) dX7_seed_5 rfl rfl ?_
  refine R_lload_n (n := 7) dX7_seed_6 rfl rfl ?_
  refine pf_X7_218 (n := 10) dX7_seed_7 rfl ?_
  refine R_lload_n (n := 11) dX7_seed_10 rfl rfl ?_
  rw [h.2.2.2.2.2]
  refine R_lret dX7_seed_11 rfl (⟨rfl, h.wZ v, SmC.stl _ _⟩)
theorem ct_X7_days (h : CI μ σ) (w : WF σ) (x y : Int32) : Ct G l 6 yX7_days cX7_days 6 (some .int) [.ref (G.2.2.1 0), .int x, .int y] μ (fun r μ' => r = some (.int (fDays σ x y).1) ∧ CI μ' (fDays σ x y).2 ∧ SmC μ μ') := by
  obtain ⟨o1, o2, o3, o4, o5, o6⟩ := id w.1.1
  refine Ct.of 3 (by decide +kernel) rfl (Nat.le_of_ble_eq_true rfl) ?_
  show V G l RX7 cX7_days 6 _ false _ _ 0 [some (.ref _), some (.int _), some (.int _), none, none, none] [] _
  refine R_aload_n (n := 1) dX7_days_0 rfl rfl ?_
  refine gf_X7_19 (n := 4) dX7_days_1 rfl ?_
  refine R_iload_n (n := 5) dX7_days_4 rfl rfl ?_
  refine iv_X7_77 (n := 8) (ct_X1_hasBarge x h.2.1.2.1) (by decide) dX7_days_5 rfl (Nat.le_of_ble_eq_true rfl) (fun r μ' hq => ?_)
  obtain ⟨rfl, hq⟩ := hq
  have hq := hq.symm
  subst hq
  cases hx : inR x (gC σ).1 with
  | false =>
    rw [show fDays σ x y = (-1, σ) by rw [fDays, hx]; rfl]
    refine R_if_ne_f (n := 11) dX7_days_8 rfl rfl (by decide) ?_
    refine R_iconst (v := -1) (n := 12) dX7_days_11 rfl rfl ?_
    refine R_iret dX7_days_12 rfl (rfl) (⟨rfl, h, SmC.rf _⟩)
  | true =>
    obtain ⟨hxl, hxe⟩ := inR_cl (by omega) hx
    have hF : fDays σ x y = if y < nI 1 ∨ nI 30 < y then (-2, σ)
    else (nI (dyL (gC σ) (gS σ) x.toNatClampNeg y.toNatClampNeg (gZ σ) 0).1, setZ σ (dyL (gC σ) (gS σ) x.toNatClampNeg y.toNatClampNeg (gZ σ) 0).2) := by rw [fDays, hx]; rfl
    rw [hF]
    clear hF hx
    generalize x.toNatClampNeg = j at *
    subst hxe
    refine R_if_ne_t (tgt := 13) dX7_days_8 rfl (by decide) ?_
    refine R_iload_n (n := 14) dX7_days_13 rfl rfl ?_
    refine R_iconst (v := nI 1) (n := 15) dX7_days_14 rfl rfl ?_
    refine R_icmp_lt (n := 18) (tgt := 24) dX7_days_15 rfl rfl (fun h1 => ?_) (fun h1 => ?_)
    · rw [if_pos (Or.inl h1)]
      refine R_bipush (v := -2) (n := 26) dX7_days_24 rfl rfl ?_
      refine R_iret dX7_days_26 rfl (rfl) (⟨rfl, h, SmC.rf _⟩)
    · refine R_iload_n (n := 19) dX7_days_18 rfl rfl ?_
      refine R_bipush (v := nI 30) (n := 21) dX7_days_19 rfl rfl ?_
      refine R_icmp_le (n := 24) (tgt := 27) dX7_days_21 rfl rfl (fun h2 => ?_) (fun h2 => ?_)
      · rw [if_neg (fun q => q.elim h1 (fun q => absurd h2 (Int32.not_le.mpr q)))]
        obtain ⟨m, hm, rfl⟩ := nI_of (x := y) (fun z => h1 (Int32.lt_trans z (by decide)))
        rw [nI_clamp hm]
        rw [nI_leI (by omega) (by omega)] at h2
        refine R_iconst (v := nI 0) (n := 28) dX7_days_27 rfl rfl ?_
        refine R_istore_n (n := 29) dX7_days_28 rfl (Nat.le_of_ble_eq_true rfl) (Nat.le_of_ble_eq_true rfl) ?_
        refine R_iconst (v := nI 0) (n := 30) dX7_days_29 rfl rfl ?_
        refine R_istore (n := 32) dX7_days_30 rfl (Nat.le_of_ble_eq_true rfl) (Nat.le_of_ble_eq_true rfl) ?_
        have loop : ∀ (f k c : Nat) (z : Int64) (μ1 : Mem) (j5 : Option Value), k + f = m → c ≤ k → CI μ1 (setZ σ z) → SmC μ μ1 → V G l RX7 cX7_days 6 6 false (some .int) (fun r μ' => r = some (.int (nI (dyL (gC σ) (gS σ) j f z c).1)) ∧ CI μ' (setZ σ (dyL (gC σ) (gS σ) j f z c).2) ∧ SmC μ μ') 32 [some (.ref (G.2.2.1 0)), some (.int (nI j)), some (.int (nI m)), some (.int (nI c)), some (.int (nI k)), j5] [] μ1 := by
          intro f
          induction f with
          | zero =>
            intro k c z μ1 j5 a1 a2 a3 a4
            refine R_iload (n := 34) dX7_days_32 rfl rfl ?_
            refine R_iload_n (n := 35) dX7_days_34 rfl rfl ?_
            refine R_icmp_ge_t (tgt := 94) dX7_days_35 rfl (by rw [nI_leI (by omega) (by omega)]; omega) ?_
            refine R_iload_n (n := 95) dX7_days_94 rfl rfl ?_
            refine R_iret dX7_days_95 rfl (rfl) (⟨rfl, a3, a4⟩)
          | succ f ih =>
            intro k c z μ1 j5 a1 a2 a3 a4
            refine R_iload (n := 34) dX7_days_32 rfl rfl ?_
            refine R_iload_n (n := 35) dX7_days_34 rfl rfl ?_
            refine R_icmp_ge_f (n := 38) dX7_days_35 rfl rfl (by rw [nI_leI (by omega) (by omega)]; omega) ?_
            refine R_aload_n (n := 39) dX7_days_38 rfl rfl ?_
            refine R_aload_n (n := 40) dX7_days_39 rfl rfl ?_
            refine gf_X7_218 (n := 43) dX7_days_40 rfl ?_
            rw [a3.2.2.2.2.2, show gZ (setZ σ z) = z from rfl]
            refine R_ldc2 (n := 46) dX7_days_43 tK_RX7_222 rfl ?_
            refine R_lmul (n := 47) dX7_days_46 rfl ?_
            refine R_ldc2 (n := 50) dX7_days_47 tK_RX7_224 rfl ?_
            refine R_ladd (n := 51) dX7_days_50 rfl ?_
            refine pf_X7_218 (n := 54) dX7_days_51 rfl ?_
            refine R_aload_n (n := 55) dX7_days_54 rfl rfl ?_
            refine gf_X7_218 (n := 58) dX7_days_55 rfl ?_
            rw [stl_2, if_pos rfl, ← nxZ]
            have b3 : CI (stl μ1 0 (nxZ z)) (setZ σ (nxZ z)) := CI.wZ a3 (nxZ z)
            have b4 : SmC μ (stl μ1 0 (nxZ z)) := a4.tr (SmC.stl _ _)
            generalize stl μ1 0 (nxZ z) = μ2 at *
            have e := zst_eq (nxZ z)
            dsimp only at e
            have hs : stZ (nxZ z) < 64 := Nat.mod_lt _ (by decide)
            refine R_bipush (v := nI 33) (n := 60) dX7_days_58 rfl rfl ?_
            refine R_lushr (n := 61) dX7_days_60 rfl ?_
            refine R_ldc2 (n := 64) dX7_days_61 tK_RX7_226 rfl ?_
            refine R_lrem (n := 65) dX7_days_64 (by decide) rfl ?_
            refine R_l2i (n := 66) dX7_days_65 rfl ?_
            rw [e]
            refine R_istore (n := 68) dX7_days_66 rfl (Nat.le_of_ble_eq_true rfl) (Nat.le_of_ble_eq_true rfl) ?_
            refine R_aload_n (n := 69) dX7_days_68 rfl rfl ?_
            refine gf_X7_47 (n := 72) dX7_days_69 rfl ?_
            refine R_aload_n (n := 73) dX7_days_72 rfl rfl ?_
            refine gf_X7_19 (n := 76) dX7_days_73 rfl ?_
            refine R_iload_n (n := 77) dX7_days_76 rfl rfl ?_
            refine R_iload (n := 79) dX7_days_77 rfl rfl ?_
            refine iv_X7_228 (n := 82) (ct_X2_isFirstIfAllGive (b3.qz w) hxl hs) (by decide) dX7_days_79 rfl (Nat.le_of_ble_eq_true rfl) (fun r μ' hq => ?_)
            obtain ⟨rfl, s1⟩ := hq
            have c3 : CI μ' (setZ σ (nxZ z)) := b3.kept (s1.mono (fun i j h => Or.inl h))
            have c4 : SmC μ μ' := b4.tr (s1.C (fun i j h => by omega))
            rw [dyL]
            cases hf : fgF (gC σ) (gS σ) j (stZ (nxZ z)) with
            | true =>
              rw [if_pos rfl]
              refine R_if_eq_f (n := 85) dX7_days_82 rfl rfl (by decide) ?_
              refine R_iinc (n := 88) dX7_days_85 rfl rfl (nI_1 _) (Nat.le_of_ble_eq_true rfl) ?_
              refine R_iinc (n := 91) dX7_days_88 rfl rfl (nI_1 _) (Nat.le_of_ble_eq_true rfl) ?_
              refine R_goto (tgt := 32) dX7_days_91 rfl ?_
              exact ih (k + 1) (c + 1) _ _ _ (by omega) (by omega) c3 c4
            | false =>
              rw [if_neg (by decide)]
              refine R_if_eq_t (tgt := 88) dX7_days_82 rfl (by decide) ?_
              refine R_iinc (n := 91) dX7_days_88 rfl rfl (nI_1 _) (Nat.le_of_ble_eq_true rfl) ?_
              refine R_goto (tgt := 32) dX7_days_91 rfl ?_
              exact ih (k + 1) c _ _ _ (by omega) (by omega) c3 c4
        exact loop m 0 0 (gZ σ) μ _ (by omega) (by omega) h (SmC.rf _)
      · rw [if_pos (Or.inr (Int32.not_le.mp h2))]
        refine R_bipush (v := -2) (n := 26) dX7_days_24 rfl rfl ?_
        refine R_iret dX7_days_26 rfl (rfl) (⟨rfl, h, SmC.rf _⟩)
end SD

