/-! THE MODEL's state is the same state -/
def MSl (μ : Mem) (C : CF) (kept : Nat → Option ST) : Prop := ∀ s, s < 2 → μ.1 137 s = bi (kept s).isSome ∧ ∀ T, kept s = some T → MSt μ 138 (54 * s) C.1 C T
def MI (μ : Mem) (σ : GS) : Prop := MTx μ (gT σ) (gL σ) ∧ MCf μ (gC σ) ∧ MSt μ 128 0 (gC σ).1 (gC σ) (gS σ) ∧ MAc μ (gC σ) (gH' σ) (gA σ) ∧ MSl μ (gC σ) (gK σ) ∧ μ.2 125 = gZ σ
def SmM (μ μ' : Mem) : Prop := (∀ i j, i ≤ 124 → μ'.1 i j = μ.1 i j) ∧ μ'.2 0 = μ.2 0
theorem SmM.rf (μ : Mem) : SmM μ μ := ⟨fun _ _ _ => rfl, rfl⟩
theorem SmM.tr {μ μ1 μ2 : Mem} (h : SmM μ μ1) (h2 : SmM μ1 μ2) : SmM μ μ2 := ⟨fun i j hi => (h2.1 i j hi).trans (h.1 i j hi), h2.2.trans h.2⟩
theorem Sme.M {P : Nat → Nat → Prop} {μ μ' : Mem} (h : Sme P μ μ') (hp : ∀ i j, P i j → 125 ≤ i) : SmM μ μ' := ⟨fun i j hi => h.1 i j (fun z => absurd (hp i j z) (by omega)), by rw [h.2]⟩
theorem MSl.kept {μ μ1 : Mem} {C : CF} {kept : Nat → Option ST} {P : Nat → Nat → Prop} (h : MSl μ C kept) (hC : C.1 ≤ 6 ∧ C.2.1 ≤ 5) (hs : Sme P μ μ1) (h1 : ∀ j, ¬ P 137 j) (h2 : ∀ j, ¬ P 138 j) : MSl μ1 C kept := fun s hs2 =>
  ⟨(hs.1 _ _ (h1 _)).trans (h s hs2).1, fun T hT => ((h s hs2).2 T hT).kept ⟨hC.1, hC.2, hC.1⟩ hs (fun j _ _ => h2 j)⟩
theorem MI.kept {μ μ1 : Mem} {σ : GS} (h : MI μ σ) (w : WF σ) (hs : Sme Qrm μ μ1) : MI μ1 σ :=
  ⟨h.1.kept hs (by omega) (fun k => by omega), h.2.1.kept hs (by omega) (by omega) (fun j => by omega) (fun j => by omega), h.2.2.1.kept ⟨w.1.1.1, w.1.1.2.1, w.1.1.1⟩ hs (fun j z1 z2 => by omega), h.2.2.2.1.kept ⟨w.1.1.1, w.1.1.2.1⟩ hs (by omega) (by omega) (fun j => by omega), h.2.2.2.2.1.kept ⟨w.1.1.1, w.1.1.2.1⟩ hs (fun j => by omega) (fun j => by omega), by rw [hs.2]; exact h.2.2.2.2.2⟩
theorem MI.q {μ : Mem} {σ : GS} (h : MI μ σ) (w : WF σ) : QM μ (gC σ) (gS σ) := ⟨h.2.1, h.2.2.1, w.1.1, w.1.2.1⟩
abbrev Pnw : Nat → Nat → Prop := fun i j => i = 128 ∧ j < 54
theorem MI.act {μ μ1 μ2 : Mem} {σ : GS} {S' : ST} (h : MI μ σ) (w : WF σ) (h1 : MAc μ1 (gC σ) (pushH (gS σ) (gH' σ)) (if gA σ < 14 then gA σ + 1 else 14)) (s1 : Sme Pka μ μ1) (h2 : MSt μ2 128 0 (gC σ).1 (gC σ) S') (s2 : Sme (fun i j => (i = 128 ∧ j < 54) ∨ i = 132) μ1 μ2) : MI μ2 (act σ S') ∧ SmM μ μ2 :=
  ⟨⟨(h.1.kept s1 (by omega) (fun k => by omega)).kept s2 (by omega) (fun k => by omega), (h.2.1.kept s1 (by omega) (by omega) (fun j => by omega) (fun j => by omega)).kept s2 (by omega) (by omega) (fun j => by omega) (fun j => by omega), h2, h1.kept ⟨w.1.1.1, w.1.1.2.1⟩ s2 (by omega) (by omega) (fun j => by omega), (h.2.2.2.2.1.kept ⟨w.1.1.1, w.1.1.2.1⟩ s1 (fun j => by omega) (fun j => by omega)).kept ⟨w.1.1.1, w.1.1.2.1⟩ s2 (fun j => by omega) (fun j => by omega), by rw [s2.2, s1.2]; exact h.2.2.2.2.2⟩,
   (s1.M (fun i j z => by omega)).tr (s2.M (fun i j z => by omega))⟩
theorem m0 {μ : Mem} {C : CF} {S : ST} {z : Nat} (h : MSt μ 128 0 z C S) : (∀ p, p < z → μ.1 128 p = nI (sRow S p)) ∧ (∀ j, j < C.1 → μ.1 128 (6 + j) = sHrs S j) ∧ (∀ k, k < C.2.1 → μ.1 128 (12 + k) = nI (sLaw S k)) ∧ (∀ j, j < C.1 → μ.1 128 (17 + j) = nI (sTea S j)) ∧ (∀ e, e < 30 → μ.1 128 (23 + e) = sGvn S e) ∧ μ.1 128 53 = nI (sPsd S) := by
  obtain ⟨h1, h2, h3, h4, h5, h6⟩ := h
  refine ⟨fun p hp => ?_, fun p hp => h2 p hp, fun p hp => h3 p hp, fun p hp => h4 p hp, fun p hp => h5 p hp, h6⟩
  have := h1 p hp
  rwa [Nat.zero_add] at this
theorem inI_b {x lo hi : Int32} : inI x lo hi = false ↔ x < lo ∨ hi < x := by
  unfold inI
  by_cases h1 : x < lo
  · rw [decide_eq_false (fun z => z h1), Bool.false_and]; exact ⟨fun _ => Or.inl h1, fun _ => rfl⟩
  · by_cases h2 : hi < x
    · rw [decide_eq_false (p := ¬ hi < x) (fun z => z h2), Bool.and_false]; exact ⟨fun _ => Or.inr h2, fun _ => rfl⟩
    · rw [decide_eq_true h1, decide_eq_true h2]; exact ⟨(fun z => by cases z), fun z => z.elim (fun q => absurd q h1) (fun q => absurd q h2)⟩
theorem inI_2 {x : Int32} : inI x 0 1 = inR x 2 := by
  rw [← inI_bar (n := 2) (by omega)]
  rfl
section M7
variable {G : Gm} {l : Launch} {μ : Mem} {σ : GS}
theorem ct_X8_write (h : MI μ σ) (w : WF σ) (x : Int32) : Ct G l 2 yX8_write cX8_write 2 (some .int) [.ref (G.2.2.1 125), .int x] μ (fun r μ' => r = some (.int (fWrite σ x).1) ∧ MI μ' (fWrite σ x).2 ∧ SmM μ μ') := by
  obtain ⟨t1, t2, t3, t4⟩ := id h.1
  refine Ct.of 0 (by decide +kernel) rfl (Nat.le_of_ble_eq_true rfl) ?_
  show V G l RX8 cX8_write 2 _ false _ _ 0 [some (.ref _), some (.int _)] [] _
  refine R_iload_n (n := 1) dX8_write_0 rfl rfl ?_
  refine R_i2l (n := 2) dX8_write_1 rfl ?_
  refine R_lconst (n := 3) dX8_write_2 rfl rfl ?_
  refine R_ldc2 (n := 6) dX8_write_3 tK_RX8_54 rfl ?_
  refine iv_X8_56 (n := 9) (ct_X8_in x 0 (nI 255)) (by decide) dX8_write_6 rfl (Nat.le_of_ble_eq_true rfl) (fun r μ' hq => ?_)
  obtain ⟨rfl, hq⟩ := hq
  have hq := hq.symm
  subst hq
  cases hx : inI x 0 (nI 255) with
  | false =>
    rw [show fWrite σ x = (-2, σ) by rw [fWrite, if_pos (inI_b.mp hx)]]
    refine R_if_ne_f (n := 12) dX8_write_9 rfl rfl (by decide) ?_
    refine R_bipush (v := -2) (n := 14) dX8_write_12 rfl rfl ?_
    refine R_iret dX8_write_14 rfl (rfl) (⟨rfl, h, SmM.rf _⟩)
  | true =>
    have hx2 : ¬ (x < 0 ∨ nI 255 < x) := fun z => by rw [inI_b.mpr z] at hx; cases hx
    obtain ⟨m, hm, rfl⟩ := nI_of (x := x) (fun z => hx2 (Or.inl z))
    have hm2 : m < 256 := by
      have : ¬ nI 255 < nI m := fun z => hx2 (Or.inr z)
      rw [nI_ltI (by omega) hm] at this
      omega
    refine R_if_ne_t (tgt := 15) dX8_write_9 rfl (by decide) ?_
    refine R_aload_n (n := 16) dX8_write_15 rfl rfl ?_
    refine ge_X8_60 (n := 19) dX8_write_16 rfl (by first | exact t1 | (rw [sti_1_pf _ _ _ _ _ _ (by omega)]; exact t1) | (rw [sti_1_pf _ _ _ _ _ _ (by omega), sti_1_pf _ _ _ _ _ _ (by omega)]; exact t1) | (rw [sti_1_pf _ _ _ _ _ _ (by omega), sti_1_pf _ _ _ _ _ _ (by omega), sti_1_pf _ _ _ _ _ _ (by omega)]; exact t1) | (rw [sti_1_pf _ _ _ _ _ _ (by omega), sti_1_pf _ _ _ _ _ _ (by omega), sti_1_pf _ _ _ _ _ _ (by omega), sti_1_pf _ _ _ _ _ _ (by omega)]; exact t1) | (rw [sti_1_pf _ _ _ _ _ _ (by omega), sti_1_pf _ _ _ _ _ _ (by omega), sti_1_pf _ _ _ _ _ _ (by omega), sti_1_pf _ _ _ _ _ _ (by omega), sti_1_pf _ _ _ _ _ _ (by omega)]; exact t1)) ?_
    refine R_bipush (v := nI 40) (n := 21) dX8_write_19 rfl rfl ?_
    by_cases h3 : 40 ≤ gL σ
    · rw [show fWrite σ (nI m) = (-4, σ) by rw [fWrite, if_neg hx2, if_pos h3]]
      refine R_icmp_ne_f (n := 24) dX8_write_21 rfl rfl (by rw [show gL σ = 40 by omega]) ?_
      refine R_bipush (v := -4) (n := 26) dX8_write_24 rfl rfl ?_
      refine R_iret dX8_write_26 rfl (rfl) (⟨rfl, h, SmM.rf _⟩)
    · rw [show fWrite σ (nI m) = (nI (gL σ + 1), mkG (gC σ) (gS σ) (gH' σ) (gA σ) (gK σ) (fun k => if k = gL σ then m else gT σ k) (gL σ + 1) (gZ σ)) by rw [fWrite, if_neg hx2, if_neg h3, nI_clamp hm]]
      refine R_icmp_ne_t (tgt := 27) dX8_write_21 rfl (by rw [nI_eq (by omega) (by omega)]; omega) ?_
      refine R_aload_n (n := 28) dX8_write_27 rfl rfl ?_
      refine gf_X8_25 (n := 31) dX8_write_28 rfl ?_
      refine R_aload_n (n := 32) dX8_write_31 rfl rfl ?_
      refine ge_X8_60 (n := 35) dX8_write_32 rfl (by first | exact t1 | (rw [sti_1_pf _ _ _ _ _ _ (by omega)]; exact t1) | (rw [sti_1_pf _ _ _ _ _ _ (by omega), sti_1_pf _ _ _ _ _ _ (by omega)]; exact t1) | (rw [sti_1_pf _ _ _ _ _ _ (by omega), sti_1_pf _ _ _ _ _ _ (by omega), sti_1_pf _ _ _ _ _ _ (by omega)]; exact t1) | (rw [sti_1_pf _ _ _ _ _ _ (by omega), sti_1_pf _ _ _ _ _ _ (by omega), sti_1_pf _ _ _ _ _ _ (by omega), sti_1_pf _ _ _ _ _ _ (by omega)]; exact t1) | (rw [sti_1_pf _ _ _ _ _ _ (by omega), sti_1_pf _ _ _ _ _ _ (by omega), sti_1_pf _ _ _ _ _ _ (by omega), sti_1_pf _ _ _ _ _ _ (by omega), sti_1_pf _ _ _ _ _ _ (by omega)]; exact t1)) ?_
      refine R_iload_n (n := 36) dX8_write_35 rfl rfl ?_
      refine R_iast (n := 37) sh_131 (rfl) (by omega) dX8_write_36 rfl ?_
      refine R_aload_n (n := 38) dX8_write_37 rfl rfl ?_
      refine R_dup (n := 39) dX8_write_38 rfl rfl ?_
      refine ge_X8_60 (n := 42) dX8_write_39 rfl (by first | exact t1 | (rw [sti_1_pf _ _ _ _ _ _ (by omega)]; exact t1) | (rw [sti_1_pf _ _ _ _ _ _ (by omega), sti_1_pf _ _ _ _ _ _ (by omega)]; exact t1) | (rw [sti_1_pf _ _ _ _ _ _ (by omega), sti_1_pf _ _ _ _ _ _ (by omega), sti_1_pf _ _ _ _ _ _ (by omega)]; exact t1) | (rw [sti_1_pf _ _ _ _ _ _ (by omega), sti_1_pf _ _ _ _ _ _ (by omega), sti_1_pf _ _ _ _ _ _ (by omega), sti_1_pf _ _ _ _ _ _ (by omega)]; exact t1) | (rw [sti_1_pf _ _ _ _ _ _ (by omega), sti_1_pf _ _ _ _ _ _ (by omega), sti_1_pf _ _ _ _ _ _ (by omega), sti_1_pf _ _ _ _ _ _ (by omega), sti_1_pf _ _ _ _ _ _ (by omega)]; exact t1)) ?_
      refine R_iconst (v := nI 1) (n := 43) dX8_write_42 rfl rfl ?_
      refine R_iadd_n (n := 44) dX8_write_43 rfl ?_
      refine pf_X8_60 (n := 47) dX8_write_44 rfl ?_
      have hl2 : (sti (sti μ 131 (gL σ) (nI m)) 125 10 (nI (gL σ + 1))).1 125 10 = nI (gL σ + 1) := by rw [sti_1_eq]
      refine R_aload_n (n := 48) dX8_write_47 rfl rfl ?_
      refine ge_X8_60 (n := 51) dX8_write_48 rfl (hl2) ?_
      have a2 : Sme (fun i j => (i = 125 ∧ j = 10) ∨ i = 131) μ (sti (sti μ 131 (gL σ) (nI m)) 125 10 (nI (gL σ + 1))) := ((Sme.rf _ _).sti (Or.inr rfl)).sti (Or.inl ⟨rfl, rfl⟩)
      have hC : (gC σ).1 ≤ 6 ∧ (gC σ).2.1 ≤ 5 := ⟨w.1.1.1, w.1.1.2.1⟩
      refine R_iret dX8_write_51 rfl rfl ⟨rfl, ⟨⟨hl2, by show gL σ + 1 ≤ 40; omega, fun k hk => ?_, fun k hk => ?_⟩, h.2.1.kept a2 (by omega) (by omega) (fun j => by omega) (fun j => by omega), h.2.2.1.kept ⟨hC.1, hC.2, hC.1⟩ a2 (fun j z1 z2 => by omega), h.2.2.2.1.kept hC a2 (by omega) (by omega) (fun j => by omega), h.2.2.2.2.1.kept hC a2 (fun j => by omega) (fun j => by omega), h.2.2.2.2.2⟩, a2.M (fun i j z => by omega)⟩
      · have hk' : k < gL σ + 1 := hk
        rw [sti_1_ne _ _ _ (by omega), sti_1]
        show _ = nI (if k = gL σ then m else gT σ k)
        by_cases e : k = gL σ
        · rw [if_pos ⟨rfl, e⟩, if_pos e]
        · rw [if_neg (fun z => e z.2), if_neg e]; exact t3 k (by omega)
      · have hk' : k < gL σ + 1 := hk
        show (if k = gL σ then m else gT σ k) < 256
        split
        · exact hm2
        · exact t4 k (by omega)
theorem ct_X8_wipe (h : MI μ σ) (w : WF σ) : Ct G l 1 yX8_wipe cX8_wipe 2 (some .int) [.ref (G.2.2.1 125)] μ (fun r μ' => r = some (.int (fWipe σ).1) ∧ MI μ' (fWipe σ).2 ∧ SmM μ μ') := by
  obtain ⟨t1, t2, t3, t4⟩ := id h.1
  have hC : (gC σ).1 ≤ 6 ∧ (gC σ).2.1 ≤ 5 := ⟨w.1.1.1, w.1.1.2.1⟩
  refine Ct.of 1 (by decide +kernel) rfl (Nat.le_of_ble_eq_true rfl) ?_
  show V G l RX8 cX8_wipe 2 _ false _ _ 0 [some (.ref _), none] [] _
  refine R_aload_n (n := 1) dX8_wipe_0 rfl rfl ?_
  refine ge_X8_60 (n := 4) dX8_wipe_1 rfl (t1) ?_
  refine R_istore_n (n := 5) dX8_wipe_4 rfl (Nat.le_of_ble_eq_true rfl) (Nat.le_of_ble_eq_true rfl) ?_
  refine R_aload_n (n := 6) dX8_wipe_5 rfl rfl ?_
  refine R_iconst (v := nI 0) (n := 7) dX8_wipe_6 rfl rfl ?_
  refine pf_X8_60 (n := 10) dX8_wipe_7 rfl ?_
  refine R_iload_n (n := 11) dX8_wipe_10 rfl rfl ?_
  have a2 : Sme (fun i j => i = 125 ∧ j = 10) μ (sti μ 125 10 (nI 0)) := (Sme.rf _ _).sti ⟨rfl, rfl⟩
  refine R_iret dX8_wipe_11 rfl rfl ⟨rfl, ⟨⟨by rw [sti_1_eq]; rfl, by show 0 ≤ 40; omega, fun k hk => absurd hk (by show ¬ k < 0; omega), fun k hk => absurd hk (by show ¬ k < 0; omega)⟩, h.2.1.kept a2 (by omega) (by omega) (fun j => by omega) (fun j => by omega), h.2.2.1.kept ⟨hC.1, hC.2, hC.1⟩ a2 (fun j z1 z2 => by omega), h.2.2.2.1.kept hC a2 (by omega) (by omega) (fun j => by omega), h.2.2.2.2.1.kept hC a2 (fun j => by omega) (fun j => by omega), h.2.2.2.2.2⟩, a2.M (fun i j z => by omega)⟩
theorem ct_X8_fault (h : MI μ σ) : Ct G l 4 yX8_fault cX8_fault 1 (some .int) [.ref (G.2.2.1 125)] μ (fun r μ' => r = some (.int (aFault σ)) ∧ Sme Qrm μ μ') := by
  refine Ct.of 0 (by decide +kernel) rfl (Nat.le_of_ble_eq_true rfl) ?_
  show V G l RX8 cX8_fault 1 _ false _ _ 0 [some (.ref _)] [] _
  refine R_aload_n (n := 1) dX8_fault_0 rfl rfl ?_
  refine iv_X8_79 (n := 4) (ct_X8_readText h.1) (by decide) dX8_fault_1 rfl (Nat.le_of_ble_eq_true rfl) (fun r μ' hq => ?_)
  obtain ⟨rfl, -, s1⟩ := hq
  refine R_iret dX8_fault_4 rfl (rfl) (⟨rfl, s1.mono (fun i j z => by omega)⟩)
theorem rdT_le {tx : Nat → Nat} {len q : Nat} (h : (rdT tx len).1 = some q) : q ≤ len := by
  rw [← flt_rdT] at h
  exact flt_le _ _ _ _ _ _ (Nat.zero_le _) h
theorem ptx_le {tx : Nat → Nat} {len : Nat} : ∀ (f p : Nat) (A : AC), A.1 ≤ 5 → A.2.1 ≤ 6 → (∀ k, k < A.1 → A.2.2.1 k < 4) → (∀ j, j < A.2.1 → A.2.2.2 (3 * j + 2) ≤ 9) → (ptx tx len f p A).2.1 ≤ 5 ∧ (ptx tx len f p A).2.2.1 ≤ 6 ∧ (∀ k, k < (ptx tx len f p A).2.1 → (ptx tx len f p A).2.2.2.1 k < 4) ∧ ∀ j, j < (ptx tx len f p A).2.2.1 → (ptx tx len f p A).2.2.2.2 (3 * j + 2) ≤ 9 := by
  intro f
  induction f with
  | zero => intro p A h1 h2 h3 h4; exact ⟨h1, h2, h3, h4⟩
  | succ f ih =>
    intro p A h1 h2 h3 h4
    rw [ptx]
    by_cases c1 : p < len
    · rw [if_pos c1]
      by_cases c2 : tx p = 75 ∧ A.1 < 5
      · rw [if_pos c2]
        by_cases c3 : p + 1 < len ∧ 48 ≤ tx (p + 1) ∧ tx (p + 1) ≤ 51
        · rw [if_pos c3]
          refine ih _ _ c2.2 h2 (fun k hk => ?_) h4
          have hk' : k < A.1 + 1 := hk
          show (if k = A.1 then _ else _) < 4
          split
          · omega
          · exact h3 k (by omega)
        · rw [if_neg c3]; exact ⟨h1, h2, h3, h4⟩
      · rw [if_neg c2]
        by_cases c3 : tx p = 66 ∧ A.2.1 < 6
        · rw [if_pos c3]
          by_cases c4 : p + 1 < len ∧ 49 ≤ tx (p + 1) ∧ tx (p + 1) ≤ 50
          · rw [if_pos c4]
            by_cases c5 : p + 2 < len ∧ 48 ≤ tx (p + 2) ∧ tx (p + 2) ≤ 57
            · rw [if_pos c5]
              by_cases c6 : p + 3 < len ∧ 48 ≤ tx (p + 3) ∧ tx (p + 3) ≤ 57
              · rw [if_pos c6]
                refine ih _ _ h1 c3.2 h3 (fun j hj => ?_)
                have hj' : j < A.2.1 + 1 := hj
                show (if 3 * j + 2 = 3 * A.2.1 then _ else if 3 * j + 2 = 3 * A.2.1 + 1 then _ else if 3 * j + 2 = 3 * A.2.1 + 2 then _ else _) ≤ 9
                rw [if_neg (by omega), if_neg (by omega)]
                split
                · omega
                · exact h4 j (by omega)
              · rw [if_neg c6]; exact ⟨h1, h2, h3, h4⟩
            · rw [if_neg c5]; exact ⟨h1, h2, h3, h4⟩
          · rw [if_neg c4]; exact ⟨h1, h2, h3, h4⟩
        · rw [if_neg c3]; exact ⟨h1, h2, h3, h4⟩
    · rw [if_neg c1]; exact ⟨h1, h2, h3, h4⟩
theorem rdT_wf {tx : Nat → Nat} {len : Nat} : (rdT tx len).2.1 ≤ 5 ∧ (rdT tx len).2.2.1 ≤ 6 ∧ (∀ k, k < (rdT tx len).2.1 → (rdT tx len).2.2.2.1 k < 4) ∧ ∀ j, j < (rdT tx len).2.2.1 → (rdT tx len).2.2.2.2 (3 * j + 2) ≤ 9 := by
  have h0 : A0.1 ≤ 5 ∧ A0.2.1 ≤ 6 ∧ (∀ k, k < A0.1 → A0.2.2.1 k < 4) ∧ ∀ j, j < A0.2.1 → A0.2.2.2 (3 * j + 2) ≤ 9 := ⟨by decide, by decide, fun k hk => absurd hk (by show ¬ k < 0; omega), fun k hk => absurd hk (by show ¬ k < 0; omega)⟩
  unfold rdT
  split
  · exact h0
  · exact ptx_le _ _ _ h0.1 h0.2.1 h0.2.2.1 h0.2.2.2
theorem ct_X8_canal (h : MI μ σ) (w : WF σ) : Ct G l 4 yX8_canal cX8_canal 2 (some .int) [.ref (G.2.2.1 125)] μ (fun r μ' => r = some (.int (fCanal σ).1) ∧ MI μ' (fCanal σ).2 ∧ SmM μ μ') := by
  have hle : ∀ q, (rdT (gT σ) (gL σ)).1 = some q → q ≤ gL σ := fun q z => rdT_le z
  have hwf := rdT_wf (tx := gT σ) (len := gL σ)
  refine Ct.of 1 (by decide +kernel) rfl (Nat.le_of_ble_eq_true rfl) ?_
  show V G l RX8 cX8_canal 2 _ false _ _ 0 [some (.ref _), none] [] _
  refine R_aload_n (n := 1) dX8_canal_0 rfl rfl ?_
  refine iv_X8_79 (n := 4) (ct_X8_readText h.1) (by decide) dX8_canal_1 rfl (Nat.le_of_ble_eq_true rfl) (fun r μ' hq => ?_)
  obtain ⟨rfl, rd, s1⟩ := hq
  refine R_bipush (v := -9) (n := 6) dX8_canal_4 rfl rfl ?_
  cases hr : rdT (gT σ) (gL σ) with
  | mk o A =>
    rw [hr] at hle hwf rd
    cases o with
    | some q =>
      have hq := hle q rfl
      have h40 := h.1.2.1
      rw [show fCanal σ = (-3, σ) by rw [fCanal, hr]]
      refine R_icmp_eq_f (n := 9) dX8_canal_6 rfl rfl (nI_ne9 (by omega)) ?_
      refine R_bipush (v := -3) (n := 11) dX8_canal_9 rfl rfl ?_
      refine R_iret dX8_canal_11 rfl (rfl) (⟨rfl, h.kept w (s1.mono (fun i j z => by omega)), s1.M (fun i j z => by omega)⟩)
    | none =>
      rw [show fCanal σ = (nI (10 * A.1 + A.2.1), mkG (accCF A) (accST A) (gH' σ) 0 (fun _ => none) (gT σ) (gL σ) (gZ σ)) by rw [fCanal, hr]]
      obtain ⟨r1, r2, r3, r4⟩ := rd rfl
      obtain ⟨w1, w2, w3, w4⟩ := hwf
      dsimp only at r1 r2 r3 r4 w1 w2 w3 w4
      refine R_icmp_eq_t (tgt := 12) dX8_canal_6 rfl (rfl) ?_
      refine R_aload_n (n := 13) dX8_canal_12 rfl rfl ?_
      refine R_aload_n (n := 14) dX8_canal_13 rfl rfl ?_
      refine ge_X8_69 (n := 17) dX8_canal_14 rfl (by first | exact r1 | (rw [sti_1_pf _ _ _ _ _ _ (by omega)]; exact r1) | (rw [sti_1_pf _ _ _ _ _ _ (by omega), sti_1_pf _ _ _ _ _ _ (by omega)]; exact r1) | (rw [sti_1_pf _ _ _ _ _ _ (by omega), sti_1_pf _ _ _ _ _ _ (by omega), sti_1_pf _ _ _ _ _ _ (by omega)]; exact r1) | (rw [sti_1_pf _ _ _ _ _ _ (by omega), sti_1_pf _ _ _ _ _ _ (by omega), sti_1_pf _ _ _ _ _ _ (by omega), sti_1_pf _ _ _ _ _ _ (by omega)]; exact r1) | (rw [sti_1_pf _ _ _ _ _ _ (by omega), sti_1_pf _ _ _ _ _ _ (by omega), sti_1_pf _ _ _ _ _ _ (by omega), sti_1_pf _ _ _ _ _ _ (by omega), sti_1_pf _ _ _ _ _ _ (by omega)]; exact r1)) ?_
      refine pf_X8_50 (n := 20) dX8_canal_17 rfl ?_
      refine R_aload_n (n := 21) dX8_canal_20 rfl rfl ?_
      refine R_aload_n (n := 22) dX8_canal_21 rfl rfl ?_
      refine ge_X8_72 (n := 25) dX8_canal_22 rfl (by first | exact r2 | (rw [sti_1_pf _ _ _ _ _ _ (by omega)]; exact r2) | (rw [sti_1_pf _ _ _ _ _ _ (by omega), sti_1_pf _ _ _ _ _ _ (by omega)]; exact r2) | (rw [sti_1_pf _ _ _ _ _ _ (by omega), sti_1_pf _ _ _ _ _ _ (by omega), sti_1_pf _ _ _ _ _ _ (by omega)]; exact r2) | (rw [sti_1_pf _ _ _ _ _ _ (by omega), sti_1_pf _ _ _ _ _ _ (by omega), sti_1_pf _ _ _ _ _ _ (by omega), sti_1_pf _ _ _ _ _ _ (by omega)]; exact r2) | (rw [sti_1_pf _ _ _ _ _ _ (by omega), sti_1_pf _ _ _ _ _ _ (by omega), sti_1_pf _ _ _ _ _ _ (by omega), sti_1_pf _ _ _ _ _ _ (by omega), sti_1_pf _ _ _ _ _ _ (by omega)]; exact r2)) ?_
      refine pf_X8_83 (n := 28) dX8_canal_25 rfl ?_
      refine R_iconst (v := nI 0) (n := 29) dX8_canal_28 rfl rfl ?_
      refine R_istore_n (n := 30) dX8_canal_29 rfl (Nat.le_of_ble_eq_true rfl) (Nat.le_of_ble_eq_true rfl) ?_
      have s2 : Sme (fun i j => (i = 125 ∧ j < 2) ∨ i = 126 ∨ i = 127 ∨ (i = 128 ∧ j < 54)) μ' (sti (sti μ' 125 0 (nI A.1)) 125 1 (nI A.2.1)) := ((Sme.rf _ _).sti (by omega)).sti (by omega)
      have l1 : (sti (sti μ' 125 0 (nI A.1)) 125 1 (nI A.2.1)).1 125 0 = nI A.1 := by rw [sti_1_pf _ _ _ _ _ _ (by omega), sti_1_eq]
      have l2 : (sti (sti μ' 125 0 (nI A.1)) 125 1 (nI A.2.1)).1 125 1 = nI A.2.1 := by rw [sti_1_eq]
      generalize sti (sti μ' 125 0 (nI A.1)) 125 1 (nI A.2.1) = μ1 at *
      refine down (z := 54) (P := fun k => ∀ μ2 : Mem, (∀ j, j < k → μ2.1 128 j = nI 0) → Sme (fun i j => i = 128 ∧ j < 54) μ1 μ2 → V G l RX8 cX8_canal 2 4 false (some .int) (fun r μ' => r = some (.int (nI (10 * A.1 + A.2.1))) ∧ MI μ' (mkG (accCF A) (accST A) (gH' σ) 0 (fun _ => none) (gT σ) (gL σ) (gZ σ)) ∧ SmM μ μ') 30 [some (.ref _), some (.int (nI k))] [] μ2) ?_ ?_ 0 (Nat.zero_le _) μ1 (fun j hj => absurd hj (by omega)) (Sme.rf _ _)
      · intro μ2 b1 b2
        refine R_iload_n (n := 31) dX8_canal_30 rfl rfl ?_
        refine R_bipush (v := nI 54) (n := 33) dX8_canal_31 rfl rfl ?_
        refine R_icmp_ge_t (tgt := 49) dX8_canal_33 rfl (by rw [nI_leI (by omega) (by omega)]; omega) ?_
        refine R_iconst (v := nI 0) (n := 50) dX8_canal_49 rfl rfl ?_
        refine R_istore_n (n := 51) dX8_canal_50 rfl (Nat.le_of_ble_eq_true rfl) (Nat.le_of_ble_eq_true rfl) ?_
        refine down (z := 5) (P := fun k => ∀ μ3 : Mem, (∀ j, j < k → μ3.1 128 (12 + j) = μ1.1 129 j) → Sme (fun i j => i = 128 ∧ 12 ≤ j ∧ j < 17) μ2 μ3 → V G l RX8 cX8_canal 2 4 false (some .int) (fun r μ' => r = some (.int (nI (10 * A.1 + A.2.1))) ∧ MI μ' (mkG (accCF A) (accST A) (gH' σ) 0 (fun _ => none) (gT σ) (gL σ) (gZ σ)) ∧ SmM μ μ') 51 [some (.ref _), some (.int (nI k))] [] μ3) ?_ ?_ 0 (Nat.zero_le _) μ2 (fun j hj => absurd hj (by omega)) (Sme.rf _ _)
        · intro μ3 d1 d2
          refine R_iload_n (n := 52) dX8_canal_51 rfl rfl ?_
          refine R_iconst (v := nI 5) (n := 53) dX8_canal_52 rfl rfl ?_
          refine R_icmp_ge_t (tgt := 77) dX8_canal_53 rfl (by rw [nI_leI (by omega) (by omega)]; omega) ?_
          refine R_iconst (v := nI 0) (n := 78) dX8_canal_77 rfl rfl ?_
          refine R_istore_n (n := 79) dX8_canal_78 rfl (Nat.le_of_ble_eq_true rfl) (Nat.le_of_ble_eq_true rfl) ?_
          refine down (z := 6) (P := fun k => ∀ μ4 : Mem, (∀ j, j < k → μ4.1 128 j = nI j ∧ μ4.1 126 j = μ1.1 130 (3 * j) ∧ μ4.1 127 j = μ1.1 130 (3 * j + 1) ∧ μ4.1 128 (17 + j) = (if j < A.2.1 then μ1.1 130 (3 * j + 2) else nI 0)) → Sme (fun i j => (i = 128 ∧ (j < 6 ∨ (17 ≤ j ∧ j < 23))) ∨ i = 126 ∨ i = 127) μ3 μ4 → V G l RX8 cX8_canal 2 4 false (some .int) (fun r μ' => r = some (.int (nI (10 * A.1 + A.2.1))) ∧ MI μ' (mkG (accCF A) (accST A) (gH' σ) 0 (fun _ => none) (gT σ) (gL σ) (gZ σ)) ∧ SmM μ μ') 79 [some (.ref _), some (.int (nI k))] [] μ4) ?_ ?_ 0 (Nat.zero_le _) μ3 (fun j hj => absurd hj (by omega)) (Sme.rf _ _)
          · intro μ4 e1 e2
            have z4 : Sme (fun i j => (i = 125 ∧ j < 2) ∨ i = 126 ∨ i = 127 ∨ (i = 128 ∧ j < 54)) μ' μ4 := ((s2.tr (b2.mono (fun i j z => by omega))).tr (d2.mono (fun i j z => by omega))).tr (e2.mono (fun i j z => by omega))
            have k1 : ∀ i j, i = 125 → j < 2 → μ4.1 i j = μ1.1 i j := fun i j z1 z2 => (e2.1 _ _ (by omega)).trans ((d2.1 _ _ (by omega)).trans (b2.1 _ _ (by omega)))
            have k2 : ∀ j, μ1.1 129 j = μ'.1 129 j := fun j => s2.1 _ _ (by omega)
            have k3 : ∀ j, μ1.1 130 j = μ'.1 130 j := fun j => s2.1 _ _ (by omega)
            have l1' : μ4.1 125 0 = nI A.1 := (k1 _ _ rfl (by omega)).trans l1
            have l2' : μ4.1 125 1 = nI A.2.1 := (k1 _ _ rfl (by omega)).trans l2
            refine R_iload_n (n := 80) dX8_canal_79 rfl rfl ?_
            refine R_bipush (v := nI 6) (n := 82) dX8_canal_80 rfl rfl ?_
            refine R_icmp_ge_t (tgt := 159) dX8_canal_82 rfl (by rw [nI_leI (by omega) (by omega)]; omega) ?_
            refine R_aload_n (n := 160) dX8_canal_159 rfl rfl ?_
            refine R_iconst (v := nI 0) (n := 161) dX8_canal_160 rfl rfl ?_
            refine pf_X8_86 (n := 164) dX8_canal_161 rfl ?_
            refine R_aload_n (n := 165) dX8_canal_164 rfl rfl ?_
            refine gf_X8_43 (n := 168) dX8_canal_165 rfl ?_
            refine R_iconst (v := nI 0) (n := 169) dX8_canal_168 rfl rfl ?_
            refine R_iconst (v := nI 0) (n := 170) dX8_canal_169 rfl rfl ?_
            refine R_zast (n := 171) sh_137 (rfl) (by omega) dX8_canal_170 rfl ?_
            refine R_aload_n (n := 172) dX8_canal_171 rfl rfl ?_
            refine gf_X8_43 (n := 175) dX8_canal_172 rfl ?_
            refine R_iconst (v := nI 1) (n := 176) dX8_canal_175 rfl rfl ?_
            refine R_iconst (v := nI 0) (n := 177) dX8_canal_176 rfl rfl ?_
            refine R_zast (n := 178) sh_137 (rfl) (by omega) dX8_canal_177 rfl ?_
            refine R_bipush (v := nI 10) (n := 180) dX8_canal_178 rfl rfl ?_
            refine R_aload_n (n := 181) dX8_canal_180 rfl rfl ?_
            refine ge_X8_50 (n := 184) dX8_canal_181 rfl (by first | exact l1' | (rw [sti_1_pf _ _ _ _ _ _ (by omega)]; exact l1') | (rw [sti_1_pf _ _ _ _ _ _ (by omega), sti_1_pf _ _ _ _ _ _ (by omega)]; exact l1') | (rw [sti_1_pf _ _ _ _ _ _ (by omega), sti_1_pf _ _ _ _ _ _ (by omega), sti_1_pf _ _ _ _ _ _ (by omega)]; exact l1') | (rw [sti_1_pf _ _ _ _ _ _ (by omega), sti_1_pf _ _ _ _ _ _ (by omega), sti_1_pf _ _ _ _ _ _ (by omega), sti_1_pf _ _ _ _ _ _ (by omega)]; exact l1') | (rw [sti_1_pf _ _ _ _ _ _ (by omega), sti_1_pf _ _ _ _ _ _ (by omega), sti_1_pf _ _ _ _ _ _ (by omega), sti_1_pf _ _ _ _ _ _ (by omega), sti_1_pf _ _ _ _ _ _ (by omega)]; exact l1')) ?_
            refine R_imul_n (n := 185) dX8_canal_184 rfl ?_
            refine R_aload_n (n := 186) dX8_canal_185 rfl rfl ?_
            refine ge_X8_83 (n := 189) dX8_canal_186 rfl (by first | exact l2' | (rw [sti_1_pf _ _ _ _ _ _ (by omega)]; exact l2') | (rw [sti_1_pf _ _ _ _ _ _ (by omega), sti_1_pf _ _ _ _ _ _ (by omega)]; exact l2') | (rw [sti_1_pf _ _ _ _ _ _ (by omega), sti_1_pf _ _ _ _ _ _ (by omega), sti_1_pf _ _ _ _ _ _ (by omega)]; exact l2') | (rw [sti_1_pf _ _ _ _ _ _ (by omega), sti_1_pf _ _ _ _ _ _ (by omega), sti_1_pf _ _ _ _ _ _ (by omega), sti_1_pf _ _ _ _ _ _ (by omega)]; exact l2') | (rw [sti_1_pf _ _ _ _ _ _ (by omega), sti_1_pf _ _ _ _ _ _ (by omega), sti_1_pf _ _ _ _ _ _ (by omega), sti_1_pf _ _ _ _ _ _ (by omega), sti_1_pf _ _ _ _ _ _ (by omega)]; exact l2')) ?_
            refine R_iadd_n (n := 190) dX8_canal_189 rfl ?_
            have s5 : Sme (fun i j => (i = 125 ∧ j = 14) ∨ i = 137) μ4 (sti (sti (sti μ4 125 14 (nI 0)) 137 0 (vp_nar .boolean (nI 0))) 137 1 (vp_nar .boolean (nI 0))) := (((Sme.rf _ _).sti (by omega)).sti (by omega)).sti (by omega)
            have hMSt4 : MSt μ4 128 0 A.2.1 (accCF A) (accST A) := by
              refine ⟨fun p hp => ?_, fun j hj => ?_, fun k hk => ?_, fun j hj => ?_, fun e he => ?_, ?_⟩
              · rw [Nat.zero_add]; exact (e1 p (by omega)).1
              · have hj' : j < A.2.1 := hj
                show μ4.1 128 (6 + j) = nI 0
                rw [e2.1 _ _ (by omega), d2.1 _ _ (by omega)]; exact b1 _ (by omega)
              · have hk' : k < A.1 := hk
                show μ4.1 128 (12 + k) = nI (A.2.2.1 k)
                rw [e2.1 _ _ (by omega), d1 k (by omega), k2]; exact r3 k hk'
              · have hj' : j < A.2.1 := hj
                show μ4.1 128 (17 + j) = nI (A.2.2.2 (3 * j + 2))
                rw [(e1 j (by omega)).2.2.2, if_pos hj', k3]; exact (r4 j hj').2.2
              · show μ4.1 128 (23 + e) = nI 0
                rw [e2.1 _ _ (by omega), d2.1 _ _ (by omega)]; exact b1 _ (by omega)
              · show μ4.1 128 53 = nI 0
                rw [e2.1 _ _ (by omega), d2.1 _ _ (by omega)]; exact b1 _ (by omega)
            have hMCf4 : MCf μ4 (accCF A) := by
              refine ⟨l1', l2', fun j hj => ?_, fun j hj => ?_⟩
              · have hj' : j < A.2.1 := hj
                rw [(e1 j (by omega)).2.1, k3]; exact (r4 j hj').1
              · have hj' : j < A.2.1 := hj
                rw [(e1 j (by omega)).2.2.1, k3]; exact (r4 j hj').2.1
            obtain ⟨a1, a2, nx, a3, a4, a5⟩ := h.2.2.2.1
            refine R_iret dX8_canal_190 rfl rfl ⟨rfl, ⟨((h.1.kept s1 (by omega) (fun k => by omega)).kept z4 (by omega) (fun k => by omega)).kept s5 (by omega) (fun k => by omega), hMCf4.kept s5 (by omega) (by omega) (fun j => by omega) (fun j => by omega), hMSt4.kept ⟨w2, w1, w2⟩ s5 (fun j z1 z2 => by omega), ⟨by show 0 ≤ 14; omega, ?_, nx, a3, ?_, fun i hi => absurd hi (by show ¬ i < 0; omega)⟩, fun s hs => ⟨?_, fun T hT => by cases hT⟩, ?_⟩, ((s1.M (fun i j z => by omega)).tr (z4.M (fun i j z => by omega))).tr (s5.M (fun i j z => by omega))⟩
            · rw [sti_1_ne _ _ _ (by omega), sti_1_ne _ _ _ (by omega), sti_1_eq]; rfl
            · rw [s5.1 _ _ (by omega), z4.1 _ _ (by omega), s1.1 _ _ (by omega)]; exact a4
            · rcases (show s = 0 ∨ s = 1 by omega) with q | q
              · rw [q, sti_1_pf _ _ _ _ _ _ (by omega), sti_1_eq]; rfl
              · rw [q, sti_1_eq]; rfl
            · rw [s5.2, z4.2, s1.2]; exact h.2.2.2.2.2
          · intro k hk ih μ4 e1 e2
            have k3 : ∀ j, μ4.1 130 j = μ1.1 130 j := fun j => (e2.1 _ _ (by omega)).trans ((d2.1 _ _ (by omega)).trans (b2.1 _ _ (by omega)))
            have l2' : μ4.1 125 1 = nI A.2.1 := (e2.1 _ _ (by omega)).trans ((d2.1 _ _ (by omega)).trans ((b2.1 _ _ (by omega)).trans l2))
            refine R_iload_n (n := 80) dX8_canal_79 rfl rfl ?_
            refine R_bipush (v := nI 6) (n := 82) dX8_canal_80 rfl rfl ?_
            refine R_icmp_ge_f (n := 85) dX8_canal_82 rfl rfl (by rw [nI_leI (by omega) (by omega)]; omega) ?_
            refine R_aload_n (n := 86) dX8_canal_85 rfl rfl ?_
            refine gf_X8_16 (n := 89) dX8_canal_86 rfl ?_
            refine R_iload_n (n := 90) dX8_canal_89 rfl rfl ?_
            refine R_iload_n (n := 91) dX8_canal_90 rfl rfl ?_
            refine R_iast (n := 92) sh_128 (rfl) (by omega) dX8_canal_91 rfl ?_
            refine R_aload_n (n := 93) dX8_canal_92 rfl rfl ?_
            refine gf_X8_7 (n := 96) dX8_canal_93 rfl ?_
            refine R_iload_n (n := 97) dX8_canal_96 rfl rfl ?_
            refine R_aload_n (n := 98) dX8_canal_97 rfl rfl ?_
            refine gf_X8_22 (n := 101) dX8_canal_98 rfl ?_
            refine R_iconst (v := nI 3) (n := 102) dX8_canal_101 rfl rfl ?_
            refine R_iload_n (n := 103) dX8_canal_102 rfl rfl ?_
            refine R_imul_n (n := 104) dX8_canal_103 rfl ?_
            refine R_iald (n := 105) sh_130 (rfl) (by omega) dX8_canal_104 rfl ?_
            refine R_iast (n := 106) sh_126 (rfl) (by omega) dX8_canal_105 rfl ?_
            refine R_aload_n (n := 107) dX8_canal_106 rfl rfl ?_
            refine gf_X8_13 (n := 110) dX8_canal_107 rfl ?_
            refine R_iload_n (n := 111) dX8_canal_110 rfl rfl ?_
            refine R_aload_n (n := 112) dX8_canal_111 rfl rfl ?_
            refine gf_X8_22 (n := 115) dX8_canal_112 rfl ?_
            refine R_iconst (v := nI 3) (n := 116) dX8_canal_115 rfl rfl ?_
            refine R_iload_n (n := 117) dX8_canal_116 rfl rfl ?_
            refine R_imul_n (n := 118) dX8_canal_117 rfl ?_
            refine R_iconst (v := nI 1) (n := 119) dX8_canal_118 rfl rfl ?_
            refine R_iadd_n (n := 120) dX8_canal_119 rfl ?_
            refine R_iald (n := 121) sh_130 (rfl) (by omega) dX8_canal_120 rfl ?_
            refine R_iast (n := 122) sh_127 (rfl) (by omega) dX8_canal_121 rfl ?_
            refine R_aload_n (n := 123) dX8_canal_122 rfl rfl ?_
            refine gf_X8_16 (n := 126) dX8_canal_123 rfl ?_
            refine R_bipush (v := nI 17) (n := 128) dX8_canal_126 rfl rfl ?_
            refine R_iload_n (n := 129) dX8_canal_128 rfl rfl ?_
            refine R_iadd_n (n := 130) dX8_canal_129 rfl ?_
            refine R_iload_n (n := 131) dX8_canal_130 rfl rfl ?_
            refine R_aload_n (n := 132) dX8_canal_131 rfl rfl ?_
            refine ge_X8_83 (n := 135) dX8_canal_132 rfl (by first | exact l2' | (rw [sti_1_pf _ _ _ _ _ _ (by omega)]; exact l2') | (rw [sti_1_pf _ _ _ _ _ _ (by omega), sti_1_pf _ _ _ _ _ _ (by omega)]; exact l2') | (rw [sti_1_pf _ _ _ _ _ _ (by omega), sti_1_pf _ _ _ _ _ _ (by omega), sti_1_pf _ _ _ _ _ _ (by omega)]; exact l2') | (rw [sti_1_pf _ _ _ _ _ _ (by omega), sti_1_pf _ _ _ _ _ _ (by omega), sti_1_pf _ _ _ _ _ _ (by omega), sti_1_pf _ _ _ _ _ _ (by omega)]; exact l2') | (rw [sti_1_pf _ _ _ _ _ _ (by omega), sti_1_pf _ _ _ _ _ _ (by omega), sti_1_pf _ _ _ _ _ _ (by omega), sti_1_pf _ _ _ _ _ _ (by omega), sti_1_pf _ _ _ _ _ _ (by omega)]; exact l2')) ?_
            have tail : ∀ x : Int32, x = (if k < A.2.1 then μ1.1 130 (3 * k + 2) else nI 0) → V G l RX8 cX8_canal 2 4 false (some .int) (fun r μ' => r = some (.int (nI (10 * A.1 + A.2.1))) ∧ MI μ' (mkG (accCF A) (accST A) (gH' σ) 0 (fun _ => none) (gT σ) (gL σ) (gZ σ)) ∧ SmM μ μ') 152 [some (.ref (G.2.2.1 125)), some (.int (nI k))] [.int x, .int (nI (17 + k)), .ref (G.2.2.1 128)] (sti (sti (sti μ4 128 k (nI k)) 126 k ((sti μ4 128 k (nI k)).1 130 (3 * k))) 127 k ((sti (sti μ4 128 k (nI k)) 126 k ((sti μ4 128 k (nI k)).1 130 (3 * k))).1 130 (3 * k + 1))) := by
              intro x hx
              refine R_iast (n := 153) sh_128 (rfl) (by omega) dX8_canal_152 rfl ?_
              refine R_iinc (n := 156) dX8_canal_153 rfl rfl (nI_1 _) (Nat.le_of_ble_eq_true rfl) ?_
              refine R_goto (tgt := 79) dX8_canal_156 rfl ?_
              refine ih _ (fun j hj => ?_) ((((e2.sti (by omega)).sti (by omega)).sti (by omega)).sti (by omega))
              by_cases e : j = k
              · subst e
                refine ⟨?_, ?_, ?_, ?_⟩
                · rw [sti_1_pf _ _ _ _ _ _ (by omega), sti_1_pf _ _ _ _ _ _ (by omega), sti_1_pf _ _ _ _ _ _ (by omega), sti_1_eq]
                · rw [sti_1_pf _ _ _ _ _ _ (by omega), sti_1_pf _ _ _ _ _ _ (by omega), sti_1_eq, sti_1_pf _ _ _ _ _ _ (by omega), k3]
                · rw [sti_1_pf _ _ _ _ _ _ (by omega), sti_1_eq, sti_1_pf _ _ _ _ _ _ (by omega), sti_1_pf _ _ _ _ _ _ (by omega), k3]
                · rw [sti_1_eq, hx]
              · obtain ⟨y1, y2, y3, y4⟩ := e1 j (by omega)
                refine ⟨?_, ?_, ?_, ?_⟩
                · rw [sti_1_pf _ _ _ _ _ _ (by omega), sti_1_pf _ _ _ _ _ _ (by omega), sti_1_pf _ _ _ _ _ _ (by omega), sti_1_pf _ _ _ _ _ _ (by omega)]; exact y1
                · rw [sti_1_pf _ _ _ _ _ _ (by omega), sti_1_pf _ _ _ _ _ _ (by omega), sti_1_pf _ _ _ _ _ _ (by omega), sti_1_pf _ _ _ _ _ _ (by omega)]; exact y2
                · rw [sti_1_pf _ _ _ _ _ _ (by omega), sti_1_pf _ _ _ _ _ _ (by omega), sti_1_pf _ _ _ _ _ _ (by omega), sti_1_pf _ _ _ _ _ _ (by omega)]; exact y3
                · rw [sti_1_pf _ _ _ _ _ _ (by omega), sti_1_pf _ _ _ _ _ _ (by omega), sti_1_pf _ _ _ _ _ _ (by omega), sti_1_pf _ _ _ _ _ _ (by omega)]; exact y4
            by_cases hb : k < A.2.1
            · refine R_icmp_ge_f (n := 138) dX8_canal_135 rfl rfl (by rw [nI_leI (by omega) (by omega)]; omega) ?_
              refine R_aload_n (n := 139) dX8_canal_138 rfl rfl ?_
              refine gf_X8_22 (n := 142) dX8_canal_139 rfl ?_
              refine R_iconst (v := nI 3) (n := 143) dX8_canal_142 rfl rfl ?_
              refine R_iload_n (n := 144) dX8_canal_143 rfl rfl ?_
              refine R_imul_n (n := 145) dX8_canal_144 rfl ?_
              refine R_iconst (v := nI 2) (n := 146) dX8_canal_145 rfl rfl ?_
              refine R_iadd_n (n := 147) dX8_canal_146 rfl ?_
              refine R_iald (n := 148) sh_130 (rfl) (by omega) dX8_canal_147 rfl ?_
              refine R_goto (tgt := 152) dX8_canal_148 rfl ?_
              refine tail _ ?_
              rw [if_pos hb, sti_1_ne _ _ _ (by omega), sti_1_ne _ _ _ (by omega), sti_1_ne _ _ _ (by omega), k3]
            · refine R_icmp_ge_t (tgt := 151) dX8_canal_135 rfl (by rw [nI_leI (by omega) (by omega)]; omega) ?_
              refine R_iconst (v := nI 0) (n := 152) dX8_canal_151 rfl rfl ?_
              exact tail _ (by rw [if_neg hb])
        · intro k hk ih μ3 d1 d2
          refine R_iload_n (n := 52) dX8_canal_51 rfl rfl ?_
          refine R_iconst (v := nI 5) (n := 53) dX8_canal_52 rfl rfl ?_
          refine R_icmp_ge_f (n := 56) dX8_canal_53 rfl rfl (by rw [nI_leI (by omega) (by omega)]; omega) ?_
          refine R_aload_n (n := 57) dX8_canal_56 rfl rfl ?_
          refine gf_X8_16 (n := 60) dX8_canal_57 rfl ?_
          refine R_bipush (v := nI 12) (n := 62) dX8_canal_60 rfl rfl ?_
          refine R_iload_n (n := 63) dX8_canal_62 rfl rfl ?_
          refine R_iadd_n (n := 64) dX8_canal_63 rfl ?_
          refine R_aload_n (n := 65) dX8_canal_64 rfl rfl ?_
          refine gf_X8_19 (n := 68) dX8_canal_65 rfl ?_
          refine R_iload_n (n := 69) dX8_canal_68 rfl rfl ?_
          refine R_iald (n := 70) sh_129 (rfl) (by omega) dX8_canal_69 rfl ?_
          refine R_iast (n := 71) sh_128 (rfl) (by omega) dX8_canal_70 rfl ?_
          refine R_iinc (n := 74) dX8_canal_71 rfl rfl (nI_1 _) (Nat.le_of_ble_eq_true rfl) ?_
          refine R_goto (tgt := 51) dX8_canal_74 rfl ?_
          refine ih _ (fun j hj => ?_) (d2.sti (by omega))
          rw [sti_1]
          by_cases e : j = k
          · rw [if_pos ⟨rfl, by omega⟩, d2.1 _ _ (by omega), b2.1 _ _ (by omega), e]
          · rw [if_neg (by omega)]; exact d1 j (by omega)
      · intro k hk ih μ2 b1 b2
        refine R_iload_n (n := 31) dX8_canal_30 rfl rfl ?_
        refine R_bipush (v := nI 54) (n := 33) dX8_canal_31 rfl rfl ?_
        refine R_icmp_ge_f (n := 36) dX8_canal_33 rfl rfl (by rw [nI_leI (by omega) (by omega)]; omega) ?_
        refine R_aload_n (n := 37) dX8_canal_36 rfl rfl ?_
        refine gf_X8_16 (n := 40) dX8_canal_37 rfl ?_
        refine R_iload_n (n := 41) dX8_canal_40 rfl rfl ?_
        refine R_iconst (v := nI 0) (n := 42) dX8_canal_41 rfl rfl ?_
        refine R_iast (n := 43) sh_128 (rfl) (by omega) dX8_canal_42 rfl ?_
        refine R_iinc (n := 46) dX8_canal_43 rfl rfl (nI_1 _) (Nat.le_of_ble_eq_true rfl) ?_
        refine R_goto (tgt := 30) dX8_canal_46 rfl ?_
        refine ih _ (fun j hj => ?_) (b2.sti (by omega))
        rw [sti_1]
        by_cases e : j = k
        · rw [if_pos ⟨rfl, e⟩]
        · rw [if_neg (fun z => e z.2)]; exact b1 j (by omega)
end M7

