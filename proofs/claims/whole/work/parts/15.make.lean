/-! the parts one by one: locks, barges, laws, three numbers a barge -/
def updN (f : Nat → Nat) (k x : Nat) : Nat → Nat := fun j => if j = k then x else f j
def upd3 (f : Nat → Nat) (k x y z : Nat) : Nat → Nat := fun j => if j = 3 * k then x else if j = 3 * k + 1 then y else if j = 3 * k + 2 then z else f j
abbrev AC : Type := Nat × Nat × (Nat → Nat) × (Nat → Nat)
def ptx (tx : Nat → Nat) (len : Nat) : Nat → Nat → AC → Option Nat × AC
  | 0, _, A => (none, A)
  | f + 1, p, A =>
    if p < len then
      if tx p = 75 ∧ A.1 < 5 then
        if p + 1 < len ∧ 48 ≤ tx (p + 1) ∧ tx (p + 1) ≤ 51 then ptx tx len f (p + 2) (A.1 + 1, A.2.1, updN A.2.2.1 A.1 (tx (p + 1) - 48), A.2.2.2)
        else (some (p + 1), A)
      else if tx p = 66 ∧ A.2.1 < 6 then
        if p + 1 < len ∧ 49 ≤ tx (p + 1) ∧ tx (p + 1) ≤ 50 then
          if p + 2 < len ∧ 48 ≤ tx (p + 2) ∧ tx (p + 2) ≤ 57 then
            if p + 3 < len ∧ 48 ≤ tx (p + 3) ∧ tx (p + 3) ≤ 57 then ptx tx len f (p + 4) (A.1, A.2.1 + 1, A.2.2.1, upd3 A.2.2.2 A.2.1 (tx (p + 1) - 48) (tx (p + 2) - 48) (tx (p + 3) - 48))
            else (some (p + 3), A)
          else (some (p + 2), A)
        else (some (p + 1), A)
      else (some p, A)
    else (none, A)
def A0 : AC := (0, 0, fun _ => 0, fun _ => 0)
/-- the whole text: its fault, its canal -/
def rdT (tx : Nat → Nat) (len : Nat) : Option Nat × AC := if len = 0 ∨ tx 0 ≠ 67 then (some 0, A0) else ptx tx len len 1 A0
theorem flt_st {tx : Nat → Nat} {len f p d ks bs : Nat} (hp : p < len) (hf : len ≤ p + f) : flt tx len f p d ks bs = if dueF d (tx p) = 6 ∨ 5 < (if tx p = 75 then ks + 1 else ks) ∨ 6 < (if tx p = 66 then bs + 1 else bs) then some p
      else flt tx len (f - 1) (p + 1) (dueF d (tx p)) (if tx p = 75 then ks + 1 else ks) (if tx p = 66 then bs + 1 else bs) := by
  cases f with
  | zero => exact absurd hf (by omega)
  | succ f => rw [flt, if_pos hp]; rfl
theorem flt_en {tx : Nat → Nat} {len f p d ks bs : Nat} (hp : ¬ p < len) : flt tx len f p d ks bs = if d = 1 then none else some len := by
  cases f with
  | zero => rfl
  | succ f => rw [flt, if_neg hp]
/-- a digit that is due comes, or the fault is there -/
theorem flt_d {tx : Nat → Nat} {len f p d ks bs lo hi d' : Nat} (hd : ∀ t, dueF d t = if 48 + lo ≤ t ∧ t ≤ 48 + hi then d' else 6) (hhi : hi ≤ 9) (hd6 : d' ≠ 6) (hd1 : d ≠ 1) (hk : ks ≤ 5) (hb : bs ≤ 6) (hpl : p ≤ len) (hf : len ≤ p + f) :
    flt tx len f p d ks bs = if p < len ∧ 48 + lo ≤ tx p ∧ tx p ≤ 48 + hi then flt tx len (f - 1) (p + 1) d' ks bs else some p := by
  by_cases hp : p < len
  · rw [flt_st hp hf, hd]
    by_cases h : 48 + lo ≤ tx p ∧ tx p ≤ 48 + hi
    · rw [if_pos h, if_neg (by omega : ¬ tx p = 75), if_neg (by omega : ¬ tx p = 66), if_neg (by omega), if_pos ⟨hp, h⟩]
    · rw [if_neg h, if_pos (Or.inl rfl), if_neg (fun z => h z.2)]
  · rw [flt_en hp, if_neg hd1, if_neg (fun z => hp z.1)]
    exact congrArg some (by omega)
theorem flt_ptx {tx : Nat → Nat} {len : Nat} : ∀ (f' f p : Nat) (A : AC), len ≤ p + f → len ≤ p + f' → A.1 ≤ 5 → A.2.1 ≤ 6 → flt tx len f p 1 A.1 A.2.1 = (ptx tx len f' p A).1 := by
  intro f'
  induction f' with
  | zero =>
    intro f p A h1 h2 h3 h4
    rw [flt_en (by omega)]
    rfl
  | succ f' ih =>
    intro f p A h1 h2 h3 h4
    rw [ptx]
    by_cases hp : p < len
    · rw [if_pos hp, flt_st hp h1]
      by_cases hK : tx p = 75
      · have e : dueF 1 (tx p) = 2 := by rw [hK]; rfl
        rw [e, if_pos hK, if_neg (by omega : ¬ tx p = 66)]
        by_cases hk : A.1 < 5
        · rw [if_neg (by omega), if_pos ⟨hK, hk⟩, flt_d (lo := 0) (hi := 3) (d' := 1) (fun t => rfl) (by omega) (by omega) (by omega) (by omega) (by omega) (by omega) (by omega)]
          by_cases hd : p + 1 < len ∧ 48 ≤ tx (p + 1) ∧ tx (p + 1) ≤ 51
          · rw [if_pos hd, if_pos hd]
            exact ih _ _ (A.1 + 1, A.2.1, updN A.2.2.1 A.1 (tx (p + 1) - 48), A.2.2.2) (by omega) (by omega) hk h4
          · rw [if_neg hd, if_neg hd]
        · rw [if_pos (by omega), if_neg (show ¬ (tx p = 75 ∧ A.1 < 5) from fun z => hk z.2), if_neg (by omega)]
      · rw [if_neg hK, if_neg (show ¬ (tx p = 75 ∧ A.1 < 5) from fun z => hK z.1)]
        by_cases hB : tx p = 66
        · have e : dueF 1 (tx p) = 3 := by rw [hB]; rfl
          rw [e, if_pos hB]
          by_cases hk : A.2.1 < 6
          · rw [if_neg (by omega), if_pos ⟨hB, hk⟩, flt_d (lo := 1) (hi := 2) (d' := 4) (fun t => by
              show (if t = 49 ∨ t = 50 then 4 else 6) = _
              by_cases q : t = 49 ∨ t = 50
              · rw [if_pos q, if_pos (by omega)]
              · rw [if_neg q, if_neg (by omega)]) (by omega) (by omega) (by omega) (by omega) (by omega) (by omega) (by omega)]
            by_cases hd : p + 1 < len ∧ 49 ≤ tx (p + 1) ∧ tx (p + 1) ≤ 50
            · rw [if_pos hd, if_pos hd, flt_d (lo := 0) (hi := 9) (d' := 5) (fun t => rfl) (by omega) (by omega) (by omega) (by omega) (by omega) (by omega) (by omega)]
              by_cases hd2 : p + 1 + 1 < len ∧ 48 ≤ tx (p + 1 + 1) ∧ tx (p + 1 + 1) ≤ 57
              · rw [if_pos hd2, if_pos hd2, flt_d (lo := 0) (hi := 9) (d' := 1) (fun t => rfl) (by omega) (by omega) (by omega) (by omega) (by omega) (by omega) (by omega)]
                by_cases hd3 : p + 1 + 1 + 1 < len ∧ 48 ≤ tx (p + 1 + 1 + 1) ∧ tx (p + 1 + 1 + 1) ≤ 57
                · rw [if_pos hd3, if_pos hd3]
                  exact ih _ _ (A.1, A.2.1 + 1, A.2.2.1, upd3 A.2.2.2 A.2.1 (tx (p + 1) - 48) (tx (p + 2) - 48) (tx (p + 3) - 48)) (by omega) (by omega) h3 hk
                · rw [if_neg hd3, if_neg hd3]
              · rw [if_neg hd2, if_neg hd2]
            · rw [if_neg hd, if_neg hd]
          · rw [if_pos (by omega), if_neg (show ¬ (tx p = 66 ∧ A.2.1 < 6) from fun z => hk z.2)]
        · have e : dueF 1 (tx p) = 6 := by rw [dueF, if_neg hK, if_neg hB]
          rw [e, if_pos (Or.inl rfl), if_neg (show ¬ (tx p = 66 ∧ A.2.1 < 6) from fun z => hB z.1)]
    · rw [if_neg hp, flt_en hp]
      rfl
theorem flt_rdT (tx : Nat → Nat) (len : Nat) : flt tx len len 0 0 0 0 = (rdT tx len).1 := by
  unfold rdT
  by_cases h0 : len = 0
  · rw [if_pos (Or.inl h0), flt_en (by omega), if_neg (by omega), h0]
  · rw [flt_st (by omega) (by omega)]
    by_cases h : tx 0 = 67
    · have e : dueF 0 (tx 0) = 1 := by rw [h]; rfl
      rw [e, if_neg (by omega : ¬ tx 0 = 75), if_neg (by omega : ¬ tx 0 = 66), if_neg (by omega), if_neg (by omega)]
      exact flt_ptx len (len - 1) 1 A0 (by omega) (by omega) (by decide) (by decide)
    · have e : dueF 0 (tx 0) = 6 := by rw [dueF, if_neg h]
      rw [e, if_pos (Or.inl rfl), if_pos (Or.inr h)]
section MK
variable {G : Gm} {l : Launch} {μ : Mem} {tx : Nat → Nat} {len : Nat}
def accCF (A : AC) : CF := (A.2.1, A.1, fun j => nI (A.2.2.2 (3 * j)), fun j => nI (A.2.2.2 (3 * j + 1)))
def accST (A : AC) : ST := mkS (fun p => p) (fun _ => nI 0) (fun j => A.2.2.2 (3 * j + 2)) A.2.2.1 (fun _ => nI 0) 0
abbrev Pmk : Nat → Nat → Prop := fun i _ => 3 ≤ i ∧ i ≤ 11
def Imk (μ : Mem) (A : AC) : Prop := μ.1 3 4 = nI A.1 ∧ μ.1 3 5 = nI A.2.1 ∧ (∀ k, k < A.1 → μ.1 10 k = nI (A.2.2.1 k)) ∧ (∀ j, j < A.2.1 → μ.1 4 j = nI (A.2.2.2 (3 * j)) ∧ μ.1 5 j = nI (A.2.2.2 (3 * j + 1)) ∧ μ.1 9 j = nI (A.2.2.2 (3 * j + 2)) ∧ μ.1 7 j = nI j) ∧ (∀ j, j < 6 → μ.1 8 j = nI 0) ∧ (∀ e, e < 30 → μ.1 11 e = nI 0) ∧ μ.1 6 6 = nI 0
theorem CTx.kept {μ μ1 : Mem} {P : Nat → Nat → Prop} (h : CTx μ tx len) (hs : Sme P μ μ1) (h1 : ¬ P 1 1) (h2 : ∀ k, ¬ P 2 k) : CTx μ1 tx len := ⟨(hs.1 _ _ h1).trans h.1, h.2.1, fun k hk => (hs.1 _ _ (h2 k)).trans (h.2.2.1 k hk), h.2.2.2⟩
theorem ct_X1_makeFrom {A : AC} (hT : CTx μ tx len) (h : rdT tx len = (none, A)) : Ct G l 3 yX1_makeFrom cX1_makeFrom 4 none [.ref (G.2.2.1 3), .ref (G.2.2.1 1)] μ (fun r μ' => r = none ∧ CCf μ' (accCF A) ∧ CSt μ' 6 A.2.1 (accCF A) (accST A) ∧ Sme Pmk μ μ') := by
  have hT0 := hT
  obtain ⟨h1, h2, h3, h4⟩ := hT0
  have hl0 : ¬ (len = 0 ∨ tx 0 ≠ 67) := by
    intro z
    rw [rdT, if_pos z] at h
    cases h
  rw [rdT, if_neg hl0] at h
  have hc67 : tx 0 = 67 := by omega
  refine Ct.of 2 (by decide +kernel) rfl (Nat.le_of_ble_eq_true rfl) ?_
  show V G l RX1 cX1_makeFrom 4 _ false none _ 0 [some (.ref _), some (.ref _), none, none] [] _
  refine R_aload_n (n := 1) dX1_makeFrom_0 rfl rfl ?_
  refine R_iconst (v := nI 0) (n := 2) dX1_makeFrom_1 rfl rfl ?_
  refine pf_X1_28 (n := 5) dX1_makeFrom_2 rfl ?_
  refine R_aload_n (n := 6) dX1_makeFrom_5 rfl rfl ?_
  refine R_iconst (v := nI 0) (n := 7) dX1_makeFrom_6 rfl rfl ?_
  refine pf_X1_32 (n := 10) dX1_makeFrom_7 rfl ?_
  refine R_aload_n (n := 11) dX1_makeFrom_10 rfl rfl ?_
  refine gf_X1_21 (n := 14) dX1_makeFrom_11 rfl ?_
  refine iv_X1_35 (n := 17) (ct_X5_clearAll stB_6) stB_6 (by decide) dX1_makeFrom_14 rfl (Nat.le_of_ble_eq_true rfl) (fun r μ' hq => ?_)
  obtain ⟨rfl, ⟨q1, q2, q3, q4⟩, q5⟩ := hq
  have s1 : Sme Pmk μ (sti (sti μ 3 4 (nI 0)) 3 5 (nI 0)) := ((Sme.rf _ _).sti (by omega)).sti (by omega)
  have s2 : Sme Pmk μ μ' := s1.tr (q5.mono (fun i j h => by omega))
  have hI : Imk μ' A0 := by
    refine ⟨?_, ?_, fun k hk => absurd hk (by omega : ¬ k < 0), fun j hj => absurd hj (by omega : ¬ j < 0), q1, q2, q4⟩
    · rw [q5.1 _ _ (by omega), sti_1_pf _ _ _ _ _ _ (by omega), sti_1_eq]; rfl
    · rw [q5.1 _ _ (by omega), sti_1_eq]; rfl
  clear q1 q2 q3 q4 q5 s1
  refine R_iconst (v := nI 0) (n := 18) dX1_makeFrom_17 rfl rfl ?_
  refine R_istore_n (n := 19) dX1_makeFrom_18 rfl (Nat.le_of_ble_eq_true rfl) (Nat.le_of_ble_eq_true rfl) ?_
  have skip : ∀ (p : Nat) (μ1 : Mem) (j3 : Option Value), Sme Pmk μ μ1 → p < len → tx p ≠ 75 → tx p ≠ 66 → (∀ j3 : Option Value, V G l RX1 cX1_makeFrom 4 3 false none (fun r μ' => r = none ∧ CCf μ' (accCF A) ∧ CSt μ' 6 A.2.1 (accCF A) (accST A) ∧ Sme Pmk μ μ') 19 [some (.ref (G.2.2.1 3)), some (.ref (G.2.2.1 1)), some (.int (nI (p + 1))), j3] [] μ1) → V G l RX1 cX1_makeFrom 4 3 false none (fun r μ' => r = none ∧ CCf μ' (accCF A) ∧ CSt μ' 6 A.2.1 (accCF A) (accST A) ∧ Sme Pmk μ μ') 19 [some (.ref (G.2.2.1 3)), some (.ref (G.2.2.1 1)), some (.int (nI p)), j3] [] μ1 := by
    intro p μ1 j3 hs hp n1 n2 k
    have hx := h4 p hp
    obtain ⟨t1, t2, t3, t4⟩ := hT.kept hs (by omega) (fun k => by omega)
    refine R_iload_n (n := 20) dX1_makeFrom_19 rfl rfl ?_
    refine R_aload_n (n := 21) dX1_makeFrom_20 rfl rfl ?_
    refine ge_X1_38 (n := 24) dX1_makeFrom_21 rfl (t1) ?_
    refine R_icmp_ge_f (n := 27) dX1_makeFrom_24 rfl rfl (by rw [nI_leI (by omega) (by omega)]; omega) ?_
    refine R_aload_n (n := 28) dX1_makeFrom_27 rfl rfl ?_
    refine gf_X1_43 (n := 31) dX1_makeFrom_28 rfl ?_
    refine R_iload_n (n := 32) dX1_makeFrom_31 rfl rfl ?_
    refine R_iald_e (n := 33) sh_2 (rfl) (by omega) dX1_makeFrom_32 rfl (t3 _ (by omega)) ?_
    refine R_istore_n (n := 34) dX1_makeFrom_33 rfl (Nat.le_of_ble_eq_true rfl) (Nat.le_of_ble_eq_true rfl) ?_
    refine R_iload_n (n := 35) dX1_makeFrom_34 rfl rfl ?_
    refine R_bipush (v := nI 75) (n := 37) dX1_makeFrom_35 rfl rfl ?_
    refine R_icmp_ne_t (tgt := 80) dX1_makeFrom_37 rfl (by rw [nI_eq (by omega) (by omega)]; omega) ?_
    refine R_iload_n (n := 81) dX1_makeFrom_80 rfl rfl ?_
    refine R_bipush (v := nI 66) (n := 83) dX1_makeFrom_81 rfl rfl ?_
    refine R_icmp_ne_t (tgt := 172) dX1_makeFrom_83 rfl (by rw [nI_eq (by omega) (by omega)]; omega) ?_
    refine R_iinc (n := 175) dX1_makeFrom_172 rfl rfl (nI_1 _) (Nat.le_of_ble_eq_true rfl) ?_
    refine R_goto (tgt := 19) dX1_makeFrom_175 rfl ?_
    exact k _
  have fin : ∀ (p : Nat) (μ1 : Mem) (j3 : Option Value), p = len → Imk μ1 A → Sme Pmk μ μ1 → V G l RX1 cX1_makeFrom 4 3 false none (fun r μ' => r = none ∧ CCf μ' (accCF A) ∧ CSt μ' 6 A.2.1 (accCF A) (accST A) ∧ Sme Pmk μ μ') 19 [some (.ref (G.2.2.1 3)), some (.ref (G.2.2.1 1)), some (.int (nI p)), j3] [] μ1 := by
    intro p μ1 j3 hp hI hs
    obtain ⟨t1, t2, t3, t4⟩ := hT.kept hs (by omega) (fun k => by omega)
    obtain ⟨i1, i2, i3, i4, i5, i6, i7⟩ := hI
    subst hp
    refine R_iload_n (n := 20) dX1_makeFrom_19 rfl rfl ?_
    refine R_aload_n (n := 21) dX1_makeFrom_20 rfl rfl ?_
    refine ge_X1_38 (n := 24) dX1_makeFrom_21 rfl (t1) ?_
    refine R_icmp_ge_t (tgt := 178) dX1_makeFrom_24 rfl (by rw [nI_leI (by omega) (by omega)]; omega) ?_
    refine R_aload_n (n := 179) dX1_makeFrom_178 rfl rfl ?_
    refine gf_X1_21 (n := 182) dX1_makeFrom_179 rfl ?_
    refine R_aload_n (n := 183) dX1_makeFrom_182 rfl rfl ?_
    refine ge_X1_32 (n := 186) dX1_makeFrom_183 rfl (i2) ?_
    refine pf_X1_59 (n := 189) stB_6 dX1_makeFrom_186 rfl ?_
    refine R_ret dX1_makeFrom_189 rfl ⟨rfl, ⟨?_, ?_, fun j hj => ?_, fun j hj => ?_⟩, ⟨fun p hp => ?_, fun j hj => ?_, fun j hj => ?_, fun j hj => ?_, fun e he => ?_, ?_, ?_⟩, hs.sti (by omega)⟩
    · rw [sti_1_pf _ _ _ _ _ _ (by omega)]; exact i1
    · rw [sti_1_pf _ _ _ _ _ _ (by omega)]; exact i2
    · rw [sti_1_pf _ _ _ _ _ _ (by omega)]; exact (i4 j hj).1
    · rw [sti_1_pf _ _ _ _ _ _ (by omega)]; exact (i4 j hj).2.1
    · rw [sti_1_pf _ _ _ _ _ _ (by omega)]; exact (i4 p hp).2.2.2
    · rw [sti_1_pf _ _ _ _ _ _ (by omega)]; exact i5 j hj
    · rw [sti_1_pf _ _ _ _ _ _ (by omega)]; exact (i4 j hj).2.2.1
    · rw [sti_1_pf _ _ _ _ _ _ (by omega)]; exact i3 j hj
    · rw [sti_1_pf _ _ _ _ _ _ (by omega)]; exact i6 e he
    · rw [sti_1_eq]
    · rw [sti_1_pf _ _ _ _ _ _ (by omega)]; exact i7
  have loop : ∀ (f p : Nat) (B : AC) (μ1 : Mem) (j3 : Option Value), 1 ≤ p → p ≤ len → len ≤ p + f → ptx tx len f p B = (none, A) → B.1 ≤ 5 → B.2.1 ≤ 6 → Imk μ1 B → Sme Pmk μ μ1 → V G l RX1 cX1_makeFrom 4 3 false none (fun r μ' => r = none ∧ CCf μ' (accCF A) ∧ CSt μ' 6 A.2.1 (accCF A) (accST A) ∧ Sme Pmk μ μ') 19 [some (.ref (G.2.2.1 3)), some (.ref (G.2.2.1 1)), some (.int (nI p)), j3] [] μ1 := by
    intro f
    induction f with
    | zero =>
      intro p B μ1 j3 hp1 hp hf hP hk5 hb6 hI hs
      cases hP
      exact fin p μ1 j3 (by omega) hI hs
    | succ f ih =>
      intro p B μ1 j3 hp1 hp hf hP hk5 hb6 hI hs
      have hlen := (hT.kept hs (by omega) (fun k => by omega)).1
      rw [ptx] at hP
      by_cases hlt : p < len
      · rw [if_pos hlt] at hP
        have hx := h4 p hlt
        have hT1 := hT.kept hs (by omega) (fun k => by omega)
        obtain ⟨t1, t2, t3, t4⟩ := id hT1
        obtain ⟨i1, i2, i3, i4, i5, i6, i7⟩ := id hI
        by_cases hK : tx p = 75
        · by_cases hk : B.1 < 5
          · rw [if_pos ⟨hK, hk⟩] at hP
            by_cases hd : p + 1 < len ∧ 48 ≤ tx (p + 1) ∧ tx (p + 1) ≤ 51
            · rw [if_pos hd] at hP
              refine R_iload_n (n := 20) dX1_makeFrom_19 rfl rfl ?_
              refine R_aload_n (n := 21) dX1_makeFrom_20 rfl rfl ?_
              refine ge_X1_38 (n := 24) dX1_makeFrom_21 rfl (t1) ?_
              refine R_icmp_ge_f (n := 27) dX1_makeFrom_24 rfl rfl (by rw [nI_leI (by omega) (by omega)]; omega) ?_
              refine R_aload_n (n := 28) dX1_makeFrom_27 rfl rfl ?_
              refine gf_X1_43 (n := 31) dX1_makeFrom_28 rfl ?_
              refine R_iload_n (n := 32) dX1_makeFrom_31 rfl rfl ?_
              refine R_iald_e (n := 33) sh_2 (rfl) (by omega) dX1_makeFrom_32 rfl (t3 _ (by omega)) ?_
              refine R_istore_n (n := 34) dX1_makeFrom_33 rfl (Nat.le_of_ble_eq_true rfl) (Nat.le_of_ble_eq_true rfl) ?_
              refine R_iload_n (n := 35) dX1_makeFrom_34 rfl rfl ?_
              refine R_bipush (v := nI 75) (n := 37) dX1_makeFrom_35 rfl rfl ?_
              refine R_icmp_ne_f (n := 40) dX1_makeFrom_37 rfl rfl (by rw [hK]) ?_
              refine R_aload_n (n := 41) dX1_makeFrom_40 rfl rfl ?_
              refine ge_X1_28 (n := 44) dX1_makeFrom_41 rfl (by first | exact i1 | (rw [sti_1_pf _ _ _ _ _ _ (by omega)]; exact i1) | (rw [sti_1_pf _ _ _ _ _ _ (by omega), sti_1_pf _ _ _ _ _ _ (by omega)]; exact i1) | (rw [sti_1_pf _ _ _ _ _ _ (by omega), sti_1_pf _ _ _ _ _ _ (by omega), sti_1_pf _ _ _ _ _ _ (by omega)]; exact i1) | (rw [sti_1_pf _ _ _ _ _ _ (by omega), sti_1_pf _ _ _ _ _ _ (by omega), sti_1_pf _ _ _ _ _ _ (by omega), sti_1_pf _ _ _ _ _ _ (by omega)]; exact i1) | (rw [sti_1_pf _ _ _ _ _ _ (by omega), sti_1_pf _ _ _ _ _ _ (by omega), sti_1_pf _ _ _ _ _ _ (by omega), sti_1_pf _ _ _ _ _ _ (by omega), sti_1_pf _ _ _ _ _ _ (by omega)]; exact i1)) ?_
              refine R_iconst (v := nI 5) (n := 45) dX1_makeFrom_44 rfl rfl ?_
              refine R_icmp_ge_f (n := 48) dX1_makeFrom_45 rfl rfl (by rw [nI_leI (by omega) (by omega)]; omega) ?_
              refine R_aload_n (n := 49) dX1_makeFrom_48 rfl rfl ?_
              refine gf_X1_21 (n := 52) dX1_makeFrom_49 rfl ?_
              refine gf_X1_46 (n := 55) stB_6 dX1_makeFrom_52 rfl ?_
              refine R_aload_n (n := 56) dX1_makeFrom_55 rfl rfl ?_
              refine ge_X1_28 (n := 59) dX1_makeFrom_56 rfl (by first | exact i1 | (rw [sti_1_pf _ _ _ _ _ _ (by omega)]; exact i1) | (rw [sti_1_pf _ _ _ _ _ _ (by omega), sti_1_pf _ _ _ _ _ _ (by omega)]; exact i1) | (rw [sti_1_pf _ _ _ _ _ _ (by omega), sti_1_pf _ _ _ _ _ _ (by omega), sti_1_pf _ _ _ _ _ _ (by omega)]; exact i1) | (rw [sti_1_pf _ _ _ _ _ _ (by omega), sti_1_pf _ _ _ _ _ _ (by omega), sti_1_pf _ _ _ _ _ _ (by omega), sti_1_pf _ _ _ _ _ _ (by omega)]; exact i1) | (rw [sti_1_pf _ _ _ _ _ _ (by omega), sti_1_pf _ _ _ _ _ _ (by omega), sti_1_pf _ _ _ _ _ _ (by omega), sti_1_pf _ _ _ _ _ _ (by omega), sti_1_pf _ _ _ _ _ _ (by omega)]; exact i1)) ?_
              refine R_aload_n (n := 60) dX1_makeFrom_59 rfl rfl ?_
              refine R_iload_n (n := 61) dX1_makeFrom_60 rfl rfl ?_
              refine R_iconst (v := nI 1) (n := 62) dX1_makeFrom_61 rfl rfl ?_
              refine R_iadd_n (n := 63) dX1_makeFrom_62 rfl ?_
              refine iv_X1_49 (n := 66) (ct_X6_figureAt hT1 hd.1) (by decide) dX1_makeFrom_63 rfl (Nat.le_of_ble_eq_true rfl) (fun r μ' hq => ?_)
              obtain ⟨rfl, hq⟩ := hq
              have hq := hq.symm
              subst hq
              rw [nI_sub (by omega)]
              refine R_iast (n := 67) stB_6.2.2.2.2.1 (rfl) (by omega) dX1_makeFrom_66 rfl ?_
              refine R_aload_n (n := 68) dX1_makeFrom_67 rfl rfl ?_
              refine R_dup (n := 69) dX1_makeFrom_68 rfl rfl ?_
              refine ge_X1_28 (n := 72) dX1_makeFrom_69 rfl (by first | exact i1 | (rw [sti_1_pf _ _ _ _ _ _ (by omega)]; exact i1) | (rw [sti_1_pf _ _ _ _ _ _ (by omega), sti_1_pf _ _ _ _ _ _ (by omega)]; exact i1) | (rw [sti_1_pf _ _ _ _ _ _ (by omega), sti_1_pf _ _ _ _ _ _ (by omega), sti_1_pf _ _ _ _ _ _ (by omega)]; exact i1) | (rw [sti_1_pf _ _ _ _ _ _ (by omega), sti_1_pf _ _ _ _ _ _ (by omega), sti_1_pf _ _ _ _ _ _ (by omega), sti_1_pf _ _ _ _ _ _ (by omega)]; exact i1) | (rw [sti_1_pf _ _ _ _ _ _ (by omega), sti_1_pf _ _ _ _ _ _ (by omega), sti_1_pf _ _ _ _ _ _ (by omega), sti_1_pf _ _ _ _ _ _ (by omega), sti_1_pf _ _ _ _ _ _ (by omega)]; exact i1)) ?_
              refine R_iconst (v := nI 1) (n := 73) dX1_makeFrom_72 rfl rfl ?_
              refine R_iadd_n (n := 74) dX1_makeFrom_73 rfl ?_
              refine pf_X1_28 (n := 77) dX1_makeFrom_74 rfl ?_
              refine R_goto (tgt := 172) dX1_makeFrom_77 rfl ?_
              refine R_iinc (n := 175) dX1_makeFrom_172 rfl rfl (nI_1 _) (Nat.le_of_ble_eq_true rfl) ?_
              refine R_goto (tgt := 19) dX1_makeFrom_175 rfl ?_
              refine skip (p + 1) _ _ ((hs.sti (by omega)).sti (by omega)) hd.1 (by omega) (by omega) (fun j3 => ?_)
              refine ih (p + 2) _ _ j3 (by omega) (by omega) (by omega) hP hk hb6 ⟨?_, ?_, fun k hk => ?_, fun j hj => ?_, fun j hj => ?_, fun e he => ?_, ?_⟩ ((hs.sti (by omega)).sti (by omega))
              · rw [sti_1_eq]
              · rw [sti_1_pf _ _ _ _ _ _ (by omega), sti_1_pf _ _ _ _ _ _ (by omega)]; exact i2
              · rw [sti_1_ne _ _ _ (by omega), sti_1]
                show _ = nI (if k = B.1 then _ else _)
                by_cases e : k = B.1
                · rw [if_pos ⟨rfl, e⟩, if_pos e]
                · rw [if_neg (fun z => e z.2), if_neg e]; exact i3 k (by dsimp only at hk; omega)
              · rw [sti_1_ne _ _ _ (by omega), sti_1_ne _ _ _ (by omega), sti_1_ne _ _ _ (by omega), sti_1_ne _ _ _ (by omega), sti_1_ne _ _ _ (by omega), sti_1_ne _ _ _ (by omega), sti_1_ne _ _ _ (by omega), sti_1_ne _ _ _ (by omega)]
                exact i4 j hj
              · rw [sti_1_ne _ _ _ (by omega), sti_1_ne _ _ _ (by omega)]; exact i5 j hj
              · rw [sti_1_ne _ _ _ (by omega), sti_1_ne _ _ _ (by omega)]; exact i6 e he
              · rw [sti_1_ne _ _ _ (by omega), sti_1_ne _ _ _ (by omega)]; exact i7
            · rw [if_neg hd] at hP; cases hP
          · rw [if_neg (fun z => hk z.2), if_neg (by omega)] at hP; cases hP
        · rw [if_neg (fun z => hK z.1)] at hP
          by_cases hB : tx p = 66 ∧ B.2.1 < 6
          · rw [if_pos hB] at hP
            by_cases hd : p + 1 < len ∧ 49 ≤ tx (p + 1) ∧ tx (p + 1) ≤ 50
            · rw [if_pos hd] at hP
              by_cases hd2 : p + 2 < len ∧ 48 ≤ tx (p + 2) ∧ tx (p + 2) ≤ 57
              · rw [if_pos hd2] at hP
                by_cases hd3 : p + 3 < len ∧ 48 ≤ tx (p + 3) ∧ tx (p + 3) ≤ 57
                · rw [if_pos hd3] at hP
                  have hbb := hB.2
                  refine R_iload_n (n := 20) dX1_makeFrom_19 rfl rfl ?_
                  refine R_aload_n (n := 21) dX1_makeFrom_20 rfl rfl ?_
                  refine ge_X1_38 (n := 24) dX1_makeFrom_21 rfl (t1) ?_
                  refine R_icmp_ge_f (n := 27) dX1_makeFrom_24 rfl rfl (by rw [nI_leI (by omega) (by omega)]; omega) ?_
                  refine R_aload_n (n := 28) dX1_makeFrom_27 rfl rfl ?_
                  refine gf_X1_43 (n := 31) dX1_makeFrom_28 rfl ?_
                  refine R_iload_n (n := 32) dX1_makeFrom_31 rfl rfl ?_
                  refine R_iald_e (n := 33) sh_2 (rfl) (by omega) dX1_makeFrom_32 rfl (t3 _ (by omega)) ?_
                  refine R_istore_n (n := 34) dX1_makeFrom_33 rfl (Nat.le_of_ble_eq_true rfl) (Nat.le_of_ble_eq_true rfl) ?_
                  refine R_iload_n (n := 35) dX1_makeFrom_34 rfl rfl ?_
                  refine R_bipush (v := nI 75) (n := 37) dX1_makeFrom_35 rfl rfl ?_
                  refine R_icmp_ne_t (tgt := 80) dX1_makeFrom_37 rfl (by rw [nI_eq (by omega) (by omega)]; omega) ?_
                  refine R_iload_n (n := 81) dX1_makeFrom_80 rfl rfl ?_
                  refine R_bipush (v := nI 66) (n := 83) dX1_makeFrom_81 rfl rfl ?_
                  refine R_icmp_ne_f (n := 86) dX1_makeFrom_83 rfl rfl (by rw [hB.1]) ?_
                  refine R_aload_n (n := 87) dX1_makeFrom_86 rfl rfl ?_
                  refine ge_X1_32 (n := 90) dX1_makeFrom_87 rfl (by first | exact i2 | (rw [sti_1_pf _ _ _ _ _ _ (by omega)]; exact i2) | (rw [sti_1_pf _ _ _ _ _ _ (by omega), sti_1_pf _ _ _ _ _ _ (by omega)]; exact i2) | (rw [sti_1_pf _ _ _ _ _ _ (by omega), sti_1_pf _ _ _ _ _ _ (by omega), sti_1_pf _ _ _ _ _ _ (by omega)]; exact i2) | (rw [sti_1_pf _ _ _ _ _ _ (by omega), sti_1_pf _ _ _ _ _ _ (by omega), sti_1_pf _ _ _ _ _ _ (by omega), sti_1_pf _ _ _ _ _ _ (by omega)]; exact i2) | (rw [sti_1_pf _ _ _ _ _ _ (by omega), sti_1_pf _ _ _ _ _ _ (by omega), sti_1_pf _ _ _ _ _ _ (by omega), sti_1_pf _ _ _ _ _ _ (by omega), sti_1_pf _ _ _ _ _ _ (by omega)]; exact i2)) ?_
                  refine R_bipush (v := nI 6) (n := 92) dX1_makeFrom_90 rfl rfl ?_
                  refine R_icmp_ge_f (n := 95) dX1_makeFrom_92 rfl rfl (by rw [nI_leI (by omega) (by omega)]; omega) ?_
                  refine R_aload_n (n := 96) dX1_makeFrom_95 rfl rfl ?_
                  refine gf_X1_9 (n := 99) dX1_makeFrom_96 rfl ?_
                  refine R_aload_n (n := 100) dX1_makeFrom_99 rfl rfl ?_
                  refine ge_X1_32 (n := 103) dX1_makeFrom_100 rfl (by first | exact i2 | (rw [sti_1_pf _ _ _ _ _ _ (by omega)]; exact i2) | (rw [sti_1_pf _ _ _ _ _ _ (by omega), sti_1_pf _ _ _ _ _ _ (by omega)]; exact i2) | (rw [sti_1_pf _ _ _ _ _ _ (by omega), sti_1_pf _ _ _ _ _ _ (by omega), sti_1_pf _ _ _ _ _ _ (by omega)]; exact i2) | (rw [sti_1_pf _ _ _ _ _ _ (by omega), sti_1_pf _ _ _ _ _ _ (by omega), sti_1_pf _ _ _ _ _ _ (by omega), sti_1_pf _ _ _ _ _ _ (by omega)]; exact i2) | (rw [sti_1_pf _ _ _ _ _ _ (by omega), sti_1_pf _ _ _ _ _ _ (by omega), sti_1_pf _ _ _ _ _ _ (by omega), sti_1_pf _ _ _ _ _ _ (by omega), sti_1_pf _ _ _ _ _ _ (by omega)]; exact i2)) ?_
                  refine R_aload_n (n := 104) dX1_makeFrom_103 rfl rfl ?_
                  refine R_iload_n (n := 105) dX1_makeFrom_104 rfl rfl ?_
                  refine R_iconst (v := nI 1) (n := 106) dX1_makeFrom_105 rfl rfl ?_
                  refine R_iadd_n (n := 107) dX1_makeFrom_106 rfl ?_
                  refine iv_X1_49 (n := 110) (ct_X6_figureAt hT1 hd.1) (by decide) dX1_makeFrom_107 rfl (Nat.le_of_ble_eq_true rfl) (fun r μ' hq => ?_)
                  obtain ⟨rfl, hq⟩ := hq
                  have hq := hq.symm
                  subst hq
                  rw [nI_sub (by omega)]
                  refine R_iast (n := 111) sh_4 (rfl) (by omega) dX1_makeFrom_110 rfl ?_
                  refine R_aload_n (n := 112) dX1_makeFrom_111 rfl rfl ?_
                  refine gf_X1_15 (n := 115) dX1_makeFrom_112 rfl ?_
                  refine R_aload_n (n := 116) dX1_makeFrom_115 rfl rfl ?_
                  refine ge_X1_32 (n := 119) dX1_makeFrom_116 rfl (by first | exact i2 | (rw [sti_1_pf _ _ _ _ _ _ (by omega)]; exact i2) | (rw [sti_1_pf _ _ _ _ _ _ (by omega), sti_1_pf _ _ _ _ _ _ (by omega)]; exact i2) | (rw [sti_1_pf _ _ _ _ _ _ (by omega), sti_1_pf _ _ _ _ _ _ (by omega), sti_1_pf _ _ _ _ _ _ (by omega)]; exact i2) | (rw [sti_1_pf _ _ _ _ _ _ (by omega), sti_1_pf _ _ _ _ _ _ (by omega), sti_1_pf _ _ _ _ _ _ (by omega), sti_1_pf _ _ _ _ _ _ (by omega)]; exact i2) | (rw [sti_1_pf _ _ _ _ _ _ (by omega), sti_1_pf _ _ _ _ _ _ (by omega), sti_1_pf _ _ _ _ _ _ (by omega), sti_1_pf _ _ _ _ _ _ (by omega), sti_1_pf _ _ _ _ _ _ (by omega)]; exact i2)) ?_
                  refine R_aload_n (n := 120) dX1_makeFrom_119 rfl rfl ?_
                  refine R_iload_n (n := 121) dX1_makeFrom_120 rfl rfl ?_
                  refine R_iconst (v := nI 2) (n := 122) dX1_makeFrom_121 rfl rfl ?_
                  refine R_iadd_n (n := 123) dX1_makeFrom_122 rfl ?_
                  have hT2 := hT.kept (P := Pmk) (μ1 := sti μ1 4 B.2.1 (nI (tx (p + 1) - 48))) (hs.sti (by omega)) (by omega) (fun k => by omega)
                  refine iv_X1_49 (n := 126) (ct_X6_figureAt hT2 hd2.1) (by decide) dX1_makeFrom_123 rfl (Nat.le_of_ble_eq_true rfl) (fun r μ' hq => ?_)
                  obtain ⟨rfl, hq⟩ := hq
                  have hq := hq.symm
                  subst hq
                  rw [nI_sub (by omega)]
                  refine R_iast (n := 127) sh_5 (rfl) (by omega) dX1_makeFrom_126 rfl ?_
                  refine R_aload_n (n := 128) dX1_makeFrom_127 rfl rfl ?_
                  refine gf_X1_21 (n := 131) dX1_makeFrom_128 rfl ?_
                  refine gf_X1_53 (n := 134) stB_6 dX1_makeFrom_131 rfl ?_
                  refine R_aload_n (n := 135) dX1_makeFrom_134 rfl rfl ?_
                  refine ge_X1_32 (n := 138) dX1_makeFrom_135 rfl (by first | exact i2 | (rw [sti_1_pf _ _ _ _ _ _ (by omega)]; exact i2) | (rw [sti_1_pf _ _ _ _ _ _ (by omega), sti_1_pf _ _ _ _ _ _ (by omega)]; exact i2) | (rw [sti_1_pf _ _ _ _ _ _ (by omega), sti_1_pf _ _ _ _ _ _ (by omega), sti_1_pf _ _ _ _ _ _ (by omega)]; exact i2) | (rw [sti_1_pf _ _ _ _ _ _ (by omega), sti_1_pf _ _ _ _ _ _ (by omega), sti_1_pf _ _ _ _ _ _ (by omega), sti_1_pf _ _ _ _ _ _ (by omega)]; exact i2) | (rw [sti_1_pf _ _ _ _ _ _ (by omega), sti_1_pf _ _ _ _ _ _ (by omega), sti_1_pf _ _ _ _ _ _ (by omega), sti_1_pf _ _ _ _ _ _ (by omega), sti_1_pf _ _ _ _ _ _ (by omega)]; exact i2)) ?_
                  refine R_aload_n (n := 139) dX1_makeFrom_138 rfl rfl ?_
                  refine R_iload_n (n := 140) dX1_makeFrom_139 rfl rfl ?_
                  refine R_iconst (v := nI 3) (n := 141) dX1_makeFrom_140 rfl rfl ?_
                  refine R_iadd_n (n := 142) dX1_makeFrom_141 rfl ?_
                  have hT3 := hT.kept (P := Pmk) (μ1 := sti (sti μ1 4 B.2.1 (nI (tx (p + 1) - 48))) 5 B.2.1 (nI (tx (p + 2) - 48))) ((hs.sti (by omega)).sti (by omega)) (by omega) (fun k => by omega)
                  refine iv_X1_49 (n := 145) (ct_X6_figureAt hT3 hd3.1) (by decide) dX1_makeFrom_142 rfl (Nat.le_of_ble_eq_true rfl) (fun r μ' hq => ?_)
                  obtain ⟨rfl, hq⟩ := hq
                  have hq := hq.symm
                  subst hq
                  rw [nI_sub (by omega)]
                  refine R_iast (n := 146) stB_6.2.2.2.1 (rfl) (by omega) dX1_makeFrom_145 rfl ?_
                  refine R_aload_n (n := 147) dX1_makeFrom_146 rfl rfl ?_
                  refine gf_X1_21 (n := 150) dX1_makeFrom_147 rfl ?_
                  refine gf_X1_56 (n := 153) stB_6 dX1_makeFrom_150 rfl ?_
                  refine R_aload_n (n := 154) dX1_makeFrom_153 rfl rfl ?_
                  refine ge_X1_32 (n := 157) dX1_makeFrom_154 rfl (by first | exact i2 | (rw [sti_1_pf _ _ _ _ _ _ (by omega)]; exact i2) | (rw [sti_1_pf _ _ _ _ _ _ (by omega), sti_1_pf _ _ _ _ _ _ (by omega)]; exact i2) | (rw [sti_1_pf _ _ _ _ _ _ (by omega), sti_1_pf _ _ _ _ _ _ (by omega), sti_1_pf _ _ _ _ _ _ (by omega)]; exact i2) | (rw [sti_1_pf _ _ _ _ _ _ (by omega), sti_1_pf _ _ _ _ _ _ (by omega), sti_1_pf _ _ _ _ _ _ (by omega), sti_1_pf _ _ _ _ _ _ (by omega)]; exact i2) | (rw [sti_1_pf _ _ _ _ _ _ (by omega), sti_1_pf _ _ _ _ _ _ (by omega), sti_1_pf _ _ _ _ _ _ (by omega), sti_1_pf _ _ _ _ _ _ (by omega), sti_1_pf _ _ _ _ _ _ (by omega)]; exact i2)) ?_
                  refine R_aload_n (n := 158) dX1_makeFrom_157 rfl rfl ?_
                  refine ge_X1_32 (n := 161) dX1_makeFrom_158 rfl (by first | exact i2 | (rw [sti_1_pf _ _ _ _ _ _ (by omega)]; exact i2) | (rw [sti_1_pf _ _ _ _ _ _ (by omega), sti_1_pf _ _ _ _ _ _ (by omega)]; exact i2) | (rw [sti_1_pf _ _ _ _ _ _ (by omega), sti_1_pf _ _ _ _ _ _ (by omega), sti_1_pf _ _ _ _ _ _ (by omega)]; exact i2) | (rw [sti_1_pf _ _ _ _ _ _ (by omega), sti_1_pf _ _ _ _ _ _ (by omega), sti_1_pf _ _ _ _ _ _ (by omega), sti_1_pf _ _ _ _ _ _ (by omega)]; exact i2) | (rw [sti_1_pf _ _ _ _ _ _ (by omega), sti_1_pf _ _ _ _ _ _ (by omega), sti_1_pf _ _ _ _ _ _ (by omega), sti_1_pf _ _ _ _ _ _ (by omega), sti_1_pf _ _ _ _ _ _ (by omega)]; exact i2)) ?_
                  refine R_iast (n := 162) stB_6.2.1 (rfl) (by omega) dX1_makeFrom_161 rfl ?_
                  refine R_aload_n (n := 163) dX1_makeFrom_162 rfl rfl ?_
                  refine R_dup (n := 164) dX1_makeFrom_163 rfl rfl ?_
                  refine ge_X1_32 (n := 167) dX1_makeFrom_164 rfl (by first | exact i2 | (rw [sti_1_pf _ _ _ _ _ _ (by omega)]; exact i2) | (rw [sti_1_pf _ _ _ _ _ _ (by omega), sti_1_pf _ _ _ _ _ _ (by omega)]; exact i2) | (rw [sti_1_pf _ _ _ _ _ _ (by omega), sti_1_pf _ _ _ _ _ _ (by omega), sti_1_pf _ _ _ _ _ _ (by omega)]; exact i2) | (rw [sti_1_pf _ _ _ _ _ _ (by omega), sti_1_pf _ _ _ _ _ _ (by omega), sti_1_pf _ _ _ _ _ _ (by omega), sti_1_pf _ _ _ _ _ _ (by omega)]; exact i2) | (rw [sti_1_pf _ _ _ _ _ _ (by omega), sti_1_pf _ _ _ _ _ _ (by omega), sti_1_pf _ _ _ _ _ _ (by omega), sti_1_pf _ _ _ _ _ _ (by omega), sti_1_pf _ _ _ _ _ _ (by omega)]; exact i2)) ?_
                  refine R_iconst (v := nI 1) (n := 168) dX1_makeFrom_167 rfl rfl ?_
                  refine R_iadd_n (n := 169) dX1_makeFrom_168 rfl ?_
                  refine pf_X1_32 (n := 172) dX1_makeFrom_169 rfl ?_
                  refine R_iinc (n := 175) dX1_makeFrom_172 rfl rfl (nI_1 _) (Nat.le_of_ble_eq_true rfl) ?_
                  refine R_goto (tgt := 19) dX1_makeFrom_175 rfl ?_
                  have hs2 : Sme Pmk μ (sti (sti (sti (sti (sti μ1 4 B.2.1 (nI (tx (p + 1) - 48))) 5 B.2.1 (nI (tx (p + 2) - 48))) 9 B.2.1 (nI (tx (p + 3) - 48))) 7 B.2.1 (nI B.2.1)) 3 5 (nI (B.2.1 + 1))) := ((((hs.sti (by omega)).sti (by omega)).sti (by omega)).sti (by omega)).sti (by omega)
                  refine skip (p + 1) _ _ hs2 hd.1 (by omega) (by omega) (fun j3 => ?_)
                  refine skip (p + 2) _ _ hs2 hd2.1 (by omega) (by omega) (fun j3 => ?_)
                  refine skip (p + 3) _ _ hs2 hd3.1 (by omega) (by omega) (fun j3 => ?_)
                  refine ih (p + 4) _ _ j3 (by omega) (by omega) (by omega) hP hk5 hB.2 ⟨?_, ?_, fun k hk => ?_, fun j hj => ?_, fun j hj => ?_, fun e he => ?_, ?_⟩ hs2
                  · repeat rw [sti_1_pf _ _ _ _ _ _ (by omega)]
                    exact i1
                  · rw [sti_1_eq]
                  · repeat rw [sti_1_pf _ _ _ _ _ _ (by omega)]
                    exact i3 k hk
                  · dsimp only at hj
                    by_cases e : j = B.2.1
                    · subst e
                      refine ⟨?_, ?_, ?_, ?_⟩
                      · repeat rw [sti_1_pf _ _ _ _ _ _ (by omega)]
                        rw [sti_1_eq]
                        exact congrArg nI (by show _ = if _ then _ else _; rw [if_pos rfl])
                      · repeat rw [sti_1_pf _ _ _ _ _ _ (by omega)]
                        rw [sti_1_eq]
                        exact congrArg nI (by show _ = if _ then _ else if _ then _ else _; rw [if_neg (by omega), if_pos rfl])
                      · repeat rw [sti_1_pf _ _ _ _ _ _ (by omega)]
                        rw [sti_1_eq]
                        exact congrArg nI (by show _ = if _ then _ else if _ then _ else if _ then _ else _; rw [if_neg (by omega), if_neg (by omega), if_pos rfl])
                      · repeat rw [sti_1_pf _ _ _ _ _ _ (by omega)]
                        rw [sti_1_eq]
                    · have e3 : ∀ i, i < 3 → upd3 B.2.2.2 B.2.1 (tx (p + 1) - 48) (tx (p + 2) - 48) (tx (p + 3) - 48) (3 * j + i) = B.2.2.2 (3 * j + i) := by
                        intro i hi
                        unfold upd3
                        rw [if_neg (by omega), if_neg (by omega), if_neg (by omega)]
                      repeat rw [sti_1_pf _ _ _ _ _ _ (by omega)]
                      obtain ⟨w1, w2, w3, w4⟩ := i4 j (by omega)
                      exact ⟨w1.trans (congrArg nI (e3 0 (by omega)).symm), w2.trans (congrArg nI (e3 1 (by omega)).symm), w3.trans (congrArg nI (e3 2 (by omega)).symm), w4⟩
                  · repeat rw [sti_1_pf _ _ _ _ _ _ (by omega)]
                    exact i5 j hj
                  · repeat rw [sti_1_pf _ _ _ _ _ _ (by omega)]
                    exact i6 e he
                  · repeat rw [sti_1_pf _ _ _ _ _ _ (by omega)]
                    exact i7
                · rw [if_neg hd3] at hP; cases hP
              · rw [if_neg hd2] at hP; cases hP
            · rw [if_neg hd] at hP; cases hP
          · rw [if_neg hB] at hP; cases hP
      · rw [if_neg hlt] at hP
        cases hP
        exact fin p μ1 j3 (by omega) hI hs
  refine skip 0 μ' _ s2 (by omega) (by omega) (by omega) (fun j3 => ?_)
  exact loop len 1 A0 μ' j3 (by omega) (by omega) (by omega) h (by decide) (by decide) hI s2
end MK

