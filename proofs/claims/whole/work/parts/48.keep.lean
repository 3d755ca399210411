/-! the two sides leave each other as they are -/
abbrev Pup : Nat → Nat → Prop := fun i _ => 125 ≤ i
abbrev Plo : Nat → Nat → Prop := fun i _ => i ≤ 124
theorem CI.re {f : Nat → Nat → Int32} {g g' : Nat → Int64} {σ : GS} (h : CI (f, g) σ) (e : g' 0 = g 0) : CI (f, g') σ := ⟨h.1, h.2.1, h.2.2.1, h.2.2.2.1, h.2.2.2.2.1, e.trans h.2.2.2.2.2⟩
theorem MI.re {f : Nat → Nat → Int32} {g g' : Nat → Int64} {σ : GS} (h : MI (f, g) σ) (e : g' 125 = g 125) : MI (f, g') σ := ⟨h.1, h.2.1, h.2.2.1, h.2.2.2.1, h.2.2.2.2.1, e.trans h.2.2.2.2.2⟩
theorem CI.up {μ μ1 : Mem} {σ : GS} (h : CI μ σ) (s : SmM μ μ1) : CI μ1 σ := by
  have hs : Sme Pup μ (μ1.1, μ.2) := ⟨fun i j q => s.1 i j (by omega), rfl⟩
  have h1 : CI (μ1.1, μ.2) σ := ⟨h.1.kept hs (by omega) (fun k => by omega), h.2.1.kept hs (by omega) (by omega) (fun j => by omega) (fun j => by omega), h.2.2.1.kept hs (fun i j z1 z2 => by omega), h.2.2.2.1.kept hs (fun i j z1 z2 => by omega), h.2.2.2.2.1.kept hs (fun i j z1 z2 => by omega), h.2.2.2.2.2⟩
  exact h1.re s.2
theorem MI.lo {μ μ1 : Mem} {σ : GS} (h : MI μ σ) (w : WF σ) (s : SmC μ μ1) : MI μ1 σ := by
  have hs : Sme Plo μ (μ1.1, μ.2) := ⟨fun i j q => s.1 i j (by omega), rfl⟩
  have h1 : MI (μ1.1, μ.2) σ := ⟨h.1.kept hs (by omega) (fun k => by omega), h.2.1.kept hs (by omega) (by omega) (fun j => by omega) (fun j => by omega), h.2.2.1.kept ⟨w.1.1.1, w.1.1.2.1, w.1.1.1⟩ hs (fun j z1 z2 => by omega), h.2.2.2.1.kept ⟨w.1.1.1, w.1.1.2.1⟩ hs (by omega) (by omega) (fun j => by omega), h.2.2.2.2.1.kept ⟨w.1.1.1, w.1.1.2.1⟩ hs (fun j => by omega) (fun j => by omega), h.2.2.2.2.2⟩
  exact h1.re s.2
theorem qry_C {μ μ1 : Mem} (s : Sme Qry μ μ1) : SmC μ μ1 := s.C (fun i j z => by omega)
theorem qrm_M {μ μ1 : Mem} (s : Sme Qrm μ μ1) : SmM μ μ1 := s.M (fun i j z => by omega)
theorem and31 (x : Int32) : ∃ k, k < 32 ∧ x &&& nI 31 = nI k := by
  refine ⟨(x &&& nI 31).toBitVec.toNat, ?_, ?_⟩
  · have e : (x &&& nI 31).toBitVec = x.toBitVec &&& 31#32 := rfl
    rw [e, BitVec.toNat_and]
    exact Nat.lt_of_le_of_lt Nat.and_le_right (by decide)
  · generalize x &&& nI 31 = y
    apply Int32.toBitVec_inj.mp
    show y.toBitVec = BitVec.ofNat 32 y.toBitVec.toNat
    simp
section VL
variable {G : Gm} {l : Launch} {own : String} {cc : ByteArray} {nL dep : Nat} {lg : Bool} {ret : Option FieldType} {Q : Option Value → Mem → Prop} {pc n : Nat} {lo : List (Option Value)} {st : List Value} {μ : Mem}
theorem R_lshl {x : Int64} {y : Int32} (hdg : decode cc pc = .ok (.lshl, 1)) (hn : pc + 1 = n) (k : V G l own cc nL dep lg ret Q n lo (.long (x <<< (y.toInt64 &&& 63)) :: st) μ) : V G l own cc nL dep lg ret Q pc lo (.int y :: .long x :: st) μ := by
  subst hn
  intro p e R s m args below meth c H locs cells slots Qf ls hC hH hL hF
  exact lv_lshl hC.1 hC.2.1 hdg rfl (k p e R s m args below meth c H locs cells slots Qf ls hC hH hL hF)
end VL

