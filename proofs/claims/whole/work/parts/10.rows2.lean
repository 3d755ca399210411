theorem tT_mx : Cond.static Lib.Math.max.name ∈ lw_tbl := tT_yJ9_max_7cf53
theorem tC_mx : Cond.code Lib.Math.max.name Lib.Math.max.code 2 (some .int) ∈ lw_tbl := List.mem_of_getElem? (i := 370) (by decide +kernel)
theorem tT_ab : Cond.static Lib.Math.abs.name ∈ lw_tbl := tT_yJ9_abs_0f7a4
theorem tC_ab : Cond.code Lib.Math.abs.name Lib.Math.abs.code 1 (some .int) ∈ lw_tbl := List.mem_of_getElem? (i := 559) (by decide +kernel)
theorem nI_ofBV (n : Nat) : (nI n).toBitVec = BitVec.ofNat 32 n := rfl
theorem nI_mul (a b : Nat) : nI a * nI b = nI (a * b) := by
  apply Int32.toBitVec_inj.mp
  rw [Int32.toBitVec_mul, nI_ofBV, nI_ofBV, nI_ofBV]
  apply BitVec.eq_of_toNat_eq
  simp [Nat.mul_mod]
theorem nI_sub {a b : Nat} (h : b ≤ a) : nI a - nI b = nI (a - b) := by
  have e : nI a = nI (a - b) + nI b := by rw [nI_add, Nat.sub_add_cancel h]
  rw [e]
  exact Int32.add_sub_cancel _ _
/-! what stays the same but for the places of P -/
def Sme (P : Nat → Nat → Prop) (μ μ' : Mem) : Prop := (∀ i j, ¬ P i j → μ'.1 i j = μ.1 i j) ∧ μ'.2 = μ.2
theorem Sme.rf (P : Nat → Nat → Prop) (μ : Mem) : Sme P μ μ := ⟨fun _ _ _ => rfl, rfl⟩
theorem Sme.tr {P : Nat → Nat → Prop} {μ μ1 μ2 : Mem} (h : Sme P μ μ1) (h2 : Sme P μ1 μ2) : Sme P μ μ2 := ⟨fun i j q => (h2.1 i j q).trans (h.1 i j q), h2.2.trans h.2⟩
theorem Sme.mono {P P' : Nat → Nat → Prop} {μ μ1 : Mem} (h : Sme P μ μ1) (hp : ∀ i j, P i j → P' i j) : Sme P' μ μ1 := ⟨fun i j q => h.1 i j (fun z => q (hp i j z)), h.2⟩
theorem Sme.sti {P : Nat → Nat → Prop} {μ μ1 : Mem} (h : Sme P μ μ1) {i k : Nat} {x : Int32} (hp : P i k) : Sme P μ (sti μ1 i k x) := ⟨fun a b q => by rw [sti_1, if_neg (fun z => q (by rw [z.1, z.2]; exact hp))]; exact h.1 a b q, h.2⟩
theorem Sme.sta {P : Nat → Nat → Prop} {μ μ1 : Mem} (h : Sme P μ μ1) {i : Nat} {f : Nat → Int32} (hp : ∀ k, P i k) : Sme P μ (sta μ1 i f) := ⟨fun a b q => by rw [sta_1, if_neg (fun z => q (by rw [z]; exact hp b))]; exact h.1 a b q, h.2⟩
/-- a count that runs down to 0 -/
theorem down {P : Nat → Prop} {z : Nat} (hz : P z) (hs : ∀ k, k < z → P (k + 1) → P k) : ∀ k, k ≤ z → P k := by
  intro k hk
  obtain ⟨m, rfl⟩ := Nat.exists_eq_add_of_le hk
  clear hk
  induction m generalizing k with
  | zero => exact hz
  | succ m ih =>
    have h1 := ih (k := k + 1) (by rw [show k + 1 + m = k + (m + 1) by omega]; exact hz) (by rw [show k + 1 + m = k + (m + 1) by omega]; exact hs)
    exact hs k (by omega) h1
def mx (x y : Int32) : Int32 := if x < y then y else x
section VD
variable {G : Gm} {l : Launch} {own : String} {cc : ByteArray} {nL dep : Nat} {lg : Bool} {ret : Option FieldType} {Q : Option Value → Mem → Prop} {pc n : Nat} {lo : List (Option Value)} {st : List Value} {μ : Mem}
theorem R_iadd_n {x y : Nat} (hdg : decode cc pc = .ok (.iadd, 1)) (hn : pc + 1 = n) (k : V G l own cc nL dep lg ret Q n lo (.int (nI (x + y)) :: st) μ) : V G l own cc nL dep lg ret Q pc lo (.int (nI y) :: .int (nI x) :: st) μ := R_iadd hdg hn (by rw [nI_add]; exact k)
theorem R_imul_n {x y : Nat} (hdg : decode cc pc = .ok (.imul, 1)) (hn : pc + 1 = n) (k : V G l own cc nL dep lg ret Q n lo (.int (nI (x * y)) :: st) μ) : V G l own cc nL dep lg ret Q pc lo (.int (nI y) :: .int (nI x) :: st) μ := R_imul hdg hn (by rw [nI_mul]; exact k)
theorem R_isub_n {x y : Nat} (hdg : decode cc pc = .ok (.isub, 1)) (h : y ≤ x) (hn : pc + 1 = n) (k : V G l own cc nL dep lg ret Q n lo (.int (nI (x - y)) :: st) μ) : V G l own cc nL dep lg ret Q pc lo (.int (nI y) :: .int (nI x) :: st) μ := R_isub hdg hn (by rw [nI_sub h]; exact k)
theorem R_iald_e {id N j : Nat} {i v : Int32} (hs : sh id = .inr (.inl (0, N))) (hi : i = nI j) (hj : j < N) (hdg : decode cc pc = .ok (.iaload, 1)) (hn : pc + 1 = n) (he : μ.1 id j = v) (k : V G l own cc nL dep lg ret Q n lo (.int v :: st) μ) : V G l own cc nL dep lg ret Q pc lo (.int i :: .ref (G.2.2.1 id) :: st) μ := R_iald hs hi hj hdg hn (by rw [he]; exact k)
theorem R_zald_e {id N j : Nat} {i v : Int32} (hs : sh id = .inr (.inl (1, N))) (hi : i = nI j) (hj : j < N) (hdg : decode cc pc = .ok (.baload, 1)) (hn : pc + 1 = n) (he : μ.1 id j = v) (k : V G l own cc nL dep lg ret Q n lo (.int v :: st) μ) : V G l own cc nL dep lg ret Q pc lo (.int i :: .ref (G.2.2.1 id) :: st) μ := R_zald hs hi hj hdg hn (by rw [he]; exact k)
theorem ge_X6_15 {v : Int32} (hdg : decode cc pc = .ok (.getfield 15, 3)) (hn : pc + 3 = n) (he : μ.1 1 1 = v) (k : V G l RX6 cc nL dep lg ret Q n lo (.int v :: st) μ) : V G l RX6 cc nL dep lg ret Q pc lo (.ref (G.2.2.1 1) :: st) μ := gf_X6_15 hdg hn (by rw [he]; exact k)
theorem ge_X7_51 {v : Int32} (hdg : decode cc pc = .ok (.getfield 51, 3)) (hn : pc + 3 = n) (he : μ.1 1 1 = v) (k : V G l RX7 cc nL dep lg ret Q n lo (.int v :: st) μ) : V G l RX7 cc nL dep lg ret Q pc lo (.ref (G.2.2.1 1) :: st) μ := gf_X7_51 hdg hn (by rw [he]; exact k)
theorem ge_X1_38 {v : Int32} (hdg : decode cc pc = .ok (.getfield 38, 3)) (hn : pc + 3 = n) (he : μ.1 1 1 = v) (k : V G l RX1 cc nL dep lg ret Q n lo (.int v :: st) μ) : V G l RX1 cc nL dep lg ret Q pc lo (.ref (G.2.2.1 1) :: st) μ := gf_X1_38 hdg hn (by rw [he]; exact k)
theorem ge_X5_33 {id : Nat} (hs : StB id) {v : Int32} (hdg : decode cc pc = .ok (.getfield 33, 3)) (hn : pc + 3 = n) (he : μ.1 id 5 = v) (k : V G l RX5 cc nL dep lg ret Q n lo (.int v :: st) μ) : V G l RX5 cc nL dep lg ret Q pc lo (.ref (G.2.2.1 id) :: st) μ := gf_X5_33 hs hdg hn (by rw [he]; exact k)
theorem ge_X1_59 {id : Nat} (hs : StB id) {v : Int32} (hdg : decode cc pc = .ok (.getfield 59, 3)) (hn : pc + 3 = n) (he : μ.1 id 5 = v) (k : V G l RX1 cc nL dep lg ret Q n lo (.int v :: st) μ) : V G l RX1 cc nL dep lg ret Q pc lo (.ref (G.2.2.1 id) :: st) μ := gf_X1_59 hs hdg hn (by rw [he]; exact k)
theorem ge_X3_134 {id : Nat} (hs : StB id) {v : Int32} (hdg : decode cc pc = .ok (.getfield 134, 3)) (hn : pc + 3 = n) (he : μ.1 id 5 = v) (k : V G l RX3 cc nL dep lg ret Q n lo (.int v :: st) μ) : V G l RX3 cc nL dep lg ret Q pc lo (.ref (G.2.2.1 id) :: st) μ := gf_X3_134 hs hdg hn (by rw [he]; exact k)
theorem ge_X3_24 {id : Nat} (hs : StB id) {v : Int32} (hdg : decode cc pc = .ok (.getfield 24, 3)) (hn : pc + 3 = n) (he : μ.1 id 6 = v) (k : V G l RX3 cc nL dep lg ret Q n lo (.int v :: st) μ) : V G l RX3 cc nL dep lg ret Q pc lo (.ref (G.2.2.1 id) :: st) μ := gf_X3_24 hs hdg hn (by rw [he]; exact k)
theorem ge_X5_37 {id : Nat} (hs : StB id) {v : Int32} (hdg : decode cc pc = .ok (.getfield 37, 3)) (hn : pc + 3 = n) (he : μ.1 id 6 = v) (k : V G l RX5 cc nL dep lg ret Q n lo (.int v :: st) μ) : V G l RX5 cc nL dep lg ret Q pc lo (.ref (G.2.2.1 id) :: st) μ := gf_X5_37 hs hdg hn (by rw [he]; exact k)
theorem ge_X1_62 {id : Nat} (hs : StB id) {v : Int32} (hdg : decode cc pc = .ok (.getfield 62, 3)) (hn : pc + 3 = n) (he : μ.1 id 6 = v) (k : V G l RX1 cc nL dep lg ret Q n lo (.int v :: st) μ) : V G l RX1 cc nL dep lg ret Q pc lo (.ref (G.2.2.1 id) :: st) μ := gf_X1_62 hs hdg hn (by rw [he]; exact k)
theorem ge_X2_95 {id : Nat} (hs : StB id) {v : Int32} (hdg : decode cc pc = .ok (.getfield 95, 3)) (hn : pc + 3 = n) (he : μ.1 id 6 = v) (k : V G l RX2 cc nL dep lg ret Q n lo (.int v :: st) μ) : V G l RX2 cc nL dep lg ret Q pc lo (.ref (G.2.2.1 id) :: st) μ := gf_X2_95 hs hdg hn (by rw [he]; exact k)
theorem ge_X7_236 {id : Nat} (hs : StB id) {v : Int32} (hdg : decode cc pc = .ok (.getfield 236, 3)) (hn : pc + 3 = n) (he : μ.1 id 6 = v) (k : V G l RX7 cc nL dep lg ret Q n lo (.int v :: st) μ) : V G l RX7 cc nL dep lg ret Q pc lo (.ref (G.2.2.1 id) :: st) μ := gf_X7_236 hs hdg hn (by rw [he]; exact k)
theorem ge_X1_28 {v : Int32} (hdg : decode cc pc = .ok (.getfield 28, 3)) (hn : pc + 3 = n) (he : μ.1 3 4 = v) (k : V G l RX1 cc nL dep lg ret Q n lo (.int v :: st) μ) : V G l RX1 cc nL dep lg ret Q pc lo (.ref (G.2.2.1 3) :: st) μ := gf_X1_28 hdg hn (by rw [he]; exact k)
theorem ge_X3_30 {v : Int32} (hdg : decode cc pc = .ok (.getfield 30, 3)) (hn : pc + 3 = n) (he : μ.1 3 4 = v) (k : V G l RX3 cc nL dep lg ret Q n lo (.int v :: st) μ) : V G l RX3 cc nL dep lg ret Q pc lo (.ref (G.2.2.1 3) :: st) μ := gf_X3_30 hdg hn (by rw [he]; exact k)
theorem ge_X7_71 {v : Int32} (hdg : decode cc pc = .ok (.getfield 71, 3)) (hn : pc + 3 = n) (he : μ.1 3 4 = v) (k : V G l RX7 cc nL dep lg ret Q n lo (.int v :: st) μ) : V G l RX7 cc nL dep lg ret Q pc lo (.ref (G.2.2.1 3) :: st) μ := gf_X7_71 hdg hn (by rw [he]; exact k)
theorem ge_X2_73 {v : Int32} (hdg : decode cc pc = .ok (.getfield 73, 3)) (hn : pc + 3 = n) (he : μ.1 3 4 = v) (k : V G l RX2 cc nL dep lg ret Q n lo (.int v :: st) μ) : V G l RX2 cc nL dep lg ret Q pc lo (.ref (G.2.2.1 3) :: st) μ := gf_X2_73 hdg hn (by rw [he]; exact k)
theorem ge_X2_18 {v : Int32} (hdg : decode cc pc = .ok (.getfield 18, 3)) (hn : pc + 3 = n) (he : μ.1 3 5 = v) (k : V G l RX2 cc nL dep lg ret Q n lo (.int v :: st) μ) : V G l RX2 cc nL dep lg ret Q pc lo (.ref (G.2.2.1 3) :: st) μ := gf_X2_18 hdg hn (by rw [he]; exact k)
theorem ge_X1_32 {v : Int32} (hdg : decode cc pc = .ok (.getfield 32, 3)) (hn : pc + 3 = n) (he : μ.1 3 5 = v) (k : V G l RX1 cc nL dep lg ret Q n lo (.int v :: st) μ) : V G l RX1 cc nL dep lg ret Q pc lo (.ref (G.2.2.1 3) :: st) μ := gf_X1_32 hdg hn (by rw [he]; exact k)
theorem ge_X3_45 {v : Int32} (hdg : decode cc pc = .ok (.getfield 45, 3)) (hn : pc + 3 = n) (he : μ.1 3 5 = v) (k : V G l RX3 cc nL dep lg ret Q n lo (.int v :: st) μ) : V G l RX3 cc nL dep lg ret Q pc lo (.ref (G.2.2.1 3) :: st) μ := gf_X3_45 hdg hn (by rw [he]; exact k)
theorem ge_X7_74 {v : Int32} (hdg : decode cc pc = .ok (.getfield 74, 3)) (hn : pc + 3 = n) (he : μ.1 3 5 = v) (k : V G l RX7 cc nL dep lg ret Q n lo (.int v :: st) μ) : V G l RX7 cc nL dep lg ret Q pc lo (.ref (G.2.2.1 3) :: st) μ := gf_X7_74 hdg hn (by rw [he]; exact k)
theorem ge_X0_18 {v : Int32} (hdg : decode cc pc = .ok (.getfield 18, 3)) (hn : pc + 3 = n) (he : μ.1 18 1 = v) (k : V G l RX0 cc nL dep lg ret Q n lo (.int v :: st) μ) : V G l RX0 cc nL dep lg ret Q pc lo (.ref (G.2.2.1 18) :: st) μ := gf_X0_18 hdg hn (by rw [he]; exact k)
theorem ge_X0_22 {v : Int32} (hdg : decode cc pc = .ok (.getfield 22, 3)) (hn : pc + 3 = n) (he : μ.1 18 2 = v) (k : V G l RX0 cc nL dep lg ret Q n lo (.int v :: st) μ) : V G l RX0 cc nL dep lg ret Q pc lo (.ref (G.2.2.1 18) :: st) μ := gf_X0_22 hdg hn (by rw [he]; exact k)
theorem ge_X7_140 {v : Int32} (hdg : decode cc pc = .ok (.getfield 140, 3)) (hn : pc + 3 = n) (he : μ.1 18 2 = v) (k : V G l RX7 cc nL dep lg ret Q n lo (.int v :: st) μ) : V G l RX7 cc nL dep lg ret Q pc lo (.ref (G.2.2.1 18) :: st) μ := gf_X7_140 hdg hn (by rw [he]; exact k)
theorem ge_X2_24 {v : Int32} (hdg : decode cc pc = .ok (.getfield 24, 3)) (hn : pc + 3 = n) (he : μ.1 122 2 = v) (k : V G l RX2 cc nL dep lg ret Q n lo (.int v :: st) μ) : V G l RX2 cc nL dep lg ret Q pc lo (.ref (G.2.2.1 122) :: st) μ := gf_X2_24 hdg hn (by rw [he]; exact k)
theorem ge_X7_195 {v : Int32} (hdg : decode cc pc = .ok (.getfield 195, 3)) (hn : pc + 3 = n) (he : μ.1 122 2 = v) (k : V G l RX7 cc nL dep lg ret Q n lo (.int v :: st) μ) : V G l RX7 cc nL dep lg ret Q pc lo (.ref (G.2.2.1 122) :: st) μ := gf_X7_195 hdg hn (by rw [he]; exact k)
theorem ge_X2_27 {v : Int32} (hdg : decode cc pc = .ok (.getfield 27, 3)) (hn : pc + 3 = n) (he : μ.1 122 3 = v) (k : V G l RX2 cc nL dep lg ret Q n lo (.int v :: st) μ) : V G l RX2 cc nL dep lg ret Q pc lo (.ref (G.2.2.1 122) :: st) μ := gf_X2_27 hdg hn (by rw [he]; exact k)
theorem ge_X7_198 {v : Int32} (hdg : decode cc pc = .ok (.getfield 198, 3)) (hn : pc + 3 = n) (he : μ.1 122 3 = v) (k : V G l RX7 cc nL dep lg ret Q n lo (.int v :: st) μ) : V G l RX7 cc nL dep lg ret Q pc lo (.ref (G.2.2.1 122) :: st) μ := gf_X7_198 hdg hn (by rw [he]; exact k)
theorem ge_X2_34 {v : Int32} (hdg : decode cc pc = .ok (.getfield 34, 3)) (hn : pc + 3 = n) (he : μ.1 122 4 = v) (k : V G l RX2 cc nL dep lg ret Q n lo (.int v :: st) μ) : V G l RX2 cc nL dep lg ret Q pc lo (.ref (G.2.2.1 122) :: st) μ := gf_X2_34 hdg hn (by rw [he]; exact k)
theorem ge_X7_201 {v : Int32} (hdg : decode cc pc = .ok (.getfield 201, 3)) (hn : pc + 3 = n) (he : μ.1 122 4 = v) (k : V G l RX7 cc nL dep lg ret Q n lo (.int v :: st) μ) : V G l RX7 cc nL dep lg ret Q pc lo (.ref (G.2.2.1 122) :: st) μ := gf_X7_201 hdg hn (by rw [he]; exact k)
theorem ge_X2_66 {v : Int32} (hdg : decode cc pc = .ok (.getfield 66, 3)) (hn : pc + 3 = n) (he : μ.1 122 5 = v) (k : V G l RX2 cc nL dep lg ret Q n lo (.int v :: st) μ) : V G l RX2 cc nL dep lg ret Q pc lo (.ref (G.2.2.1 122) :: st) μ := gf_X2_66 hdg hn (by rw [he]; exact k)
theorem ge_X7_208 {v : Int32} (hdg : decode cc pc = .ok (.getfield 208, 3)) (hn : pc + 3 = n) (he : μ.1 122 5 = v) (k : V G l RX7 cc nL dep lg ret Q n lo (.int v :: st) μ) : V G l RX7 cc nL dep lg ret Q pc lo (.ref (G.2.2.1 122) :: st) μ := gf_X7_208 hdg hn (by rw [he]; exact k)
theorem ge_X8_50 {v : Int32} (hdg : decode cc pc = .ok (.getfield 50, 3)) (hn : pc + 3 = n) (he : μ.1 125 0 = v) (k : V G l RX8 cc nL dep lg ret Q n lo (.int v :: st) μ) : V G l RX8 cc nL dep lg ret Q pc lo (.ref (G.2.2.1 125) :: st) μ := gf_X8_50 hdg hn (by rw [he]; exact k)
theorem ge_X8_83 {v : Int32} (hdg : decode cc pc = .ok (.getfield 83, 3)) (hn : pc + 3 = n) (he : μ.1 125 1 = v) (k : V G l RX8 cc nL dep lg ret Q n lo (.int v :: st) μ) : V G l RX8 cc nL dep lg ret Q pc lo (.ref (G.2.2.1 125) :: st) μ := gf_X8_83 hdg hn (by rw [he]; exact k)
theorem ge_X8_69 {v : Int32} (hdg : decode cc pc = .ok (.getfield 69, 3)) (hn : pc + 3 = n) (he : μ.1 125 7 = v) (k : V G l RX8 cc nL dep lg ret Q n lo (.int v :: st) μ) : V G l RX8 cc nL dep lg ret Q pc lo (.ref (G.2.2.1 125) :: st) μ := gf_X8_69 hdg hn (by rw [he]; exact k)
theorem ge_X8_72 {v : Int32} (hdg : decode cc pc = .ok (.getfield 72, 3)) (hn : pc + 3 = n) (he : μ.1 125 8 = v) (k : V G l RX8 cc nL dep lg ret Q n lo (.int v :: st) μ) : V G l RX8 cc nL dep lg ret Q pc lo (.ref (G.2.2.1 125) :: st) μ := gf_X8_72 hdg hn (by rw [he]; exact k)
theorem ge_X8_60 {v : Int32} (hdg : decode cc pc = .ok (.getfield 60, 3)) (hn : pc + 3 = n) (he : μ.1 125 10 = v) (k : V G l RX8 cc nL dep lg ret Q n lo (.int v :: st) μ) : V G l RX8 cc nL dep lg ret Q pc lo (.ref (G.2.2.1 125) :: st) μ := gf_X8_60 hdg hn (by rw [he]; exact k)
theorem ge_X8_66 {v : Int32} (hdg : decode cc pc = .ok (.getfield 66, 3)) (hn : pc + 3 = n) (he : μ.1 125 11 = v) (k : V G l RX8 cc nL dep lg ret Q n lo (.int v :: st) μ) : V G l RX8 cc nL dep lg ret Q pc lo (.ref (G.2.2.1 125) :: st) μ := gf_X8_66 hdg hn (by rw [he]; exact k)
theorem ge_X8_63 {v : Int32} (hdg : decode cc pc = .ok (.getfield 63, 3)) (hn : pc + 3 = n) (he : μ.1 125 12 = v) (k : V G l RX8 cc nL dep lg ret Q n lo (.int v :: st) μ) : V G l RX8 cc nL dep lg ret Q pc lo (.ref (G.2.2.1 125) :: st) μ := gf_X8_63 hdg hn (by rw [he]; exact k)
theorem ge_X8_86 {v : Int32} (hdg : decode cc pc = .ok (.getfield 86, 3)) (hn : pc + 3 = n) (he : μ.1 125 14 = v) (k : V G l RX8 cc nL dep lg ret Q n lo (.int v :: st) μ) : V G l RX8 cc nL dep lg ret Q pc lo (.ref (G.2.2.1 125) :: st) μ := gf_X8_86 hdg hn (by rw [he]; exact k)
theorem ge_X8_111 {v : Int32} (hdg : decode cc pc = .ok (.getfield 111, 3)) (hn : pc + 3 = n) (he : μ.1 125 15 = v) (k : V G l RX8 cc nL dep lg ret Q n lo (.int v :: st) μ) : V G l RX8 cc nL dep lg ret Q pc lo (.ref (G.2.2.1 125) :: st) μ := gf_X8_111 hdg hn (by rw [he]; exact k)
theorem R_mx {ix : Nat} {x y : Int32} (hlink : Cond.methodLink own ix Lib.Math.max.name ∈ lw_tbl) (hd : 1 ≤ dep) (hst : (st.map fun v => v.category).sum ≤ 8) (hdg : decode cc pc = .ok (.invokestatic ix, 3)) (hn : pc + 3 = n) (k : V G l own cc nL dep lg ret Q n lo (.int (mx x y) :: st) μ) : V G l own cc nL dep lg ret Q pc lo (.int y :: .int x :: st) μ := R_max hlink tT_mx tN_RJ9 tC_mx hd hst hdg hn k
end VD
