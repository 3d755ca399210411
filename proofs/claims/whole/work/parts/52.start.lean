/-! THE CLAIM OUT OF ONE WALK OF THE LAW'S BODY. Your part is whole_start (and what it stands on); all else here is the same for every law, but numbers. -/
def R_law : String := "EelLocksLaw"
def lw_P (b : Addr) (xs : List Int32) (args : Array Value) (s : State) : Prop := args = #[.ref b] ∧ s.IntsAt b xs ∧ xs.length ≤ 320 ∧ (Jvm.Cond.and given_1 narrow_1).before args s = true
def lw_Q (_ : Array Value) (s : State) (o : Outcome) (t : State) : Prop := o = .returned (some (.int 1)) ∧ Framed s o t [] 600000 7302250
def lw_Z (below : List Frame) (a : Array Value) (s : State) : State → Prop := fun t => ∃ o, t.status = .running ∧ Ended t below o ∧ lw_Q a s o t
/-- the law's own end, with 1 on the stack, nothing written that was there before, its room as the claim has it -/
theorem lw_ret {p : Program} {l : Launch} {e : Env} {s : State} {m : MethodId} {below : List Frame} {meth : Method} {c : Code} {b : Nat} (hx : p.tables.exec = Jvm.exec) (hb : c.code = code) (hr : meth.sig.returnType = ret) (hlocks : meth.locks = false) {pc : Nat} {H : Heap} {ls : Array Slot} (hdg : decode code pc = .ok (.ireturn, 1)) : W p l e room_1 s m #[Value.ref b] below meth c H [] 600000 7302250 (lw_Z below #[Value.ref b] s) (F0 m pc ls [.int 1]) := by
  intro T hT X
  obtain ⟨fs, hret, hrun, hended, hW, hframe⟩ := X.leave (v := some (.int 1)) (hlocks := hlocks) (fun h => by rw [hr] at h; cases h)
  have hmeth' : T.vm.method? m = some meth := X.method'
  refine ⟨T.setFrames fs, ?_, .returned (some (.int 1)), hrun, hended, rfl, ⟨_, rfl⟩, hW, hframe⟩
  jvm_step X.here [X.here.top, hx, hb, hdg, hmeth', hr, ret, narrow_b1]
  (try refine ⟨rfl, ?_⟩); (try refine ⟨rfl, ?_⟩)
  first | (intro acts; rw [hret _ acts rfl rfl rfl]) | rw [hret _ _ rfl rfl rfl]
  exact Steps.refl _
/-- what holds at the law's entry: the machine, the code, the tables' words (any of lw_tbl by 'hts w (by decide +kernel)'), the script of L ints xs at the cell b, what the Statement gives of the start (any of its parts by flat_of_before) -/
def lw_At (p : Program) (s : State) (m : MethodId) (meth : Method) (c : Code) (b L : Nat) (xs : Nat → Int32) : Prop :=
  p.tables.exec = Jvm.exec ∧ c.code = code ∧ meth.sig.returnType = ret ∧ c.maxLocals = 4 ∧ s.vm.findClass R_law = some m.cls ∧ (∀ w ∈ lw_tbl, w.before #[Value.ref b] s = true) ∧ va_X b L xs s s.heap ∧ b < s.heap.size ∧ meth.locks = false ∧ (Jvm.Cond.and given_1 narrow_1).before #[Value.ref b] s = true
/-! FROM THE ENTRY -/
theorem size_7 {args : Array Value} {s : State} {tm : Term} {t : Nat} {cell : Cell} (ht : tm.eval args s none [] s = some (.ref t)) (hat : s.arrayAt? t = some cell) (hv : (Term.length tm).eval args s none [] s = some (.int 7)) : cell.slots.size = 7 := by
  simp only [Term.eval, ht, hat, Option.bind_eq_bind, Option.bind_some] at hv
  by_cases hlt : cell.slots.size < 2147483648
  · have e : Int32.ofNat cell.slots.size = nI 7 := by
      simp [hlt] at hv
      exact hv
    have h1 : (nI cell.slots.size).toNatClampNeg = cell.slots.size := nI_clamp (by omega)
    have h2 : (nI 7).toNatClampNeg = 7 := nI_clamp (by decide)
    rw [← h1, ← h2]
    exact congrArg Int32.toNatClampNeg e
  · simp [hlt] at hv
theorem fac_at {args : Array Value} {s : State} (h : (Jvm.Cond.and given_1 narrow_1).before args s = true) : ∃ fa : Nat, (Term.static "EelLocks" "FACTORIALS" "[I").eval args s none [] s = some (.ref fa) ∧ va_X fa 7 fac s s.heap ∧ fa < s.heap.size := by
  have hs := flat_of_before _ h
  have harr : (Cond.arrayOf (.static "EelLocks" "FACTORIALS" "[I") .int).before args s = true := hs _ (by decide +kernel)
  have hlen : (Cond.eq (.length (.static "EelLocks" "FACTORIALS" "[I")) (.int 7)).before args s = true := hs _ (by decide +kernel)
  have e0 : (Cond.eq (.elem (.static "EelLocks" "FACTORIALS" "[I") (.int 0)) (.int 1)).before args s = true := hs _ (by decide +kernel)
  have e1 : (Cond.eq (.elem (.static "EelLocks" "FACTORIALS" "[I") (.int 1)) (.int 1)).before args s = true := hs _ (by decide +kernel)
  have e2 : (Cond.eq (.elem (.static "EelLocks" "FACTORIALS" "[I") (.int 2)) (.int 2)).before args s = true := hs _ (by decide +kernel)
  have e3 : (Cond.eq (.elem (.static "EelLocks" "FACTORIALS" "[I") (.int 3)) (.int 6)).before args s = true := hs _ (by decide +kernel)
  have e4 : (Cond.eq (.elem (.static "EelLocks" "FACTORIALS" "[I") (.int 4)) (.int 24)).before args s = true := hs _ (by decide +kernel)
  have e5 : (Cond.eq (.elem (.static "EelLocks" "FACTORIALS" "[I") (.int 5)) (.int 120)).before args s = true := hs _ (by decide +kernel)
  have e6 : (Cond.eq (.elem (.static "EelLocks" "FACTORIALS" "[I") (.int 6)) (.int 720)).before args s = true := hs _ (by decide +kernel)
  have hv := va_eqt hlen
  obtain ⟨t, cell, ht, hat, -⟩ := Term.length_spec hv
  obtain ⟨hcell, hkn, -, -⟩ := State.arrayAt?_spec hat
  obtain ⟨fa, ht2, cell2, g1, g2, g3, -, -, g5, -⟩ := va_Tof (tm := .static "EelLocks" "FACTORIALS" "[I") (ty := .int) (N := 7) (f := fun j => .int (fac j)) (A := fun _ => False) (by decide) harr hv (fun j hj => by
    match j, hj with
    | 0, _ => exact va_eqt e0
    | 1, _ => exact va_eqt e1
    | 2, _ => exact va_eqt e2
    | 3, _ => exact va_eqt e3
    | 4, _ => exact va_eqt e4
    | 5, _ => exact va_eqt e5
    | 6, _ => exact va_eqt e6
    | k + 7, hk => exact absurd hk (by omega)) (fun _ _ z => z)
  cases ht.symm.trans ht2
  cases hcell.symm.trans g1
  have hsz : cell.slots.size = 7 := size_7 ht hat hv
  exact ⟨t, ht2, ⟨cell, g1, g2, g3, hsz, g5⟩, (Array.getElem?_eq_some_iff.mp g1).1⟩
theorem ci_0 : CI m00 g0 :=
  ⟨⟨rfl, by decide, fun k hk => absurd hk (Nat.not_lt_zero k), fun k hk => absurd hk (Nat.not_lt_zero k)⟩, ⟨rfl, rfl, fun k hk => absurd hk (Nat.not_lt_zero k), fun k hk => absurd hk (Nat.not_lt_zero k)⟩, ⟨fun k hk => absurd hk (Nat.not_lt_zero k), fun _ _ => rfl, fun k hk => absurd hk (Nat.not_lt_zero k), fun k hk => absurd hk (Nat.not_lt_zero k), fun _ _ => rfl, rfl, rfl⟩, ⟨by decide, rfl, 0, by decide, rfl, fun k hk => absurd hk (Nat.not_lt_zero k)⟩, fun s _ => ⟨rfl, fun T hT => by cases hT⟩, rfl⟩
theorem mi_0 : MI m00 g0 :=
  ⟨⟨rfl, by decide, fun k hk => absurd hk (Nat.not_lt_zero k), fun k hk => absurd hk (Nat.not_lt_zero k)⟩, ⟨rfl, rfl, fun k hk => absurd hk (Nat.not_lt_zero k), fun k hk => absurd hk (Nat.not_lt_zero k)⟩, ⟨fun k hk => absurd hk (Nat.not_lt_zero k), fun k hk => absurd hk (Nat.not_lt_zero k), fun k hk => absurd hk (Nat.not_lt_zero k), fun k hk => absurd hk (Nat.not_lt_zero k), fun _ _ => rfl, rfl⟩, ⟨by decide, rfl, 0, by decide, rfl, fun k hk => absurd hk (Nat.not_lt_zero k)⟩, fun s _ => ⟨rfl, fun T hT => by cases hT⟩, rfl⟩
theorem nests_ok {s : State} {args : Array Value} (hts : ∀ w ∈ lw_tbl, w.before args s = true) : Nx s := by
  refine ⟨fun q hq => ?_, va_AO.of (hts _ tA_O)⟩
  simp only [List.mem_cons, List.not_mem_nil, or_false] at hq
  rcases hq with rfl | rfl | rfl | rfl | rfl | rfl | rfl
  · exact va_Nw.of rfl (hts _ tQ_RX7_9)
  · exact va_Nw.of rfl (hts _ tQ_RX7_18)
  · exact va_Nw.of rfl (hts _ tQ_RX1_20)
  · exact va_Nw.of rfl (hts _ tQ_RX0_17)
  · exact va_Nw.of rfl (hts _ tQ_RX4_21)
  · exact va_Nw.of rfl (hts _ tQ_RX7_39)
  · exact va_Nw.of rfl (hts _ tQ_RX7_46)
theorem tys_at {s : State} {args : Array Value} (hts : ∀ w ∈ lw_tbl, w.before args s = true) : ∃ cA : ClassId × ClassId × ClassId, ∀ (k : Nat) (q : ClassId × FieldType), ([(cA.1, .int), (cA.2.1, .boolean), (cA.2.2, .object "EelLocks$State")] : List (ClassId × FieldType))[k]? = some q → ArrOfT s q.1 q.2 ∧ va_RA s q.1 q.2 := by
  obtain ⟨c1, k1, m1, a1, a2, a3⟩ := Cond.arrayClass_spec (hts _ tA_I)
  obtain ⟨c2, k2, m2, b1, b2, b3⟩ := Cond.arrayClass_spec (hts _ tA_Z)
  obtain ⟨m3, c3, k3, d1, -, d2, d3, d4⟩ := Cond.arrayOver_spec (hts _ tA_O)
  refine ⟨(c1, c2, c3), fun k q hq => ?_⟩
  match k, hq with
  | 0, hq => cases hq; exact ⟨fun n z => ⟨fun k h => (by cases h), k1, a2, m1, a3⟩, a1⟩
  | 1, hq => cases hq; exact ⟨fun n z => ⟨fun k h => (by cases h), k2, b2, m2, b3⟩, b1⟩
  | 2, hq => cases hq; exact ⟨fun n z => ⟨fun k h => (by cases h), k3, d2, m3, d3⟩, k3, m3, d2, d3, d1, d4⟩
  | k + 3, hq => simp at hq
theorem known_at {s : State} {args : Array Value} (hts : ∀ w ∈ lw_tbl, w.before args s = true) : ∃ D : va_G, ∀ (k : Nat) (q : vw_C), classes[k]? = some q → u_Kn s q.1 q.2.1 q.2.2 (D.1 k) (D.2 k) := by
  obtain ⟨c0, i0, h0⟩ := u_known (C := RX0) (T := TX0) (N := 3) (n := 3) hts inX0 (hts _ tB_RX0)
  obtain ⟨c1, i1, h1⟩ := u_known (C := RX1) (T := TX1) (N := 6) (n := 6) hts inX1 (hts _ tB_RX1)
  obtain ⟨c2, i2, h2⟩ := u_known (C := RX2) (T := TX2) (N := 6) (n := 6) hts inX2 (hts _ tB_RX2)
  obtain ⟨c3, i3, h3⟩ := u_known (C := RX3) (T := TX3) (N := 2) (n := 2) hts inX3 (hts _ tB_RX3)
  obtain ⟨c4, i4, h4⟩ := u_known (C := RX4) (T := TX4) (N := 2) (n := 2) hts inX4 (hts _ tB_RX4)
  obtain ⟨c5, i5, h5⟩ := u_known (C := RX5) (T := TX5) (N := 7) (n := 7) hts inX5 (hts _ tB_RX5)
  obtain ⟨c6, i6, h6⟩ := u_known (C := RX6) (T := TX6) (N := 2) (n := 2) hts inX6 (hts _ tB_RX6)
  obtain ⟨c7, i7, h7⟩ := u_known (C := RX7) (T := TX7) (N := 7) (n := 7) hts inX7 (hts _ tB_RX7)
  obtain ⟨c8, i8, h8⟩ := u_known (C := RX8) (T := TX8) (N := 23) (n := 23) hts inX8 (hts _ tB_RX8)
  refine ⟨(fun k => match k with
    | 0 => c0
    | 1 => c1
    | 2 => c2
    | 3 => c3
    | 4 => c4
    | 5 => c5
    | 6 => c6
    | 7 => c7
    | _ => c8, fun k => match k with
    | 0 => i0
    | 1 => i1
    | 2 => i2
    | 3 => i3
    | 4 => i4
    | 5 => i5
    | 6 => i6
    | 7 => i7
    | _ => i8), fun k q hq => ?_⟩
  match k, hq with
  | 0, hq => cases hq; exact h0
  | 1, hq => cases hq; exact h1
  | 2, hq => cases hq; exact h2
  | 3, hq => cases hq; exact h3
  | 4, hq => cases hq; exact h4
  | 5, hq => cases hq; exact h5
  | 6, hq => cases hq; exact h6
  | 7, hq => cases hq; exact h7
  | 8, hq => cases hq; exact h8
  | k + 9, hq => simp [classes] at hq
theorem loop_at {p : Program} {l : Launch} {e : Env} {s : State} {m : MethodId} {below : List Frame} {meth : Method} {c : Code} {b L cells slots : Nat} {xs : Nat → Int32} (hL : L ≤ 320) (C0 : lw_At p s m meth c b L xs) (D : va_G) (cA : ClassId × ClassId × ClassId) (fa : Nat) (ad : Nat → Nat)
    (hK : va_K D classes [(cA.1, .int), (cA.2.1, .boolean), (cA.2.2, .object "EelLocks$State")] s) (hfa : (Term.static "EelLocks" "FACTORIALS" "[I").eval #[Value.ref b] s none [] s = some (.ref fa)) (hfX : va_X fa 7 fac s s.heap) (hfl : fa < s.heap.size)
    {H : Heap} {ls : Array Slot} (hP : va_P D classes (wl (D, cA, ad, [(fa, 7, fac), (b, L, xs)]) m00) H) (hD : va_D (fun q : Nat => s.heap.size ≤ q) (wl (D, cA, ad, [(fa, 7, fac), (b, L, xs)]) m00)) (hS : va_S (fun q : Nat => s.heap.size ≤ q) s.heap H []) (hls : lv_has ls 4 [(0, .ref b), (1, .ref (ad 0)), (2, .ref (ad 125)), (3, .int 0)]) (hc : cells ≤ 600000) (hs : slots ≤ 7302250) :
    W p l e room_1 s m #[Value.ref b] below meth c H [] cells slots (lw_Z below #[Value.ref b] s) (F0 m 18 ls []) := by
  obtain ⟨hx, hb, hr, hml, hown, hts, hX, hbl, hlocks, hgv⟩ := C0
  generalize hG : ((D, cA, ad, [(fa, 7, fac), (b, L, xs)]) : Gm) = G at hP hD
  have hG1 : G.1 = D := by rw [← hG]
  have hG2 : tys G = [(cA.1, .int), (cA.2.1, .boolean), (cA.2.2, .object "EelLocks$State")] := by rw [← hG]
  have hG3 : G.2.2.1 = ad := by rw [← hG]
  have hG4 : G.2.2.2 = [(fa, 7, fac), (b, L, xs)] := by rw [← hG]
  have hA : ∀ q, AA G q → s.heap.size ≤ q := by
    rintro q ⟨id, hid, rfl⟩
    exact hD.2 id _ (wl_get G m00 hid)
  have hA' : ∀ a : Nat, a < s.heap.size → ¬ AA G a := fun a h z => absurd (hA a z) (by omega)
  have hgx : Gx G s s.heap := by
    refine ⟨fun q hq => ?_, ⟨fa, by rw [hG4]; exact List.mem_cons_self, va_Zof (hts _ tLS) (hts _ tN_RX7) hfa hA'⟩, va_Nw.of rfl (hts _ tQ_RX2_91), va_Nw.of rfl (hts _ tQ_RX3_48)⟩
    rw [hG4] at hq
    simp only [List.mem_cons, List.not_mem_nil, or_false] at hq
    rcases hq with rfl | rfl
    · exact ⟨hfX, hfl, hA' _ hfl⟩
    · exact ⟨hX, hbl, hA' _ hbl⟩
  have hD' : va_D (AA G) (wl G m00) := by
    refine ⟨hD.1, fun k q hk => ?_⟩
    have hkl : k < NC := by rw [← wl_len G m00]; exact (List.getElem?_eq_some_iff.mp hk).1
    rw [wl_get G m00 hkl] at hk
    cases hk
    exact ⟨k, hkl, rfl⟩
  have hS' : va_S (AA G) s.heap H [] := ⟨hS.1, fun q h1 _ => hS.2.1 q h1 (by omega), fun q hq => absurd hq List.not_mem_nil⟩
  have hbx : (b, L, xs) ∈ G.2.2.2 := by rw [hG4]; exact List.mem_cons_of_mem _ List.mem_cons_self
  refine law_loop (G := G) (l := l) hbx hL 65 0 m00 g0 (by omega) (by omega) wf_g0 ci_0 mi_0 p e room_1 s m #[Value.ref b] below meth c H [] cells slots _ ls ⟨hx, hb, hml, hown, fun w hw => hts w (List.mem_filter.mp hw).1, by rw [hG1, hG2]; exact hK, hgx, by decide, by decide, hc, hs⟩ ⟨by rw [hG1]; exact hP, hD', hS'⟩ ?_ ?_
  · refine ⟨hls.1, hls.2.1, fun i v hi => ?_⟩
    match i, hi with
    | 0, hi => cases hi; exact ⟨hls.2.2 (0, .ref b) (by simp), fun _ => rfl⟩
    | 1, hi => cases hi; rw [hG3]; exact ⟨hls.2.2 (1, .ref (ad 0)) (by simp), fun _ => rfl⟩
    | 2, hi => cases hi; rw [hG3]; exact ⟨hls.2.2 (2, .ref (ad 125)) (by simp), fun _ => rfl⟩
    | 3, hi => cases hi; exact ⟨hls.2.2 (3, .int 0) (by simp), fun _ => rfl⟩
    | k + 4, hi => simp at hi
  · intro r μ' H' locs' ls' pc' hq hH' hrok
    subst hq
    refine va_forget (fun q hq => hA _ (hH'.2.2.2.2 q hq)) ?_
    refine W.widen (k := 600000) (n := 7302250) hc hs ?_
    rcases hrok with ⟨x, hx1, hd, -⟩ | ⟨x, hx1, -⟩ | ⟨a, n, hx1, -⟩ | ⟨hx1, -⟩
    · cases hx1
      exact lw_ret hx hb hr hlocks hd
    · cases hx1
    · cases hx1
    · cases hx1
set_option maxHeartbeats 4000000 in
/-- YOUR PART: from the entry, for every script of at most 320 ints, the law comes to its end with true ('hflags': the launch's flags, for a law that throws: no stack traces) -/
theorem whole_start {p : Program} {e : Env} {s : State} {m : MethodId} {below : List Frame} {meth : Method} {c : Code} (l : Launch) (hflags : l.flags = flags0) {b L : Nat} {xs : Nat → Int32} (hL : L ≤ 320) (C0 : lw_At p s m meth c b L xs) : W p l e room_1 s m #[Value.ref b] below meth c s.heap [] 0 0 (lw_Z below #[Value.ref b] s) (entryFrame m ([Value.ref b] : List Value).toArray 4) := by
  obtain ⟨hx, hb, hr, hml, hown, hts, hX, hbl, hlocks, hgv⟩ := id C0
  obtain ⟨fa, hfa, hfX, hfl⟩ := fac_at hgv
  obtain ⟨cA, hcA⟩ := tys_at hts
  obtain ⟨D, hKn⟩ := known_at hts
  have hK : va_K D classes [(cA.1, .int), (cA.2.1, .boolean), (cA.2.2, .object "EelLocks$State")] s := ⟨hKn, hcA⟩
  have hNx := nests_ok hts
  have hA : ∀ q : Nat, s.heap.size ≤ q → (fun q : Nat => s.heap.size ≤ q) q := fun _ h => h
  have hS : va_S (fun q : Nat => s.heap.size ≤ q) s.heap s.heap [] := va_S.rf
  have hP : va_P D classes [] s.heap := fun k q h => by simp at h
  have hD : va_D (fun q : Nat => s.heap.size ≤ q) [] := ⟨fun i j p q h => by simp at h, fun k q h => by simp at h⟩
  have hTT : ∀ w ∈ TT, w.before #[Value.ref b] s = true := fun w hw => hts w (List.mem_filter.mp hw).1
  obtain ⟨G, hG⟩ : ∃ G : Gm, G = (D, cA, (fun _ => 0), [(fa, 7, fac), (b, L, xs)]) := ⟨_, rfl⟩
  have hKG : va_K G.1 classes (tys G) s := by rw [hG]; exact hK
  have hl := lv_entry ([.ref b]) (n := 4) (Nat.le_of_ble_eq_true rfl)
  rw [lg_entry_eq]
  generalize (lg_sl ([.ref b]) ++ List.replicate (4 - (lg_sl ([.ref b])).length) Slot.unset).toArray = ls at hl ⊢
  have hl : lv_has ls 4 [(0, .ref b)] := hl
  refine va_new (ci := 7) (fs := [.null, .null, .null, .null, .null, .null, .long 0]) (C := RX7) (T := TX7) (N := 7) hx hb hts inX7 tyX7 tyX7_ok hown (hts _ tL_RL_7) (hts _ tB_RX7) (hts _ tN_RX7) hKG (by rw [hG]; exact hP) hD hS hA rfl (fun j hj => by rcases (show j = 0 ∨ j = 1 ∨ j = 2 ∨ j = 3 ∨ j = 4 ∨ j = 5 ∨ j = 6 by omega) with rfl | rfl | rfl | rfl | rfl | rfl | rfl <;> rfl) (Nat.le_of_ble_eq_true rfl) (Nat.le_of_ble_eq_true rfl) dL_law_0 (fun a H hP hD hS => ?_)
  refine lv_dup hx hb dL_law_3 rfl ?_
  refine va_callv (va_runI (As := []) (rest := [.ref a]) (n := 0) ⟨hx, hb, hml, hown, hTT⟩ (cn_X7 (G := G) (l := l) (A := fun q : Nat => s.heap.size ≤ q) [] a) ⟨callB_of 0 hTT (good_cTT tC_yX7_init) rfl rfl rfl (hts _ tN_RX7) (hts _ tM_RL_9) ⟨by decide +kernel, by decide +kernel, by decide +kernel⟩ ⟨by decide, by decide⟩, rfl, hts _ tI_yX7_init⟩ ⟨cn_blind, fun U hU hW => ⟨rfl, by rw [hU]; exact hP, va_K.moved hW.alike hKG, hD, fun q hq => Nat.le_trans hS.1 (by rw [← hU]; exact hq), Nx.warm hW hNx⟩⟩ rfl rfl hl.1 rfl (lv_room (Nat.le_of_ble_eq_true rfl)) dL_law_4 ⟨Nat.le_of_ble_eq_true rfl, Nat.le_of_ble_eq_true rfl⟩) hS (fun q _ h => h) (fun q h => h) (fun w1 t H1 locs1 ht _ hq hB _ _ hS => ?_)
  obtain ⟨as1, has1, rfl⟩ := hq
  obtain ⟨hP, hD⟩ := hB
  rw [ht] at hP
  refine lv_astore_n (lv' := [(1, .ref a), (0, .ref b)]) hx hb dL_law_7 rfl hl (by decide) rfl (fun ls hl => ?_)
  refine va_new (ci := 8) (fs := [.int 0, .int 0, .null, .null, .null, .null, .null, .int 0, .int 0, .null, .int 0, .int 0, .int 0, .null, .int 0, .int 0, .null, .null, .null, .null, .long 0, .null, .null]) (C := RX8) (T := TX8) (N := 23) hx hb hts inX8 tyX8 tyX8_ok hown (hts _ tL_RL_10) (hts _ tB_RX8) (hts _ tN_RX8) hKG hP hD hS hA rfl (fun j hj => by rcases (show j = 0 ∨ j = 1 ∨ j = 2 ∨ j = 3 ∨ j = 4 ∨ j = 5 ∨ j = 6 ∨ j = 7 ∨ j = 8 ∨ j = 9 ∨ j = 10 ∨ j = 11 ∨ j = 12 ∨ j = 13 ∨ j = 14 ∨ j = 15 ∨ j = 16 ∨ j = 17 ∨ j = 18 ∨ j = 19 ∨ j = 20 ∨ j = 21 ∨ j = 22 by omega) with rfl | rfl | rfl | rfl | rfl | rfl | rfl | rfl | rfl | rfl | rfl | rfl | rfl | rfl | rfl | rfl | rfl | rfl | rfl | rfl | rfl | rfl | rfl <;> rfl) (Nat.le_of_ble_eq_true rfl) (Nat.le_of_ble_eq_true rfl) dL_law_8 (fun a2 H hP hD hS => ?_)
  refine lv_dup hx hb dL_law_11 rfl ?_
  refine va_callv (va_runI (As := []) (rest := [.ref a2]) (n := 0) ⟨hx, hb, hml, hown, hTT⟩ (cn_X8 (G := G) (l := l) (A := fun q : Nat => s.heap.size ≤ q) ([] ++ lay G 0 125 (a :: as1)) a2) ⟨callB_of 0 hTT (good_cTT tC_yX8_init) rfl rfl rfl (hts _ tN_RX8) (hts _ tM_RL_12) ⟨by decide +kernel, by decide +kernel, by decide +kernel⟩ ⟨by decide, by decide⟩, rfl, hts _ tI_yX8_init⟩ ⟨cn_blind, fun U hU hW => ⟨rfl, by rw [hU]; exact hP, va_K.moved hW.alike hKG, hD, fun q hq => Nat.le_trans hS.1 (by rw [← hU]; exact hq), Nx.warm hW hNx⟩⟩ rfl rfl hl.1 rfl (lv_room (Nat.le_of_ble_eq_true rfl)) dL_law_12 ⟨Nat.le_of_ble_eq_true rfl, Nat.le_of_ble_eq_true rfl⟩) hS (fun q _ h => h) (fun q h => h) (fun w1 t H1 locs1 ht _ hq hB _ _ hS => ?_)
  obtain ⟨as2, has2, rfl⟩ := hq
  obtain ⟨hP, hD⟩ := hB
  rw [ht] at hP
  refine lv_astore_n (lv' := [(2, .ref a2), (1, .ref a), (0, .ref b)]) hx hb dL_law_15 rfl hl (by decide) rfl (fun ls hl => ?_)
  refine lv_iconst (v := 0) hx hb dL_law_16 (by decide) ?_
  refine lv_istore_n (lv' := [(3, .int 0), (2, .ref a2), (1, .ref a), (0, .ref b)]) hx hb dL_law_17 rfl hl (by decide) rfl (fun ls hl => ?_)
  have hw : ([] ++ lay G 0 125 (a :: as1)) ++ lay G 125 14 (a2 :: as2) = wl (Gd G (adL 0 ((a :: as1) ++ (a2 :: as2)))) m00 := by
    rw [List.nil_append]
    exact (lay_app G (b := 0) (n1 := 125) (n2 := 14) (congrArg (· + 1) has1) (by decide +kernel) (by decide +kernel)).trans (lay_wl G _)
  rw [hw] at hP hD
  have hG' : Gd G (adL 0 ((a :: as1) ++ (a2 :: as2))) = (D, cA, adL 0 ((a :: as1) ++ (a2 :: as2)), [(fa, 7, fac), (b, L, xs)]) := by rw [hG]; rfl
  have hGD : G.1 = D := by rw [hG]
  rw [hG'] at hP hD
  rw [hGD] at hP
  have a0 : adL 0 ((a :: as1) ++ (a2 :: as2)) 0 = a := rfl
  have a125 : adL 0 ((a :: as1) ++ (a2 :: as2)) 125 = a2 := by
    show ((a :: as1) ++ (a2 :: as2)).getD 125 0 = a2
    rw [gtA (n := 125) (congrArg (· + 1) has1) (Nat.le_refl _)]
    rfl
  refine va_forget (fun q hq => hS.2.2 q hq) ?_
  exact loop_at hL C0 D cA fa _ hK hfa hfX hfl hP hD ⟨hS.1, hS.2.1, fun q hq => absurd hq List.not_mem_nil⟩ (by rw [a0, a125]; exact lv_sub hl [3, 2, 1, 0] rfl) (Nat.le_of_ble_eq_true rfl) (Nat.le_of_ble_eq_true rfl)

