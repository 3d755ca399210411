/-! MAKING: the cells of the shape, one behind the other, all numbers 0 -/
def rfs (q : Kd) : List Nat := match q with
  | .inl o => o.2.filterMap (fun f => match f with
    | some (some r) => some r
    | _ => none)
  | .inr (.inl _) => []
  | .inr (.inr ids) => ids
abbrev m00 : Mem := (fun _ _ => 0, fun _ => 0)
def Gd (G : Gm) (ad : Nat → Nat) : Gm := (G.1, G.2.1, ad, G.2.2.2)
def adL (b : Nat) (as : List Nat) (j : Nat) : Nat := as.getD (j - b) 0
def cl0 (G : Gm) (ad : Nat → Nat) (id : Nat) : va_E := ce (Gd G ad) m00 id (sh id)
def lay (G : Gm) (b n : Nat) (as : List Nat) : va_W := (List.range n).map fun k => (as.getD k 0, cl0 G (adL b as) (b + k))
theorem lay_len (G : Gm) (b n : Nat) (as : List Nat) : (lay G b n as).length = n := by
  unfold lay
  rw [List.length_map, List.length_range]
theorem cl0_ad (G : Gm) {ad ad' : Nat → Nat} {id : Nat} (h : ∀ r ∈ rfs (sh id), ad r = ad' r) : cl0 G ad id = cl0 G ad' id := by
  unfold cl0
  generalize sh id = q at h ⊢
  rcases q with o | a | ids
  · refine congrArg (fun g => (Sum.inr (o.1, g) : va_E)) (List.ext_getElem? fun j => ?_)
    rw [List.getElem?_mapIdx, List.getElem?_mapIdx]
    cases hj : o.2[j]? with
    | none => rfl
    | some f =>
      refine congrArg some ?_
      rcases f with _ | _ | r
      · rfl
      · rfl
      · have hm : r ∈ rfs (.inl o) := List.mem_filterMap.mpr ⟨some (some r), List.mem_of_getElem? hj, rfl⟩
        exact congrArg Value.ref (h r hm)
  · rfl
  · refine congrArg (fun g => (Sum.inl (G.2.1.2.2, ids.length, .inr (.inr (.inr (.inr g)))) : va_E)) (funext fun k => ?_)
    show (ids[k]?).map ad = (ids[k]?).map ad'
    cases hj : ids[k]? with
    | none => rfl
    | some r => exact congrArg some (h r (List.mem_of_getElem? hj))
def clo (b n : Nat) : Bool := (List.range n).all fun k => (rfs (sh (b + k))).all fun r => decide (b ≤ r ∧ r < b + n)
theorem clo_of {b n k r : Nat} (h : clo b n = true) (hk : k < n) (hr : r ∈ rfs (sh (b + k))) : b ≤ r ∧ r < b + n := by
  have h1 := List.all_eq_true.mp h k (List.mem_range.mpr hk)
  exact of_decide_eq_true (List.all_eq_true.mp h1 r hr)
theorem lay_app (G : Gm) {b n1 n2 : Nat} {as as' : List Nat} (hl : as.length = n1) (h1 : clo b n1 = true) (h2 : clo (b + n1) n2 = true) : lay G b n1 as ++ lay G (b + n1) n2 as' = lay G b (n1 + n2) (as ++ as') := by
  unfold lay
  rw [List.range_add, List.map_append, List.map_map]
  congr 1
  · refine List.map_congr_left (fun k hk => ?_)
    have hk := List.mem_range.mp hk
    refine Prod.ext ?_ (cl0_ad G fun r hr => ?_)
    · show as.getD k 0 = (as ++ as').getD k 0
      rw [List.getD_eq_getElem?_getD, List.getD_eq_getElem?_getD, List.getElem?_append_left (by omega)]
    · have hr := clo_of h1 hk hr
      show as.getD (r - b) 0 = (as ++ as').getD (r - b) 0
      rw [List.getD_eq_getElem?_getD, List.getD_eq_getElem?_getD, List.getElem?_append_left (by omega)]
  · refine List.map_congr_left (fun k hk => ?_)
    have hk := List.mem_range.mp hk
    refine Prod.ext ?_ ?_
    · show as'.getD k 0 = (as ++ as').getD (n1 + k) 0
      rw [List.getD_eq_getElem?_getD, List.getD_eq_getElem?_getD, List.getElem?_append_right (by omega), hl, Nat.add_sub_cancel_left]
    · show cl0 G (adL (b + n1) as') (b + n1 + k) = cl0 G (adL b (as ++ as')) (b + (n1 + k))
      rw [← Nat.add_assoc]
      refine cl0_ad G fun r hr => ?_
      have hr := clo_of h2 hk hr
      show as'.getD (r - (b + n1)) 0 = (as ++ as').getD (r - b) 0
      rw [List.getD_eq_getElem?_getD, List.getD_eq_getElem?_getD, List.getElem?_append_right (by omega), hl]
      congr 2
      omega
theorem lay_cons (G : Gm) {b n : Nat} {a : Nat} {as : List Nat} {e : va_E} (h : clo (b + 1) n = true) (he : e = cl0 G (adL b (a :: as)) b) : (a, e) :: lay G (b + 1) n as = lay G b (n + 1) (a :: as) := by
  unfold lay
  rw [List.range_succ_eq_map, List.map_cons, List.map_map]
  congr 1
  · rw [he]; rfl
  · refine List.map_congr_left (fun k hk => ?_)
    have hk := List.mem_range.mp hk
    refine Prod.ext rfl ?_
    show cl0 G (adL (b + 1) as) (b + 1 + k) = cl0 G (adL b (a :: as)) (b + (k + 1))
    rw [show b + (k + 1) = b + 1 + k by omega]
    refine cl0_ad G fun r hr => ?_
    have hr := clo_of h hk hr
    show as.getD (r - (b + 1)) 0 = (a :: as).getD (r - b) 0
    rw [show r - b = (r - (b + 1)) + 1 by omega]
    rfl
theorem lay_wl (G : Gm) (as : List Nat) : lay G 0 NC as = wl (Gd G (adL 0 as)) m00 := by
  unfold lay wl
  refine List.map_congr_left (fun k _ => ?_)
  rw [Nat.zero_add]
  rfl
theorem lay_get (G : Gm) {b n k : Nat} (as : List Nat) (h : k < n) : (lay G b n as)[k]? = some (as.getD k 0, cl0 G (adL b as) (b + k)) := by
  unfold lay
  rw [List.getElem?_map, List.getElem?_range h]
  rfl
/-! the judgement while things are made: the world is pre, then l -/
abbrev nestq : List (String × Nat × MethodName) := [(RX7, 9, yX6_init), (RX7, 18, yX1_init), (RX1, 20, yX5_init), (RX0, 17, yX5_init), (RX4, 21, yX5_init), (RX7, 39, yX3_init), (RX7, 46, yX2_init)]
def Nx (s : State) : Prop := (∀ q ∈ nestq, va_Nw (.methodLinkNest q.1 q.2.1 q.2.2 "EelLocks") s) ∧ va_AO "EelLocks$State" s
def Hq (G : Gm) (A : Nat → Prop) (s : State) (H : Heap) (locs : List Loc) (ws : va_W) : Prop := va_P G.1 classes ws H ∧ va_D A ws ∧ va_S A s.heap H locs
def Cq (G : Gm) (A : Nat → Prop) (own : String) (cc : ByteArray) (nL dep mc ms : Nat) (p : Program) (R : Room) (s : State) (m : MethodId) (args : Array Value) (meth : Method) (c : Code) : Prop :=
  p.tables.exec = Jvm.exec ∧ c.code = cc ∧ c.maxLocals = nL ∧ s.vm.findClass own = some m.cls ∧ (∀ w ∈ TT, w.before args s = true) ∧ va_K G.1 classes (tys G) s ∧ Nx s ∧ dep ≤ R.frames ∧ 34 * dep ≤ R.locals ∧ (∀ q, s.heap.size ≤ q → A q) ∧ meth.name = "<init>" ∧ mc ≤ R.cells ∧ ms ≤ R.slots
def VC (G : Gm) (l : Launch) (A : Nat → Prop) (own : String) (cc : ByteArray) (nL dep mc ms : Nat) (Q : va_W → Prop) (cells slots pc : Nat) (lo : List (Option Value)) (st : List Value) (pre w : va_W) : Prop :=
  ∀ (p : Program) (e : Env) (R : Room) (s : State) (m : MethodId) (args : Array Value) (below : List Frame) (meth : Method) (c : Code) (H : Heap) (locs : List Loc) (Qf : State → Prop) (ls : Array Slot), Cq G A own cc nL dep mc ms p R s m args meth c → Hq G A s H locs (pre ++ w) → lm false ls nL lo →
    (∀ (w' : va_W) (H' : Heap) (locs' : List Loc) (ls' : Array Slot) (pc' : Nat), Q w' → Hq G A s H' locs' (pre ++ w') → decode cc pc' = .ok (.return_, 1) → W p l e R s m args below meth c H' locs' mc ms Qf (F0 m pc' ls' [])) →
    W p l e R s m args below meth c H locs cells slots Qf (F0 m pc ls st)
/-- a constructor's contract: the object stands last -/
def Cn (G : Gm) (l : Launch) (A : Nat → Prop) (dep mc ms : Nat) (y : MethodName) (cc : ByteArray) (maxL a : Nat) (e0 : va_E) (pre : va_W) (Q : va_W → Prop) : Prop :=
  Met l y (.code y cc maxL none :: TT) { frames := dep, cells := mc, slots := ms, locals := 34 * dep } (va_Pc [.ref a] (fun U => va_P G.1 classes (pre ++ [(a, e0)]) U.heap ∧ va_K G.1 classes (tys G) U ∧ va_D A (pre ++ [(a, e0)]) ∧ (∀ q, U.heap.size ≤ q → A q) ∧ Nx U)) (va_Qv Q (fun w t => va_P G.1 classes (pre ++ w) t.heap ∧ va_D A (pre ++ w)) A) mc ms A
theorem tC_Object_init : Cond.code Lib.objectInit ⟨#[0xb1]⟩ 1 none ∈ lw_tbl := List.mem_of_getElem? (i := 57) (by decide +kernel)
section CM
variable {G : Gm} {l : Launch} {A : Nat → Prop} {own : String} {cc : ByteArray} {nL dep mc ms cells slots : Nat} {Q : va_W → Prop} {pc n : Nat} {lo : List (Option Value)} {st : List Value} {pre w : va_W}
theorem Nx.warm {s U : State} (hW : s.WarmedH U.vm) (h : Nx s) : Nx U := ⟨fun q hq => va_Nw.warmM hW (h.1 q hq), va_AO.moved hW.alike h.2⟩
theorem Nx.same {u U : State} (e : u.vm = U.vm) (h : Nx u) : Nx U := ⟨fun q hq => va_Nw.same rfl e (h.1 q hq), va_AO.moved (u := u) (by rw [e]; exact Vm.Alike.refl U.vm) h.2⟩
theorem Cn.of {y : MethodName} {a : Nat} {e0 : va_E} (hy : plainName y.cls = true) (hn : y.name = "<init>") (h : 1 ≤ nL) (k : VC G l A y.cls cc nL dep mc ms Q 0 0 0 (some (.ref a) :: List.replicate (nL - 1) none) [] pre [(a, e0)]) : Cn G l A dep mc ms y cc nL a e0 pre Q := by
  refine Met.ofW (cc := cc) (maxL := nL) (ret := none) hy rfl ?_
  intro p e s m args below meth c s₁ B hml hv
  obtain ⟨rfl, hP, hK, hD, hA, hx⟩ := hv
  have hts : ∀ w ∈ Cond.code y cc nL none :: TT, w.before ([Value.ref a] : List Value).toArray s = true := atoms_spec (ws := Cond.code y cc nL none :: TT) B.pre
  have hr := B.returns
  have hlk := B.notSynchronized
  have hin : meth.name = "<init>" := (name_of_methodNamed B.named B.method).1.trans hn
  rw [lg_entry_eq]
  refine k p e _ s m _ below meth c s.heap [] _ _ ⟨B.exec, B.bytes, hml, findClass_of_methodNamed B.named, fun w h => hts w (List.mem_cons_of_mem _ h), hK, hx, Nat.le_refl _, Nat.le_refl _, hA, hin, Nat.le_refl _, Nat.le_refl _⟩ ⟨hP, hD, va_S.rf⟩ (lm_entry (As := [.ref a]) rfl h) ?_
  intro w' H' locs' ls' pc' hq hH' hd
  exact W.vret B.exec B.bytes hr (fun t ht _ => ⟨⟨w', rfl, hq, by rw [ht]; exact hH'.1, hH'.2.1⟩, hH'.2.2.F ht⟩) hH'.2.2.2.2 hd hlk
theorem C_iconst {i : Int} {v : Int32} (hdg : decode cc pc = .ok (.iconst i, 1)) (hv : Int32.ofInt i = v) (hn : pc + 1 = n) (k : VC G l A own cc nL dep mc ms Q cells slots n lo (.int v :: st) pre w) : VC G l A own cc nL dep mc ms Q cells slots pc lo st pre w := by
  subst hn
  intro p e R s m args below meth c H locs Qf ls hC hH hL hF
  exact lv_iconst hC.1 hC.2.1 hdg hv (k p e R s m args below meth c H locs Qf ls hC hH hL hF)
theorem C_bipush {i : Int} {v : Int32} (hdg : decode cc pc = .ok (.bipush i, 2)) (hv : (Int8.ofInt i).toInt32 = v) (hn : pc + 2 = n) (k : VC G l A own cc nL dep mc ms Q cells slots n lo (.int v :: st) pre w) : VC G l A own cc nL dep mc ms Q cells slots pc lo st pre w := by
  subst hn
  intro p e R s m args below meth c H locs Qf ls hC hH hL hF
  exact lv_bipush hC.1 hC.2.1 hdg hv (k p e R s m args below meth c H locs Qf ls hC hH hL hF)
theorem C_sipush {i : Int} {v : Int32} (hdg : decode cc pc = .ok (.sipush i, 3)) (hv : (Int16.ofInt i).toInt32 = v) (hn : pc + 3 = n) (k : VC G l A own cc nL dep mc ms Q cells slots n lo (.int v :: st) pre w) : VC G l A own cc nL dep mc ms Q cells slots pc lo st pre w := by
  subst hn
  intro p e R s m args below meth c H locs Qf ls hC hH hL hF
  exact lv_sipush hC.1 hC.2.1 hdg hv (k p e R s m args below meth c H locs Qf ls hC hH hL hF)
theorem C_iload_n {j : Fin 4} {x : Int32} (hdg : decode cc pc = .ok (.iload_n j, 1)) (hl : lo[(j : Nat)]? = some (some (.int x))) (hn : pc + 1 = n) (k : VC G l A own cc nL dep mc ms Q cells slots n lo (.int x :: st) pre w) : VC G l A own cc nL dep mc ms Q cells slots pc lo st pre w := by
  subst hn
  intro p e R s m args below meth c H locs Qf ls hC hH hL hF
  exact lv_iload_n hC.1 hC.2.1 hdg rfl (hL.2.2 _ _ hl).1 (k p e R s m args below meth c H locs Qf ls hC hH hL hF)
theorem C_aload_n {j : Fin 4} {x : Nat} (hdg : decode cc pc = .ok (.aload_n j, 1)) (hl : lo[(j : Nat)]? = some (some (.ref x))) (hn : pc + 1 = n) (k : VC G l A own cc nL dep mc ms Q cells slots n lo (.ref x :: st) pre w) : VC G l A own cc nL dep mc ms Q cells slots pc lo st pre w := by
  subst hn
  intro p e R s m args below meth c H locs Qf ls hC hH hL hF
  exact lv_aload_n hC.1 hC.2.1 hdg rfl (hL.2.2 _ _ hl).1 (k p e R s m args below meth c H locs Qf ls hC hH hL hF)
theorem C_dup {va : Value} (hdg : decode cc pc = .ok (.dup, 1)) (hva : va.category = 1) (hn : pc + 1 = n) (k : VC G l A own cc nL dep mc ms Q cells slots n lo (va :: va :: st) pre w) : VC G l A own cc nL dep mc ms Q cells slots pc lo (va :: st) pre w := by
  subst hn
  intro p e R s m args below meth c H locs Qf ls hC hH hL hF
  exact lv_dup hC.1 hC.2.1 hdg hva (k p e R s m args below meth c H locs Qf ls hC hH hL hF)
theorem C_istore_n {j : Fin 4} {x : Int32} (hdg : decode cc pc = .ok (.istore_n j, 1)) (hn : pc + 1 = n) (hi : (j : Nat) < lo.length) (hi2 : (j : Nat) < nL) (k : VC G l A own cc nL dep mc ms Q cells slots n (lo.set (j : Nat) (some (.int x))) st pre w) : VC G l A own cc nL dep mc ms Q cells slots pc lo (.int x :: st) pre w := by
  subst hn
  intro p e R s m args below meth c H locs Qf ls hC hH hL hF
  exact lv_istore_n hC.1 hC.2.1 hdg rfl (lm_has hL) hi2 rfl (fun ls' h' => k p e R s m args below meth c H locs Qf ls' hC hH (lm_of hL hi rfl h') hF)
theorem C_iinc {i : Nat} {d : Int} {x v : Int32} (hdg : decode cc pc = .ok (.iinc i d, 3)) (hn : pc + 3 = n) (hl : lo[i]? = some (some (.int x))) (hv : x + Int32.ofInt d = v) (hi2 : i < nL) (k : VC G l A own cc nL dep mc ms Q cells slots n (lo.set i (some (.int v))) st pre w) : VC G l A own cc nL dep mc ms Q cells slots pc lo st pre w := by
  subst hn
  intro p e R s m args below meth c H locs Qf ls hC hH hL hF
  obtain ⟨j, hj⟩ := List.getElem?_of_mem (show (i, Value.int x) ∈ prs 0 lo from by have := (prs_mem i (.int x) lo 0).mpr hl; rwa [Nat.zero_add] at this)
  exact lv_iinc hC.1 hC.2.1 hdg (lm_has hL) hj hv hi2 rfl (fun ls' h' => k p e R s m args below meth c H locs Qf ls' hC hH (lm_of hL (List.getElem?_eq_some_iff.mp hl).1 rfl h') hF)
theorem C_goto {off : Int} {tgt : Nat} (hdg : decode cc pc = .ok (.goto off, 3)) (ht : (pc : Int) + off = (tgt : Int)) (k : VC G l A own cc nL dep mc ms Q cells slots tgt lo st pre w) : VC G l A own cc nL dep mc ms Q cells slots pc lo st pre w := by
  intro p e R s m args below meth c H locs Qf ls hC hH hL hF
  exact lv_goto hC.1 hC.2.1 hdg ht (k p e R s m args below meth c H locs Qf ls hC hH hL hF)
theorem C_icmp_ge {x y : Int32} {off : Int} {tgt : Nat} (hdg : decode cc pc = .ok (.if_icmp .ge off, 3)) (ht : (pc : Int) + off = (tgt : Int)) (hn : pc + 3 = n) (kt : y ≤ x → VC G l A own cc nL dep mc ms Q cells slots tgt lo st pre w) (kf : ¬ (y ≤ x) → VC G l A own cc nL dep mc ms Q cells slots n lo st pre w) : VC G l A own cc nL dep mc ms Q cells slots pc lo (.int y :: .int x :: st) pre w := by
  subst hn
  intro p e R s m args below meth c H locs Qf ls hC hH hL hF
  exact lv_icmp_ge hC.1 hC.2.1 hdg ht (fun h => kt h p e R s m args below meth c H locs Qf ls hC hH hL hF) (fun h => kf h p e R s m args below meth c H locs Qf ls hC hH hL hF)
theorem C_ret (hdg : decode cc pc = .ok (.return_, 1)) (hc : cells ≤ mc) (hs : slots ≤ ms) (hq : Q w) : VC G l A own cc nL dep mc ms Q cells slots pc lo [] pre w := by
  intro p e R s m args below meth c H locs Qf ls hC hH hL hF
  exact W.widen hc hs (hF _ _ _ _ _ hq hH hdg)
theorem VC.eqw {w' : va_W} (h : w = w') (k : VC G l A own cc nL dep mc ms Q cells slots pc lo st pre w') : VC G l A own cc nL dep mc ms Q cells slots pc lo st pre w := h ▸ k
theorem C_obj {ix : Nat} {a : Nat} (hlink : Cond.methodLink own ix Lib.objectInit ∈ lw_tbl) (hd : 1 ≤ dep) (hst : (st.map fun v => v.category).sum ≤ 8) (hdg : decode cc pc = .ok (.invokespecial ix, 3)) (hn : pc + 3 = n) (k : VC G l A own cc nL dep mc ms Q cells slots n lo st pre w) : VC G l A own cc nL dep mc ms Q cells slots pc lo (.ref a :: st) pre w := by
  subst hn
  intro p e R s m args below meth c H locs Qf ls hC hH hL hF
  obtain ⟨hx, hb, hml, hown, hts, hK, hN, hfr, hlo, hA, hin, hce, hsl⟩ := id hC
  refine W.objInit hx hb hown (hts _ (mTT hlink rfl)) (hts _ (mTT tI_Object_init rfl)) (hts _ (mTT tC_Object_init rfl)) rfl (hL.1.trans hml.symm) rfl hdg (Nat.le_trans hd hfr) (by show 2 * 0 + _ + 12 ≤ _; omega) ?_
  exact k p e R s m args below meth c H locs Qf ls hC hH hL hF
theorem C_new {C : String} {T : u_T} {N ci ix : Nat} {ty : Nat → FieldType} {fs : List Value} (hin : ∀ w ∈ u_ws C T N, w ∈ lw_tbl) (hty : ∀ k, k < N → parseFieldDescriptor (T k).2.2.1 = some (ty k)) (tL : Cond.classLink own ix C ∈ lw_tbl) (tB : Cond.instantiable C N ∈ lw_tbl) (tN : Cond.initialized C ∈ lw_tbl) (hc : classes[ci]? = some (C, T, N)) (hfs : ∀ j, j < N → defaultValue (ty j) = vp_V fs j) (h1 : cells + 1 ≤ mc) (h2 : slots + N ≤ ms) (hdg : decode cc pc = .ok (.new ix, 3)) (hn : pc + 3 = n)
    (k : ∀ q : Nat, VC G l A own cc nL dep mc ms Q (cells + 1) (slots + N) n lo (.ref q :: st) pre (w ++ [(q, .inr (ci, fs))])) : VC G l A own cc nL dep mc ms Q cells slots pc lo st pre w := by
  subst hn
  intro p e R s m args below meth c H locs Qf ls hC hH hL hF
  obtain ⟨hx, hb, hml, hown, hts, hK, hN, hfr, hlo, hA, hnm, hce, hsl⟩ := id hC
  have hg : ∀ w ∈ u_ws C T N, w ∈ TT := fun w h => mTT (hin w h) (by obtain ⟨q, -, rfl⟩ := List.mem_map.mp h; unfold u_lay; split <;> rfl)
  refine va_new hx hb hts hg ty hty hown (hts _ (mTT tL rfl)) (hts _ (mTT tB rfl)) (hts _ (mTT tN rfl)) hK hH.1 hH.2.1 hH.2.2 hA hc hfs (Nat.le_trans h1 hce) (Nat.le_trans h2 hsl) hdg (fun q H1 hP hD hS => ?_)
  rw [List.append_assoc] at hP hD
  exact k q p e R s m args below meth c H1 locs Qf ls hC ⟨hP, hD, hS⟩ hL hF
theorem ra_int {s : State} {c1 c2 : ClassId} (h1 : va_RA s c1 .int) (h2 : va_RA s c2 .int) : c1 = c2 := Option.some.inj (Eq.trans (Eq.symm h1) h2)
theorem ra_bool {s : State} {c1 c2 : ClassId} (h1 : va_RA s c1 .boolean) (h2 : va_RA s c2 .boolean) : c1 = c2 := Option.some.inj (Eq.trans (Eq.symm h1) h2)
theorem ra_obj {s : State} {c1 c2 : ClassId} {C : String} (h1 : va_RA s c1 (.object C)) (h2 : va_RA s c2 (.object C)) : c1 = c2 := by
  obtain ⟨_, _, _, _, _, e1⟩ := h1
  obtain ⟨_, _, _, _, _, e2⟩ := h2
  exact Option.some.inj (Eq.trans (Eq.symm e1) e2)
theorem C_newa {N : Nat} (hN : N < 1000) (h1 : cells + 1 ≤ mc) (h2 : slots + N ≤ ms) (hdg : decode cc pc = .ok (.newarray .int, 2)) (hn : pc + 2 = n) (k : ∀ q : Nat, VC G l A own cc nL dep mc ms Q (cells + 1) (slots + N) n lo (.ref q :: st) pre (w ++ [(q, .inl (G.2.1.1, N, .inl (fun _ => 0)))])) : VC G l A own cc nL dep mc ms Q cells slots pc lo (.int (nI N) :: st) pre w := by
  subst hn
  intro p e R s m args below meth c H locs Qf ls hC hH hL hF
  obtain ⟨hx, hb, hml, hown, hts, hK, hNx, hfr, hlo, hA, hnm, hce, hsl⟩ := id hC
  refine va_newa (atype := .int) (N' := N) (a0 := (N, .inl (fun _ => 0))) hx hb (hts _ (mTT tA_I rfl)) rfl hK hH.1 hH.2.1 hH.2.2 hA (fun _ => rfl) (nI_pos (by omega)) (nI_clamp (by omega)) (by show N * 4 ≤ _; omega) (Nat.le_trans h1 hce) (Nat.le_trans h2 hsl) hdg (fun q cA H1 hK1 hP hD hS => ?_)
  have hcA : G.2.1.1 = cA := ra_int (hK1.2 0 (G.2.1.1, .int) rfl).2 (hK1.2 3 (cA, .int) rfl).2
  subst hcA
  rw [List.append_assoc] at hP hD
  exact k q p e R s m args below meth c H1 locs Qf ls hC ⟨hP, hD, hS⟩ hL hF
theorem C_newz {N : Nat} (hN : N < 1000) (h1 : cells + 1 ≤ mc) (h2 : slots + N ≤ ms) (hdg : decode cc pc = .ok (.newarray .boolean, 2)) (hn : pc + 2 = n) (k : ∀ q : Nat, VC G l A own cc nL dep mc ms Q (cells + 1) (slots + N) n lo (.ref q :: st) pre (w ++ [(q, .inl (G.2.1.2.1, N, .inl (fun _ => 0)))])) : VC G l A own cc nL dep mc ms Q cells slots pc lo (.int (nI N) :: st) pre w := by
  subst hn
  intro p e R s m args below meth c H locs Qf ls hC hH hL hF
  obtain ⟨hx, hb, hml, hown, hts, hK, hNx, hfr, hlo, hA, hnm, hce, hsl⟩ := id hC
  refine va_newa (atype := .boolean) (N' := N) (a0 := (N, .inl (fun _ => 0))) hx hb (hts _ (mTT tA_Z rfl)) rfl hK hH.1 hH.2.1 hH.2.2 hA (fun _ => rfl) (nI_pos (by omega)) (nI_clamp (by omega)) (by show N * 1 ≤ _; omega) (Nat.le_trans h1 hce) (Nat.le_trans h2 hsl) hdg (fun q cA H1 hK1 hP hD hS => ?_)
  have hcA : G.2.1.2.1 = cA := ra_bool (hK1.2 1 (G.2.1.2.1, .boolean) rfl).2 (hK1.2 3 (cA, .boolean) rfl).2
  subst hcA
  rw [List.append_assoc] at hP hD
  exact k q p e R s m args below meth c H1 locs Qf ls hC ⟨hP, hD, hS⟩ hL hF
theorem C_newq {N ix : Nat} (tL : Cond.classLink own ix "EelLocks$State" ∈ lw_tbl) (hN : N < 1000) (h1 : cells + 1 ≤ mc) (h2 : slots + N ≤ ms) (hdg : decode cc pc = .ok (.anewarray ix, 3)) (hn : pc + 3 = n) (k : ∀ q : Nat, VC G l A own cc nL dep mc ms Q (cells + 1) (slots + N) n lo (.ref q :: st) pre (w ++ [(q, .inl (G.2.1.2.2, N, .inr (.inr (.inr (.inr (fun _ => none))))))])) : VC G l A own cc nL dep mc ms Q cells slots pc lo (.int (nI N) :: st) pre w := by
  subst hn
  intro p e R s m args below meth c H locs Qf ls hC hH hL hF
  obtain ⟨hx, hb, hml, hown, hts, hK, hNx, hfr, hlo, hA, hnm, hce, hsl⟩ := id hC
  refine va_newq (N' := N) hx hb hown (hts _ (mTT tL rfl)) hNx.2 hK hH.1 hH.2.1 hH.2.2 hA (nI_pos (by omega)) (nI_clamp (by omega)) (by omega) (Nat.le_trans h1 hce) (Nat.le_trans h2 hsl) hdg (fun q cA H1 hK1 hP hD hS => ?_)
  have hcA : G.2.1.2.2 = cA := ra_obj (hK1.2 2 (G.2.1.2.2, .object "EelLocks$State") rfl).2 (hK1.2 3 (cA, .object "EelLocks$State") rfl).2
  subst hcA
  rw [List.append_assoc] at hP hD
  exact k q p e R s m args below meth c H1 locs Qf ls hC ⟨hP, hD, hS⟩ hL hF
theorem pre_get {α : Type} {pre w : List α} {k : Nat} {x : α} (h : w[k]? = some x) : (pre ++ w)[pre.length + k]? = some x := by
  rw [List.getElem?_append_right (by omega), Nat.add_sub_cancel_left, h]
theorem pre_set {α : Type} {pre w : List α} {k : Nat} {x : α} : (pre ++ w).set (pre.length + k) x = pre ++ w.set k x := by
  rw [List.set_append_right _ _ (by omega), Nat.add_sub_cancel_left]
/-- a field that is laid once, of references -/
theorem C_put {C : String} {T : u_T} {N ci ix j k0 a v : Nat} {tyf : Nat → FieldType} {fs : List Value} (hin : ∀ w ∈ u_ws C T N, w ∈ lw_tbl) (hty : ∀ k, k < N → parseFieldDescriptor (T k).2.2.1 = some (tyf k)) (hnm : ∀ a, a < N → ∀ b, b < N → a ≠ b → (T a).2.1 ≠ (T b).2.1) (hc : classes[ci]? = some (C, T, N)) (hj : j < N) (hT : (T j).1 = C) (hCo : C = own) (hlink : Cond.fieldLink own ix C (T j).2.1 (T j).2.2.1 ∈ lw_tbl) (hfin : (T j).2.2.2 = true) (hn1 : narrow (tyf j) (.ref v) = .ref v) (hf1 : fits (tyf j) (.ref v) = true) (hw : w[k0]? = some (a, .inr (ci, fs))) (hl : j < fs.length) (hdg : decode cc pc = .ok (.putfield ix, 3)) (hn : pc + 3 = n)
    (k : VC G l A own cc nL dep mc ms Q cells slots n lo st pre (w.set k0 (a, .inr (ci, fs.set j (.ref v))))) : VC G l A own cc nL dep mc ms Q cells slots pc lo (.ref v :: .ref a :: st) pre w := by
  subst hn
  intro p e R s m args below meth c H locs Qf ls hC hH hL hF
  obtain ⟨hx, hb, hml, hown, hts, hK, hNx, hfr, hlo, hA, hnmm, hce, hsl⟩ := id hC
  have hg : ∀ w ∈ u_ws C T N, w ∈ TT := fun w h => mTT (hin w h) (by obtain ⟨q, -, rfl⟩ := List.mem_map.mp h; unfold u_lay; split <;> rfl)
  refine va_putF hx hb hts hg tyf hty hnm hown hK hH.1 hH.2.1 hH.2.2 (pre.length + k0) (pre_get hw) hc j hj (hts _ (mTT hlink rfl)) (fun x hx => by rw [hT] at hx; exact hx) hfin hnmm (hT.trans hCo) (hty j hj) hn1 hf1 hl hdg (fun H1 locs1 hP hD hS => ?_)
  rw [pre_set] at hP hD
  exact k p e R s m args below meth c H1 locs1 Qf ls hC ⟨hP, hD, hS⟩ hL hF
theorem C_puti {C : String} {T : u_T} {N ci ix j k0 a : Nat} {v : Int32} {tyf : Nat → FieldType} {fs : List Value} (hin : ∀ w ∈ u_ws C T N, w ∈ lw_tbl) (hty : ∀ k, k < N → parseFieldDescriptor (T k).2.2.1 = some (tyf k)) (hnm : ∀ a, a < N → ∀ b, b < N → a ≠ b → (T a).2.1 ≠ (T b).2.1) (hc : classes[ci]? = some (C, T, N)) (hj : j < N) (hT : (T j).1 = C) (hlink : Cond.fieldLink own ix C (T j).2.1 (T j).2.2.1 ∈ lw_tbl) (hfin : (T j).2.2.2 = false) (hint : tyf j = .int) (hw : w[k0]? = some (a, .inr (ci, fs))) (hl : j < fs.length) (hdg : decode cc pc = .ok (.putfield ix, 3)) (hn : pc + 3 = n)
    (k : VC G l A own cc nL dep mc ms Q cells slots n lo st pre (w.set k0 (a, .inr (ci, fs.set j (.int v))))) : VC G l A own cc nL dep mc ms Q cells slots pc lo (.int v :: .ref a :: st) pre w := by
  subst hn
  intro p e R s m args below meth c H locs Qf ls hC hH hL hF
  obtain ⟨hx, hb, hml, hown, hts, hK, hNx, hfr, hlo, hA, hnmm, hce, hsl⟩ := id hC
  have hg : ∀ w ∈ u_ws C T N, w ∈ TT := fun w h => mTT (hin w h) (by obtain ⟨q, -, rfl⟩ := List.mem_map.mp h; unfold u_lay; split <;> rfl)
  refine va_put hx hb hts hg tyf hty hnm hown hK hH.1 hH.2.1 hH.2.2 (pre.length + k0) (pre_get hw) hc j hj (hts _ (mTT hlink rfl)) (fun x hx => by rw [hT] at hx; exact hx) hfin (ty := .int) (by rw [hty j hj, hint]) rfl rfl hl hdg (fun H1 locs1 hP hD hS => ?_)
  rw [pre_set] at hP hD
  exact k p e R s m args below meth c H1 locs1 Qf ls hC ⟨hP, hD, hS⟩ hL hF
theorem C_get {C : String} {T : u_T} {N ci ix j k0 a : Nat} {v : Value} {fs : List Value} (hin : ∀ w ∈ u_ws C T N, w ∈ lw_tbl) (hc : classes[ci]? = some (C, T, N)) (hj : j < N) (hT : (T j).1 = C) (hlink : Cond.fieldLink own ix C (T j).2.1 (T j).2.2.1 ∈ lw_tbl) (hw : w[k0]? = some (a, .inr (ci, fs))) (hl : fs[j]? = some v) (hdg : decode cc pc = .ok (.getfield ix, 3)) (hn : pc + 3 = n)
    (k : VC G l A own cc nL dep mc ms Q cells slots n lo (v :: st) pre w) : VC G l A own cc nL dep mc ms Q cells slots pc lo (.ref a :: st) pre w := by
  subst hn
  intro p e R s m args below meth c H locs Qf ls hC hH hL hF
  obtain ⟨hx, hb, hml, hown, hts, hK, hNx, hfr, hlo, hA, hnmm, hce, hsl⟩ := id hC
  have hg : ∀ w ∈ u_ws C T N, w ∈ TT := fun w h => mTT (hin w h) (by obtain ⟨q, -, rfl⟩ := List.mem_map.mp h; unfold u_lay; split <;> rfl)
  exact va_get hx hb hts hg hown hK hH.1 (pre.length + k0) (pre_get hw) hc j hj (hts _ (mTT hlink rfl)) (fun x hx => by rw [hT] at hx; exact hx) hl hdg (k p e R s m args below meth c H locs Qf ls hC hH hL hF)
theorem C_aast {a v N i k0 k1 : Nat} {vs : List Value} {f : Nat → Option Nat} (ha : w[k0]? = some (a, .inl (G.2.1.2.2, N, .inr (.inr (.inr (.inr f)))))) (hv : w[k1]? = some (v, .inr (5, vs))) (hi : i < N) (hN : N < 1000) (hdg : decode cc pc = .ok (.aastore, 1)) (hn : pc + 1 = n)
    (k : VC G l A own cc nL dep mc ms Q cells slots n lo st pre (w.set k0 (a, .inl (G.2.1.2.2, N, .inr (.inr (.inr (.inr (va_up f i (some v))))))))) : VC G l A own cc nL dep mc ms Q cells slots pc lo (.ref v :: .int (nI i) :: .ref a :: st) pre w := by
  subst hn
  intro p e R s m args below meth c H locs Qf ls hC hH hL hF
  obtain ⟨hx, hb, hml, hown, hts, hK, hNx, hfr, hlo, hA, hnmm, hce, hsl⟩ := id hC
  refine va_astq hx hb hK hH.1 hH.2.1 hH.2.2 (pre.length + k0) 2 (pre.length + k1) 5 (r := (RX5, TX5, 7)) (pre_get ha) rfl (pre_get hv) rfl (nI_in hi (by omega)) hdg (fun H1 locs1 hP hD hS => ?_)
  rw [pre_set, nI_clamp (by omega)] at hP hD
  exact k p e R s m args below meth c H1 locs1 Qf ls hC ⟨hP, hD, hS⟩ hL hF
theorem cn_blind {a : Nat} {ws : va_W} : FrameBlind (va_Pc [.ref a] (fun U => va_P G.1 classes ws U.heap ∧ va_K G.1 classes (tys G) U ∧ va_D A ws ∧ (∀ q, U.heap.size ≤ q → A q) ∧ Nx U)) := fun b U g mk q =>
  ⟨q.1, q.2.1, va_K.moved (u := U) (U := U.calling g mk b) (Vm.Alike.refl U.vm) q.2.2.1, q.2.2.2.1, q.2.2.2.2.1, Nx.same (u := U) (U := U.calling g mk b) rfl q.2.2.2.2.2⟩
theorem C_init {dep' mc' ms' : Nat} {y : MethodName} {cy : ByteArray} {mL a ix : Nat} {e0 : va_E} {Qy : va_W → Prop}
    (hct : Cn G l A dep' mc' ms' y cy mL a e0 (pre ++ w) Qy) (hd : dep' < dep) (hmL : mL ≤ 15) (tM : Cond.methodLink own ix y ∈ lw_tbl) (tI : Cond.instanceMethod y ∈ lw_tbl) (tN : Cond.initialized y.cls ∈ lw_tbl) (tC : Cond.code y cy mL none ∈ lw_tbl) (hy : okY y 0) (hyn : y.name = "<init>") (h1 : cells + mc' ≤ mc) (h2 : slots + ms' ≤ ms) (hrest : (st.map fun v => v.category).sum ≤ 8) (hdg : decode cc pc = .ok (.invokespecial ix, 3)) (hn : pc + 3 = n)
    (k : ∀ w', Qy w' → VC G l A own cc nL dep mc ms Q (cells + mc') (slots + ms') n lo st pre (w ++ w')) : VC G l A own cc nL dep mc ms Q cells slots pc lo (.ref a :: st) pre (w ++ [(a, e0)]) := by
  subst hn
  intro p e R s m args below meth c H locs Qf ls hC hH hL hF
  obtain ⟨hx, hb, hml, hown, hts, hK, hNx, hfr, hlo, hA, hnmm, hce, hsl⟩ := id hC
  rw [← List.append_assoc] at hH
  refine va_callv (va_runI (As := []) (rest := st) (n := 0) ⟨hx, hb, hml, hown, hts⟩ hct ⟨callB_of 0 hts (good_cTT tC) rfl rfl rfl (hts _ (mTT tN rfl)) (hts _ (mTT tM rfl)) hy ⟨by show dep' + 1 ≤ R.frames; omega, by show 8 + (mL + 11) + 34 * dep' ≤ R.locals; omega⟩, hyn, hts _ (mTT tI rfl)⟩ ⟨cn_blind, fun U hU hW => ⟨rfl, by rw [hU]; exact hH.1, va_K.moved hW.alike hK, hH.2.1, fun q hq => hA q (Nat.le_trans hH.2.2.1 (by rw [← hU]; exact hq)), Nx.warm hW hNx⟩⟩ rfl rfl hL.1 rfl (lv_room hrest) hdg ⟨Nat.le_trans h1 hce, Nat.le_trans h2 hsl⟩) hH.2.2 (fun q _ h => h) (fun q h => h) (fun w' t H1 locs1 ht _ hq hB _ _ hS => ?_)
  rw [ht, List.append_assoc] at hB
  exact k w' hq p e R s m args below meth c H1 locs1 Qf ls hC ⟨hB.1, hB.2, hS⟩ hL hF
theorem C_initN {dep' mc' ms' : Nat} {y : MethodName} {cy : ByteArray} {mL a ix : Nat} {e0 : va_E} {Qy : va_W → Prop}
    (hct : Cn G l A dep' mc' ms' y cy mL a e0 (pre ++ w) Qy) (hd : dep' < dep) (hmL : mL ≤ 15) (tQ : (own, ix, y) ∈ nestq) (tI : Cond.instanceMethod y ∈ lw_tbl) (tN : Cond.initialized y.cls ∈ lw_tbl) (tC : Cond.code y cy mL none ∈ lw_tbl) (hy : okY y 0) (hyn : y.name = "<init>") (h1 : cells + mc' ≤ mc) (h2 : slots + ms' ≤ ms) (hrest : (st.map fun v => v.category).sum ≤ 8) (hdg : decode cc pc = .ok (.invokespecial ix, 3)) (hn : pc + 3 = n)
    (k : ∀ w', Qy w' → VC G l A own cc nL dep mc ms Q (cells + mc') (slots + ms') n lo st pre (w ++ w')) : VC G l A own cc nL dep mc ms Q cells slots pc lo (.ref a :: st) pre (w ++ [(a, e0)]) := by
  subst hn
  intro p e R s m args below meth c H locs Qf ls hC hH hL hF
  obtain ⟨hx, hb, hml, hown, hts, hK, hNx, hfr, hlo, hA, hnmm, hce, hsl⟩ := id hC
  rw [← List.append_assoc] at hH
  refine va_callv (va_runIN (As := []) (rest := st) (n := 0) ⟨hx, hb, hml, hown, hts⟩ hct ⟨va_cnB 0 hts (good_cTT tC) rfl rfl rfl (hNx.1 _ tQ) (hts _ (mTT tN rfl)) hy ⟨by show dep' + 1 ≤ R.frames; omega, by show 8 + (mL + 11) + 34 * dep' ≤ R.locals; omega⟩, hyn, hts _ (mTT tI rfl)⟩ ⟨cn_blind, fun U hU hW => ⟨rfl, by rw [hU]; exact hH.1, va_K.moved hW.alike hK, hH.2.1, fun q hq => hA q (Nat.le_trans hH.2.2.1 (by rw [← hU]; exact hq)), Nx.warm hW hNx⟩⟩ rfl rfl hL.1 rfl (lv_room hrest) hdg ⟨Nat.le_trans h1 hce, Nat.le_trans h2 hsl⟩) hH.2.2 (fun q _ h => h) (fun q h => h) (fun w' t H1 locs1 ht _ hq hB _ _ hS => ?_)
  rw [ht, List.append_assoc] at hB
  exact k w' hq p e R s m args below meth c H1 locs1 Qf ls hC ⟨hB.1, hB.2, hS⟩ hL hF
end CM

