-- the words: all of the tables' that hold wherever the machine comes
def kWs : List Cond := lw_tbl.filter goodWord
abbrev kM (y : MethodName) (c : ByteArray) (n : Nat) (ret : Option FieldType) : List Cond := Cond.code y c n ret :: kWs
theorem k_in {w : Cond} (i : Nat) (h : lw_tbl[i]? = some w) (hg : goodWord w = true) : w ∈ kWs := List.mem_filter.mpr ⟨List.mem_of_getElem? h, hg⟩
theorem k_ins {ws : List Cond} (ps : List Nat) (hp : ws = ps.filterMap (fun i => lw_tbl[i]?)) (hg : ws.all goodWord = true) : ∀ w ∈ ws, w ∈ kWs := fun w h => by
  have hgw := List.all_eq_true.mp hg w h
  rw [hp] at h
  obtain ⟨i, -, hi⟩ := List.mem_filterMap.mp h
  exact k_in i hi hgw
theorem k_good {w : Cond} (h : w ∈ kWs) : w ∈ kWs ∧ ((w.onTables && w.keeps) = true ∨ ∃ ty, w = .arrayClass ty) := ⟨h, good_of_word (List.mem_filter.mp h).2⟩
theorem k_gC {y : MethodName} {c : ByteArray} {n : Nat} {ret : Option FieldType} (h : Cond.code y c n ret ∈ kWs) : GoodIn kWs (kM y c n ret) := fun w hw => by
  rcases List.mem_cons.mp hw with rfl | hw
  · exact k_good h
  · exact k_good hw
theorem k_gV {own : String} {idx : Nat} {C : String} {y : MethodName} {c : ByteArray} {n : Nat} {ret : Option FieldType} (h1 : Cond.methodLink own idx y ∈ kWs) (h2 : Cond.instanceMethod y ∈ kWs) (h3 : Cond.selects C y y ∈ kWs) (h4 : Cond.initialized C ∈ kWs) (h5 : Cond.code y c n ret ∈ kWs) : GoodIn kWs (wsV own idx C y (kM y c n ret)) := fun w hw => by
  simp only [wsV, List.cons_append, List.nil_append, List.mem_cons] at hw
  rcases hw with rfl | rfl | rfl | rfl | rfl | hw
  · exact k_good h1
  · exact k_good h2
  · exact k_good h3
  · exact k_good h4
  · exact k_good h5
  · exact k_good hw
theorem k_gS {own : String} {idx : Nat} {y : MethodName} {c : ByteArray} {n : Nat} {ret : Option FieldType} (h1 : Cond.methodLink own idx y ∈ kWs) (h2 : Cond.static y ∈ kWs) (h4 : Cond.initialized y.cls ∈ kWs) (h5 : Cond.code y c n ret ∈ kWs) : GoodIn kWs (va_wsS own idx y (kM y c n ret)) := fun w hw => by
  simp only [va_wsS, List.cons_append, List.nil_append, List.mem_cons] at hw
  rcases hw with rfl | rfl | rfl | rfl | hw
  · exact k_good h1
  · exact k_good h2
  · exact k_good h4
  · exact k_good h5
  · exact k_good hw
-- the words that a class and its nest share, and what every contract says
abbrev kTy (cyI cyB cyZ cyT : ClassId) : List (ClassId × FieldType) := [(cyI, .int), (cyB, .byte), (cyZ, .boolean), (cyT, .object RX4)]
def gN (U : State) : Prop := va_Nw (.methodLinkNest RX3 80 yX6_isThing RX6) U ∧ va_Nw (.methodLinkNest RX6 11 yX4_init RX6) U ∧ va_Nw (.methodLinkNest RX6 32 yX3_init RX6) U ∧ va_Nw (.methodLinkNest RX6 39 yX5_init RX6) U ∧ va_AO RX4 U
theorem gN.call {U : State} {g : JFrame} {mk : MethodId} {a : Array Value} (h : gN U) : gN (U.calling g mk a) := ⟨va_tabs rfl (rfl : U.vm = (U.calling g mk a).vm) h.1, va_tabs rfl (rfl : U.vm = (U.calling g mk a).vm) h.2.1, va_tabs rfl (rfl : U.vm = (U.calling g mk a).vm) h.2.2.1, va_tabs rfl (rfl : U.vm = (U.calling g mk a).vm) h.2.2.2.1, va_AO.moved (u := U) (U := U.calling g mk a) (Vm.Alike.refl U.vm) h.2.2.2.2⟩
theorem gN.warm {s U : State} (hW : s.WarmedH U.vm) (h : gN s) : gN U := ⟨va_Nw.warmM hW h.1, va_Nw.warmM hW h.2.1, va_Nw.warmM hW h.2.2.1, va_Nw.warmM hW h.2.2.2.1, va_AO.moved hW.alike h.2.2.2.2⟩
def isB (r : Int32) : Prop := narrow .boolean (.int r) = .int r
theorem isB_0 : isB 0 := rfl
theorem isB_1 : isB 1 := rfl
def kPc (D : va_G) (tys : List (ClassId × FieldType)) (WC : va_W) (pre : Prop) (sz : Nat) (U : State) : Prop := U.heap.size = sz ∧ va_P D vwCl WC U.heap ∧ va_K D vwCl tys U ∧ va_D (fun _ => True) WC ∧ gN U ∧ pre
def kB {S : Type} (D : va_G) (tys : List (ClassId × FieldType)) (W1 : S → va_W) (A : Nat → Prop) (u : S) (t : State) : Prop := va_P D vwCl (W1 u) t.heap ∧ va_K D vwCl tys t ∧ va_D A (W1 u)
def kMi {S : Type} (l : Launch) (y : MethodName) (ws : List Cond) (rm : Room) (D : va_G) (tys : List (ClassId × FieldType)) (av : List Value) (WC : va_W) (pre : Prop) (post : Int32 → S → Prop) (W1 : S → va_W) : Prop := ∀ sz : Nat, Met l y ws rm (va_Pc av (kPc D tys WC pre sz)) (va_Qi post (kB D tys W1 (va_A WC sz)) (va_A WC sz)) 0 0 (va_A WC sz)
def kMv {S : Type} (l : Launch) (y : MethodName) (ws : List Cond) (rm : Room) (D : va_G) (tys : List (ClassId × FieldType)) (av : List Value) (WC : va_W) (pre : Prop) (post : S → Prop) (W1 : S → va_W) : Prop := ∀ sz : Nat, Met l y ws rm (va_Pc av (kPc D tys WC pre sz)) (va_Qv post (kB D tys W1 (va_A WC sz)) (va_A WC sz)) 0 0 (va_A WC sz)
def kWd (D : va_G) (tys : List (ClassId × FieldType)) (ws : va_W) (A : Nat → Prop) (s : State) (H : Heap) (locs : List Loc) : Prop := va_K D vwCl tys s ∧ va_P D vwCl ws H ∧ va_D A ws ∧ va_S A s.heap H locs
def kCtx (cc : ByteArray) (ret : Option FieldType) (own : String) (maxL : Nat) (p : Program) (s : State) (m : MethodId) (args : Array Value) (meth : Method) (c : Code) (A : Nat → Prop) : Prop := p.tables.exec = Jvm.exec ∧ c.code = cc ∧ meth.sig.returnType = ret ∧ (∀ w ∈ kWs, w.before args s = true) ∧ s.vm.findClass own = some m.cls ∧ c.maxLocals = maxL ∧ meth.locks = false ∧ (∀ q : Nat, s.heap.size ≤ q → A q) ∧ gN s
theorem kMi.of {S : Type} {l : Launch} {y : MethodName} {rm : Room} {D : va_G} {tys : List (ClassId × FieldType)} {av : List Value} {WC : va_W} {pre : Prop} {post : Int32 → S → Prop} {W1 : S → va_W} {cc : ByteArray} {maxL : Nat} {ret : Option FieldType} (hy : plainName y.cls = true) (hlen : (lg_sl av).length ≤ maxL)
    (body : ∀ (p : Program) (e : Env) (s : State) (m : MethodId) (below : List Frame) (meth : Method) (c : Code) (A : Nat → Prop), kCtx cc ret y.cls maxL p s m av.toArray meth c A → pre → kWd D tys WC A s s.heap [] → ∀ ls : Array Slot, lv_has ls maxL (lv_args 0 av) → W p l e rm s m av.toArray below meth c s.heap [] 0 0 (MQ below (va_Qi post (kB D tys W1 A) A) av.toArray s 0 0 A) (F0 m 0 ls [])) : kMi l y (kM y cc maxL ret) rm D tys av WC pre post W1 := by
  intro sz
  refine Met.ofW (cc := cc) (maxL := maxL) (ret := ret) hy rfl ?_
  intro p e s m args below meth c s₁ B hml hv
  obtain ⟨rfl, hsz, hP, hK, hD0, hN, hpre⟩ := hv
  subst hsz
  have hl := lv_entry av (n := maxL) hlen
  rw [lg_entry_eq]
  exact body p e s m below meth c (va_A WC s.heap.size) ⟨B.exec, B.bytes, B.returns, fun w h => atoms_spec (ws := kM y cc maxL ret) B.pre w (List.mem_cons_of_mem _ h), findClass_of_methodNamed B.named, hml, B.notSynchronized, fun q h => Or.inr h, hN⟩ hpre ⟨hK, hP, hD0.self, va_S.rf⟩ _ hl
theorem kMv.of {S : Type} {l : Launch} {y : MethodName} {rm : Room} {D : va_G} {tys : List (ClassId × FieldType)} {av : List Value} {WC : va_W} {pre : Prop} {post : S → Prop} {W1 : S → va_W} {cc : ByteArray} {maxL : Nat} {ret : Option FieldType} (hy : plainName y.cls = true) (hlen : (lg_sl av).length ≤ maxL)
    (body : ∀ (p : Program) (e : Env) (s : State) (m : MethodId) (below : List Frame) (meth : Method) (c : Code) (A : Nat → Prop), kCtx cc ret y.cls maxL p s m av.toArray meth c A → pre → kWd D tys WC A s s.heap [] → ∀ ls : Array Slot, lv_has ls maxL (lv_args 0 av) → W p l e rm s m av.toArray below meth c s.heap [] 0 0 (MQ below (va_Qv post (kB D tys W1 A) A) av.toArray s 0 0 A) (F0 m 0 ls [])) : kMv l y (kM y cc maxL ret) rm D tys av WC pre post W1 := by
  intro sz
  refine Met.ofW (cc := cc) (maxL := maxL) (ret := ret) hy rfl ?_
  intro p e s m args below meth c s₁ B hml hv
  obtain ⟨rfl, hsz, hP, hK, hD0, hN, hpre⟩ := hv
  subst hsz
  have hl := lv_entry av (n := maxL) hlen
  rw [lg_entry_eq]
  exact body p e s m below meth c (va_A WC s.heap.size) ⟨B.exec, B.bytes, B.returns, fun w h => atoms_spec (ws := kM y cc maxL ret) B.pre w (List.mem_cons_of_mem _ h), findClass_of_methodNamed B.named, hml, B.notSynchronized, fun q h => Or.inr h, hN⟩ hpre ⟨hK, hP, hD0.self, va_S.rf⟩ _ hl
theorem kMi.no {S : Type} {l : Launch} {y : MethodName} {ws : List Cond} {rm : Room} {D : va_G} {tys : List (ClassId × FieldType)} {av : List Value} {WC : va_W} {pre : Prop} {post : Int32 → S → Prop} {W1 : S → va_W} (h : pre → False) : kMi l y ws rm D tys av WC pre post W1 := by
  intro sz p e ha hc hk s m args below hf hfit hpre
  exact (h hpre.2.2.2.2.2.2).elim
def kT (a b : Nat → Nat) : Nat → Option Nat := va_up (va_up (fun _ => none) 0 (some (a 0))) 1 (some (b 0))
theorem k_two {i : Int32} (h : i = (0 : Int32) ∨ i = (1 : Int32)) : vp_in i 2 := by
  rcases h with rfl | rfl
  · exact vp_in_nI (n := 0) (by decide) (by decide)
  · exact vp_in_nI (n := 1) (by decide) (by decide)
theorem k_fm {α β : Type} {f : α → Option β} : ∀ {is : List α} {ws : List β}, is.map f = ws.map some → is.filterMap f = ws
  | [], [], _ => rfl
  | [], _ :: _, h => by simp at h
  | _ :: _, [], h => by simp at h
  | i :: is, w :: ws, h => by
    simp only [List.map_cons, List.cons.injEq] at h
    rw [List.filterMap_cons_some h.1, k_fm h.2]
theorem k_blind {D : va_G} {tys : List (ClassId × FieldType)} {WC : va_W} {pre : Prop} {sz : Nat} {av : List Value} : FrameBlind (va_Pc av (kPc D tys WC pre sz)) := fun a U g mk q => by
  obtain ⟨q0, q1, qP, qK, qD, qN, qw⟩ := q
  exact ⟨q0, q1, qP, va_K.moved (u := U) (U := U.calling g mk a) (Vm.Alike.refl U.vm) qK, qD, qN.call, qw⟩
section KX
variable {S : Type} {p : Program} {l : Launch} {e : Env} {R : Room} {s : State} {m : MethodId} {args : Array Value} {below : List Frame} {meth : Method} {c : Code} {H : Heap} {locs : List Loc} {cells slots : Nat} {Q : State → Prop} {cc : ByteArray} {nL : Nat} {Ts : List Cond} {own C : String} {index maxL n pc : Nat} {y : MethodName} {bytes : ByteArray} {ret : Option FieldType} {ws : List Cond} {rm : Room} {D : va_G} {tys : List (ClassId × FieldType)} {b : Nat} {As rest st : List Value} {WC WS WR : va_W} {W1 WN : S → va_W} {pre : Prop} {A : Nat → Prop} {ls : Array Slot} {ci : Nat} {T : u_T} {N : Nat} {fs : List Value}
theorem kx_ai {av9 : Array Value} {post : Int32 → S → Prop} (hrun : va_Run p l e R s m args below meth c H locs cells slots 0 0 (F0 m pc ls st) rest (va_Qi post (kB D tys W1 (va_A WC H.size)) (va_A WC H.size) av9) (va_A WC H.size))
    (hW : kWd D tys WS A s H locs) (hA : ∀ q : Nat, s.heap.size ≤ q → A q) (isC isR perm : List Nat) (hC : isC.map (fun i => WS[i]?) = WC.map some) (hR : isR.map (fun i => WS[i]?) = WR.map some) (hRn : va_nd isR = true) (hdis : ∀ i ∈ isR, i ∉ isC) (hpn : va_nd perm = true) (hperm : ∀ u : S, perm.map (fun i => (WR ++ W1 u)[i]?) = (WN u).map some)
    (kk : ∀ (r : Int32) (u : S) (H1 : Heap) (locs1 : List Loc), post r u → kWd D tys (WN u) A s H1 locs1 → W p l e R s m args below meth c H1 locs1 cells slots Q (F0 m (pc + 3) ls (.int r :: rest))) : W p l e R s m args below meth c H locs cells slots Q (F0 m pc ls st) := by
  obtain ⟨hK, hP, hD, hS⟩ := hW
  have hFc := va_free (wc := WC) hD hS hA isC hC
  refine va_calli hrun hS (fun q _ h => hFc q h) hFc (fun r u t H1 locs1 ht hvm hw hB hz1 hk1 hS1 => ?_)
  obtain ⟨hP1, hK1, hD1⟩ := hB
  rw [ht] at hP1
  obtain ⟨hP2, hD2⟩ := va_join (wr := WR) (w1 := W1 u) hP hD isC isR hC hR hRn hdis hk1 hFc hP1 hD1
  exact kk r u H1 locs1 hw ⟨hK, hP2.sub perm (k_fm (hperm u)), hD2.sub perm hpn (hperm u), hS1⟩
theorem kx_av {av9 : Array Value} {post : S → Prop} (hrun : va_Run p l e R s m args below meth c H locs cells slots 0 0 (F0 m pc ls st) rest (va_Qv post (kB D tys W1 (va_A WC H.size)) (va_A WC H.size) av9) (va_A WC H.size))
    (hW : kWd D tys WS A s H locs) (hA : ∀ q : Nat, s.heap.size ≤ q → A q) (isC isR perm : List Nat) (hC : isC.map (fun i => WS[i]?) = WC.map some) (hR : isR.map (fun i => WS[i]?) = WR.map some) (hRn : va_nd isR = true) (hdis : ∀ i ∈ isR, i ∉ isC) (hpn : va_nd perm = true) (hperm : ∀ u : S, perm.map (fun i => (WR ++ W1 u)[i]?) = (WN u).map some)
    (kk : ∀ (u : S) (H1 : Heap) (locs1 : List Loc), post u → kWd D tys (WN u) A s H1 locs1 → W p l e R s m args below meth c H1 locs1 cells slots Q (F0 m (pc + 3) ls rest)) : W p l e R s m args below meth c H locs cells slots Q (F0 m pc ls st) := by
  obtain ⟨hK, hP, hD, hS⟩ := hW
  have hFc := va_free (wc := WC) hD hS hA isC hC
  refine va_callv hrun hS (fun q _ h => hFc q h) hFc (fun u t H1 locs1 ht hvm hw hB hz1 hk1 hS1 => ?_)
  obtain ⟨hP1, hK1, hD1⟩ := hB
  rw [ht] at hP1
  obtain ⟨hP2, hD2⟩ := va_join (wr := WR) (w1 := W1 u) hP hD isC isR hC hR hRn hdis hk1 hFc hP1 hD1
  exact kk u H1 locs1 hw ⟨hK, hP2.sub perm (k_fm (hperm u)), hD2.sub perm hpn (hperm u), hS1⟩
theorem kx_pre (hN : gN s) (hpre : pre) (hW : kWd D tys WS A s H locs) (isC : List Nat) (hC : isC.map (fun i => WS[i]?) = WC.map some) (hCn : va_nd isC = true) {av : List Value} : ∀ U : State, U.heap = H → s.WarmedH U.vm → va_Pc av (kPc D tys WC pre H.size) av.toArray U := fun U hU hWm => by
  obtain ⟨hK, hP, hD, hS⟩ := hW
  exact ⟨rfl, by rw [hU], by rw [hU]; exact hP.sub isC (k_fm hC), va_K.moved hWm.alike hK, (hD.sub isC hCn hC).weaken (fun _ _ _ _ => trivial), hN.warm hWm, hpre⟩
theorem kx_Vi {post : Int32 → S → Prop} (Sx : CallFix p m c cc nL s args Ts own) (hM : kMi l y ws rm D tys (.ref b :: As) WC pre post W1) (cw : CallW R s args own C index y bytes maxL ret ws rm 0 0 n) (hN : gN s) (hpre : pre) (hW : kWd D tys WS A s H locs) (hA : ∀ q : Nat, s.heap.size ≤ q → A q)
    (isC isR perm : List Nat) (hC : isC.map (fun i => WS[i]?) = WC.map some) (hCn : va_nd isC = true) (hR : isR.map (fun i => WS[i]?) = WR.map some) (hRn : va_nd isR = true) (hdis : ∀ i ∈ isR, i ∉ isC) (hpn : va_nd perm = true) (hperm : ∀ u : S, perm.map (fun i => (WR ++ W1 u)[i]?) = (WN u).map some)
    (hci : vwCl[ci]? = some (C, T, N)) (q0 : Nat) (hq0 : WC[q0]? = some (b, .inr (ci, fs))) (hn : As.length = n) (hsz : ls.size = nL) (hst : st = As.reverse ++ .ref b :: rest) (hroom : (rest.map fun v => v.category).sum ≤ 8) (hdg : decode cc pc = .ok (.invokevirtual index, 3)) (hf : cells + 0 ≤ R.cells ∧ slots + 0 ≤ R.slots)
    (kk : ∀ (r : Int32) (u : S) (H1 : Heap) (locs1 : List Loc), post r u → kWd D tys (WN u) A s H1 locs1 → W p l e R s m args below meth c H1 locs1 cells slots Q (F0 m (pc + 3) ls (.int r :: rest))) : W p l e R s m args below meth c H locs cells slots Q (F0 m pc ls st) := by
  have hrec := va_recv hW.1 (hW.2.1.sub isC (k_fm hC)) hci hq0
  exact kx_ai (va_runV (g := F0 m pc ls st) Sx (hM H.size) cw ⟨k_blind, hrec, kx_pre hN hpre hW isC hC hCn⟩ rfl hn hsz hst (lv_room hroom) hdg hf) hW hA isC isR perm hC hR hRn hdis hpn hperm kk
theorem kx_Vv {post : S → Prop} (Sx : CallFix p m c cc nL s args Ts own) (hM : kMv l y ws rm D tys (.ref b :: As) WC pre post W1) (cw : CallW R s args own C index y bytes maxL ret ws rm 0 0 n) (hN : gN s) (hpre : pre) (hW : kWd D tys WS A s H locs) (hA : ∀ q : Nat, s.heap.size ≤ q → A q)
    (isC isR perm : List Nat) (hC : isC.map (fun i => WS[i]?) = WC.map some) (hCn : va_nd isC = true) (hR : isR.map (fun i => WS[i]?) = WR.map some) (hRn : va_nd isR = true) (hdis : ∀ i ∈ isR, i ∉ isC) (hpn : va_nd perm = true) (hperm : ∀ u : S, perm.map (fun i => (WR ++ W1 u)[i]?) = (WN u).map some)
    (hci : vwCl[ci]? = some (C, T, N)) (q0 : Nat) (hq0 : WC[q0]? = some (b, .inr (ci, fs))) (hn : As.length = n) (hsz : ls.size = nL) (hst : st = As.reverse ++ .ref b :: rest) (hroom : (rest.map fun v => v.category).sum ≤ 8) (hdg : decode cc pc = .ok (.invokevirtual index, 3)) (hf : cells + 0 ≤ R.cells ∧ slots + 0 ≤ R.slots)
    (kk : ∀ (u : S) (H1 : Heap) (locs1 : List Loc), post u → kWd D tys (WN u) A s H1 locs1 → W p l e R s m args below meth c H1 locs1 cells slots Q (F0 m (pc + 3) ls rest)) : W p l e R s m args below meth c H locs cells slots Q (F0 m pc ls st) := by
  have hrec := va_recv hW.1 (hW.2.1.sub isC (k_fm hC)) hci hq0
  exact kx_av (va_runV (g := F0 m pc ls st) Sx (hM H.size) cw ⟨k_blind, hrec, kx_pre hN hpre hW isC hC hCn⟩ rfl hn hsz hst (lv_room hroom) hdg hf) hW hA isC isR perm hC hR hRn hdis hpn hperm kk
theorem kx_Si {post : Int32 → S → Prop} (Sx : CallFix p m c cc nL s args Ts own) (hM : kMi l y ws rm D tys As WC pre post W1) (cw : CallB R s args own index y bytes maxL ret ws rm 0 0 n ∧ (Cond.static y).before args s = true) (hN : gN s) (hpre : pre) (hW : kWd D tys WS A s H locs) (hA : ∀ q : Nat, s.heap.size ≤ q → A q)
    (isC isR perm : List Nat) (hC : isC.map (fun i => WS[i]?) = WC.map some) (hCn : va_nd isC = true) (hR : isR.map (fun i => WS[i]?) = WR.map some) (hRn : va_nd isR = true) (hdis : ∀ i ∈ isR, i ∉ isC) (hpn : va_nd perm = true) (hperm : ∀ u : S, perm.map (fun i => (WR ++ W1 u)[i]?) = (WN u).map some)
    (hn : As.length = n) (hsz : ls.size = nL) (hst : st = As.reverse ++ rest) (hroom : (rest.map fun v => v.category).sum ≤ 8) (hdg : decode cc pc = .ok (.invokestatic index, 3)) (hf : cells + 0 ≤ R.cells ∧ slots + 0 ≤ R.slots)
    (kk : ∀ (r : Int32) (u : S) (H1 : Heap) (locs1 : List Loc), post r u → kWd D tys (WN u) A s H1 locs1 → W p l e R s m args below meth c H1 locs1 cells slots Q (F0 m (pc + 3) ls (.int r :: rest))) : W p l e R s m args below meth c H locs cells slots Q (F0 m pc ls st) :=
  kx_ai (va_runS (g := F0 m pc ls st) Sx (hM H.size) cw ⟨k_blind, kx_pre hN hpre hW isC hC hCn⟩ rfl hn hsz hst (lv_room hroom) hdg hf) hW hA isC isR perm hC hR hRn hdis hpn hperm kk
theorem kx_Sv {post : S → Prop} (Sx : CallFix p m c cc nL s args Ts own) (hM : kMv l y ws rm D tys As WC pre post W1) (cw : CallB R s args own index y bytes maxL ret ws rm 0 0 n ∧ (Cond.static y).before args s = true) (hN : gN s) (hpre : pre) (hW : kWd D tys WS A s H locs) (hA : ∀ q : Nat, s.heap.size ≤ q → A q)
    (isC isR perm : List Nat) (hC : isC.map (fun i => WS[i]?) = WC.map some) (hCn : va_nd isC = true) (hR : isR.map (fun i => WS[i]?) = WR.map some) (hRn : va_nd isR = true) (hdis : ∀ i ∈ isR, i ∉ isC) (hpn : va_nd perm = true) (hperm : ∀ u : S, perm.map (fun i => (WR ++ W1 u)[i]?) = (WN u).map some)
    (hn : As.length = n) (hsz : ls.size = nL) (hst : st = As.reverse ++ rest) (hroom : (rest.map fun v => v.category).sum ≤ 8) (hdg : decode cc pc = .ok (.invokestatic index, 3)) (hf : cells + 0 ≤ R.cells ∧ slots + 0 ≤ R.slots)
    (kk : ∀ (u : S) (H1 : Heap) (locs1 : List Loc), post u → kWd D tys (WN u) A s H1 locs1 → W p l e R s m args below meth c H1 locs1 cells slots Q (F0 m (pc + 3) ls rest)) : W p l e R s m args below meth c H locs cells slots Q (F0 m pc ls st) :=
  kx_av (va_runS (g := F0 m pc ls st) Sx (hM H.size) cw ⟨k_blind, kx_pre hN hpre hW isC hC hCn⟩ rfl hn hsz hst (lv_room hroom) hdg hf) hW hA isC isR perm hC hR hRn hdis hpn hperm kk
theorem kx_SNi {post : Int32 → S → Prop} {host : String} (Sx : CallFix p m c cc nL s args Ts own) (hM : kMi l y ws rm D tys As WC pre post W1) (cw : va_CN R s args own index y host bytes maxL ret ws rm 0 0 n ∧ (Cond.static y).before args s = true ∧ True) (hN : gN s) (hpre : pre) (hW : kWd D tys WS A s H locs) (hA : ∀ q : Nat, s.heap.size ≤ q → A q)
    (isC isR perm : List Nat) (hC : isC.map (fun i => WS[i]?) = WC.map some) (hCn : va_nd isC = true) (hR : isR.map (fun i => WS[i]?) = WR.map some) (hRn : va_nd isR = true) (hdis : ∀ i ∈ isR, i ∉ isC) (hpn : va_nd perm = true) (hperm : ∀ u : S, perm.map (fun i => (WR ++ W1 u)[i]?) = (WN u).map some)
    (hn : As.length = n) (hsz : ls.size = nL) (hst : st = As.reverse ++ rest) (hroom : (rest.map fun v => v.category).sum ≤ 8) (hdg : decode cc pc = .ok (.invokestatic index, 3)) (hf : cells + 0 ≤ R.cells ∧ slots + 0 ≤ R.slots)
    (kk : ∀ (r : Int32) (u : S) (H1 : Heap) (locs1 : List Loc), post r u → kWd D tys (WN u) A s H1 locs1 → W p l e R s m args below meth c H1 locs1 cells slots Q (F0 m (pc + 3) ls (.int r :: rest))) : W p l e R s m args below meth c H locs cells slots Q (F0 m pc ls st) :=
  kx_ai (va_runSN (g := F0 m pc ls st) Sx (hM H.size) cw ⟨k_blind, kx_pre hN hpre hW isC hC hCn⟩ rfl hn hsz hst (lv_room hroom) hdg hf) hW hA isC isR perm hC hR hRn hdis hpn hperm kk
end KX
-- constructors: what they make is new
def kMn {S : Type} (l : Launch) (y : MethodName) (ws : List Cond) (rm : Room) (D : va_G) (tys : List (ClassId × FieldType)) (av : List Value) (WC : va_W) (mc ms : Nat) (post : S → Prop) (W1 : S → va_W) : Prop := ∀ sz : Nat, Met l y ws rm (va_Pc av (kPc D tys WC True sz)) (va_Qv post (kB D tys W1 (va_A WC sz)) (va_A WC sz)) mc ms (va_A WC sz)
theorem kMn.of {S : Type} {l : Launch} {y : MethodName} {rm : Room} {D : va_G} {tys : List (ClassId × FieldType)} {av : List Value} {WC : va_W} {mc ms : Nat} {post : S → Prop} {W1 : S → va_W} {cc : ByteArray} {maxL : Nat} {ret : Option FieldType} (hy : plainName y.cls = true) (hlen : (lg_sl av).length ≤ maxL)
    (body : ∀ (p : Program) (e : Env) (s : State) (m : MethodId) (below : List Frame) (meth : Method) (c : Code) (A : Nat → Prop), kCtx cc ret y.cls maxL p s m av.toArray meth c A → meth.name = y.name → kWd D tys WC A s s.heap [] → ∀ ls : Array Slot, lv_has ls maxL (lv_args 0 av) → W p l e rm s m av.toArray below meth c s.heap [] 0 0 (MQ below (va_Qv post (kB D tys W1 A) A) av.toArray s mc ms A) (F0 m 0 ls [])) : kMn l y (kM y cc maxL ret) rm D tys av WC mc ms post W1 := by
  intro sz
  refine Met.ofW (cc := cc) (maxL := maxL) (ret := ret) hy rfl ?_
  intro p e s m args below meth c s₁ B hml hv
  obtain ⟨rfl, hsz, hP, hK, hD0, hN, -⟩ := hv
  subst hsz
  have hl := lv_entry av (n := maxL) hlen
  rw [lg_entry_eq]
  exact body p e s m below meth c (va_A WC s.heap.size) ⟨B.exec, B.bytes, B.returns, fun w h => atoms_spec (ws := kM y cc maxL ret) B.pre w (List.mem_cons_of_mem _ h), findClass_of_methodNamed B.named, hml, B.notSynchronized, fun q h => Or.inr h, hN⟩ (name_of_methodNamed B.named B.method).1 ⟨hK, hP, hD0.self, va_S.rf⟩ _ hl
theorem k_same {D : va_G} {tys : List (ClassId × FieldType)} {s : State} {c1 c2 : ClassId} (hK : va_K D vwCl tys s) (i j : Nat) {ty : FieldType} (hty : refKind ty = false) (h1 : tys[i]? = some (c1, ty)) (h2 : tys[j]? = some (c2, ty)) : c1 = c2 := by
  have a := (hK.2 i _ h1).2
  have b := (hK.2 j _ h2).2
  cases ty with
  | object C => simp [refKind] at hty
  | _ => exact Option.some.inj ((show s.vm.findClass _ = some c1 from a).symm.trans (show s.vm.findClass _ = some c2 from b))
theorem k_sameT {D : va_G} {tys : List (ClassId × FieldType)} {s : State} {c1 c2 : ClassId} {C : String} (hK : va_K D vwCl tys s) (i j : Nat) (h1 : tys[i]? = some (c1, .object C)) (h2 : tys[j]? = some (c2, .object C)) : c1 = c2 := by
  obtain ⟨_, _, _, _, _, a⟩ := (hK.2 i _ h1).2
  obtain ⟨_, _, _, _, _, b⟩ := (hK.2 j _ h2).2
  exact Option.some.inj (a.symm.trans b)
section KXI
variable {S : Type} {p : Program} {l : Launch} {e : Env} {R : Room} {s : State} {m : MethodId} {args : Array Value} {below : List Frame} {meth : Method} {c : Code} {H : Heap} {locs : List Loc} {cells slots : Nat} {Q : State → Prop} {cc : ByteArray} {nL : Nat} {Ts : List Cond} {own C : String} {index maxL n pc mc ms : Nat} {y : MethodName} {bytes : ByteArray} {ret : Option FieldType} {ws : List Cond} {rm : Room} {D : va_G} {tys : List (ClassId × FieldType)} {b : Nat} {As rest st : List Value} {WC WS WR : va_W} {W1 : S → va_W} {A : Nat → Prop} {ls : Array Slot}
theorem kx_an {av9 : Array Value} {post : S → Prop} (hrun : va_Run p l e R s m args below meth c H locs cells slots mc ms (F0 m pc ls st) rest (va_Qv post (kB D tys W1 (va_A WC H.size)) (va_A WC H.size) av9) (va_A WC H.size))
    (hW : kWd D tys WS A s H locs) (hA : ∀ q : Nat, s.heap.size ≤ q → A q) (isC isR : List Nat) (hC : isC.map (fun i => WS[i]?) = WC.map some) (hR : isR.map (fun i => WS[i]?) = WR.map some) (hRn : va_nd isR = true) (hdis : ∀ i ∈ isR, i ∉ isC)
    (kk : ∀ (u : S) (H1 : Heap) (locs1 : List Loc), post u → kWd D tys (WR ++ W1 u) A s H1 locs1 → W p l e R s m args below meth c H1 locs1 (cells + mc) (slots + ms) Q (F0 m (pc + 3) ls rest)) : W p l e R s m args below meth c H locs cells slots Q (F0 m pc ls st) := by
  obtain ⟨hK, hP, hD, hS⟩ := hW
  have hFc := va_free (wc := WC) hD hS hA isC hC
  refine va_callv hrun hS (fun q _ h => hFc q h) hFc (fun u t H1 locs1 ht hvm hw hB hz1 hk1 hS1 => ?_)
  obtain ⟨hP1, hK1, hD1⟩ := hB
  rw [ht] at hP1
  obtain ⟨hP2, hD2⟩ := va_join (wr := WR) (w1 := W1 u) hP hD isC isR hC hR hRn hdis hk1 hFc hP1 hD1
  exact kk u H1 locs1 hw ⟨hK, hP2, hD2, hS1⟩
theorem kx_I {post : S → Prop} (Sx : CallFix p m c cc nL s args Ts own) (hM : kMn l y ws rm D tys (.ref b :: As) WC mc ms post W1) (cw : CallB R s args own index y bytes maxL none ws rm mc ms n ∧ y.name = "<init>" ∧ (Cond.instanceMethod y).before args s = true) (hN : gN s) (hW : kWd D tys WS A s H locs) (hA : ∀ q : Nat, s.heap.size ≤ q → A q)
    (isC isR : List Nat) (hC : isC.map (fun i => WS[i]?) = WC.map some) (hCn : va_nd isC = true) (hR : isR.map (fun i => WS[i]?) = WR.map some) (hRn : va_nd isR = true) (hdis : ∀ i ∈ isR, i ∉ isC)
    (hn : As.length = n) (hsz : ls.size = nL) (hst : st = As.reverse ++ .ref b :: rest) (hroom : (rest.map fun v => v.category).sum ≤ 8) (hdg : decode cc pc = .ok (.invokespecial index, 3)) (hf : cells + mc ≤ R.cells ∧ slots + ms ≤ R.slots)
    (kk : ∀ (u : S) (H1 : Heap) (locs1 : List Loc), post u → kWd D tys (WR ++ W1 u) A s H1 locs1 → W p l e R s m args below meth c H1 locs1 (cells + mc) (slots + ms) Q (F0 m (pc + 3) ls rest)) : W p l e R s m args below meth c H locs cells slots Q (F0 m pc ls st) :=
  kx_an (va_runI (g := F0 m pc ls st) Sx (hM H.size) cw ⟨k_blind, kx_pre hN trivial hW isC hC hCn⟩ rfl hn hsz hst (lv_room hroom) hdg hf) hW hA isC isR hC hR hRn hdis kk
theorem kx_IN {post : S → Prop} {host : String} (Sx : CallFix p m c cc nL s args Ts own) (hM : kMn l y ws rm D tys (.ref b :: As) WC mc ms post W1) (cw : va_CN R s args own index y host bytes maxL none ws rm mc ms n ∧ y.name = "<init>" ∧ (Cond.instanceMethod y).before args s = true) (hN : gN s) (hW : kWd D tys WS A s H locs) (hA : ∀ q : Nat, s.heap.size ≤ q → A q)
    (isC isR : List Nat) (hC : isC.map (fun i => WS[i]?) = WC.map some) (hCn : va_nd isC = true) (hR : isR.map (fun i => WS[i]?) = WR.map some) (hRn : va_nd isR = true) (hdis : ∀ i ∈ isR, i ∉ isC)
    (hn : As.length = n) (hsz : ls.size = nL) (hst : st = As.reverse ++ .ref b :: rest) (hroom : (rest.map fun v => v.category).sum ≤ 8) (hdg : decode cc pc = .ok (.invokespecial index, 3)) (hf : cells + mc ≤ R.cells ∧ slots + ms ≤ R.slots)
    (kk : ∀ (u : S) (H1 : Heap) (locs1 : List Loc), post u → kWd D tys (WR ++ W1 u) A s H1 locs1 → W p l e R s m args below meth c H1 locs1 (cells + mc) (slots + ms) Q (F0 m (pc + 3) ls rest)) : W p l e R s m args below meth c H locs cells slots Q (F0 m pc ls st) :=
  kx_an (va_runIN (g := F0 m pc ls st) Sx (hM H.size) cw ⟨k_blind, kx_pre hN trivial hW isC hC hCn⟩ rfl hn hsz hst (lv_room hroom) hdg hf) hW hA isC isR hC hR hRn hdis kk
end KXI
abbrev SX0 : Type := (Nat → Int32) × (Nat → Int32) × (Nat → Int32) × (Nat → Int32) × (Nat → Int32) × (Nat → Int32) × (Nat → Int32) × Int32 × Int32 × Int32
abbrev SX0.x_turnFrom (g : SX0) : (Nat → Int32) := g.1
abbrev SX0.x_turnTo (g : SX0) : (Nat → Int32) := g.2.1
abbrev SX0.x_roundEnd (g : SX0) : (Nat → Int32) := g.2.2.1
abbrev SX0.x_roundLanes (g : SX0) : (Nat → Int32) := g.2.2.2.1
abbrev SX0.x_apartOne (g : SX0) : (Nat → Int32) := g.2.2.2.2.1
abbrev SX0.x_apartOther (g : SX0) : (Nat → Int32) := g.2.2.2.2.2.1
abbrev SX0.x_firstEnd (g : SX0) : (Nat → Int32) := g.2.2.2.2.2.2.1
abbrev SX0.x_turns (g : SX0) : Int32 := g.2.2.2.2.2.2.2.1
abbrev SX0.x_rounds (g : SX0) : Int32 := g.2.2.2.2.2.2.2.2.1
abbrev SX0.x_aparts (g : SX0) : Int32 := g.2.2.2.2.2.2.2.2.2
abbrev SX1 : Type := (Nat → Int32) × (Nat → Int32) × (Nat → Int32) × (Nat → Int32) × (Nat → Int32) × (Nat → Int32) × (Nat → Int32) × (Nat → Int32) × (Nat → Int32) × Int32 × Int32 × Int32
abbrev SX1.x_root (g : SX1) : (Nat → Int32) := g.1
abbrev SX1.x_fellow (g : SX1) : (Nat → Int32) := g.2.1
abbrev SX1.x_weight (g : SX1) : (Nat → Int32) := g.2.2.1
abbrev SX1.x_on (g : SX1) : (Nat → Int32) := g.2.2.2.1
abbrev SX1.x_before (g : SX1) : (Nat → Int32) := g.2.2.2.2.1
abbrev SX1.x_mate (g : SX1) : (Nat → Int32) := g.2.2.2.2.2.1
abbrev SX1.x_home (g : SX1) : (Nat → Int32) := g.2.2.2.2.2.2.1
abbrev SX1.x_absorbed (g : SX1) : (Nat → Int32) := g.2.2.2.2.2.2.2.1
abbrev SX1.x_place (g : SX1) : (Nat → Int32) := g.2.2.2.2.2.2.2.2.1
abbrev SX1.x_used (g : SX1) : Int32 := g.2.2.2.2.2.2.2.2.2.1
abbrev SX1.x_places (g : SX1) : Int32 := g.2.2.2.2.2.2.2.2.2.2.1
abbrev SX1.x_waiting (g : SX1) : Int32 := g.2.2.2.2.2.2.2.2.2.2.2
abbrev SX2 : Type := (Nat → Int32) × (Nat → Int32) × (Nat → Int32) × (Nat → Int32) × Int32 × Int32
abbrev SX2.x_verdict (g : SX2) : (Nat → Int32) := g.1
abbrev SX2.x_tryOne (g : SX2) : (Nat → Int32) := g.2.1
abbrev SX2.x_tryOther (g : SX2) : (Nat → Int32) := g.2.2.1
abbrev SX2.x_chosen (g : SX2) : (Nat → Int32) := g.2.2.2.1
abbrev SX2.x_tries (g : SX2) : Int32 := g.2.2.2.2.1
abbrev SX2.x_least (g : SX2) : Int32 := g.2.2.2.2.2
abbrev SX3 : Type := (Nat → Int32)
abbrev SX4 : Type := (Nat → Int32) × (Nat → Int32) × (Nat → Int32) × Int32 × Int32
abbrev SX4.x_bytes (g : SX4) : (Nat → Int32) := g.1
abbrev SX4.x_start (g : SX4) : (Nat → Int32) := g.2.1
abbrev SX4.x_turnings (g : SX4) : (Nat → Int32) := g.2.2.1
abbrev SX4.x_length (g : SX4) : Int32 := g.2.2.2.1
abbrev SX4.x_walks (g : SX4) : Int32 := g.2.2.2.2
abbrev SX5 : Type := (Nat → Int32) × (Nat → Int32) × (Nat → Int32) × (Nat → Int32) × (Nat → Int32) × (Nat → Int32) × (Nat → Int32) × (Nat → Int32) × (Nat → Int32) × (Nat → Int32) × Int32 × Int32 × Int32
abbrev SX5.x_first (g : SX5) : (Nat → Int32) := g.1
abbrev SX5.x_round (g : SX5) : (Nat → Int32) := g.2.1
abbrev SX5.x_cornerAt (g : SX5) : (Nat → Int32) := g.2.2.1
abbrev SX5.x_numberOf (g : SX5) : (Nat → Int32) := g.2.2.2.1
abbrev SX5.x_claimed (g : SX5) : (Nat → Int32) := g.2.2.2.2.1
abbrev SX5.x_queue (g : SX5) : (Nat → Int32) := g.2.2.2.2.2.1
abbrev SX5.x_wayFrom (g : SX5) : (Nat → Int32) := g.2.2.2.2.2.2.1
abbrev SX5.x_wayTurning (g : SX5) : (Nat → Int32) := g.2.2.2.2.2.2.2.1
abbrev SX5.x_wayLength (g : SX5) : (Nat → Int32) := g.2.2.2.2.2.2.2.2.1
abbrev SX5.x_part (g : SX5) : (Nat → Int32) := g.2.2.2.2.2.2.2.2.2.1
abbrev SX5.x_cornersNow (g : SX5) : Int32 := g.2.2.2.2.2.2.2.2.2.2.1
abbrev SX5.x_standing (g : SX5) : Int32 := g.2.2.2.2.2.2.2.2.2.2.2.1
abbrev SX5.x_barringWalk (g : SX5) : Int32 := g.2.2.2.2.2.2.2.2.2.2.2.2
abbrev SX6 : Type := (Nat → Int32) × (Nat → Int32) × Int32 × Int32 × Int32 × Int32
abbrev SX6.x_keptDoubts (g : SX6) : (Nat → Int32) := g.1
abbrev SX6.x_clash (g : SX6) : (Nat → Int32) := g.2.1
abbrev SX6.x_keptNow (g : SX6) : Int32 := g.2.2.1
abbrev SX6.x_doubted (g : SX6) : Int32 := g.2.2.2.1
abbrev SX6.x_fewestDoubts (g : SX6) : Int32 := g.2.2.2.2.1
abbrev SX6.x_settled (g : SX6) : Int32 := g.2.2.2.2.2
abbrev SX7_text : Type := Int32 × (Nat → Int32)
abbrev SX7_text.x_length (g : SX7_text) : Int32 := g.1
abbrev SX7_text.x_text (g : SX7_text) : (Nat → Int32) := g.2
abbrev SX7_laid : Type := (Nat → Int32) × (Nat → Int32) × (Nat → Int32) × Int32
abbrev SX7_laid.x_laidLong (g : SX7_laid) : (Nat → Int32) := g.1
abbrev SX7_laid.x_laid (g : SX7_laid) : (Nat → Int32) := g.2.1
abbrev SX7_laid.x_doubted (g : SX7_laid) : (Nat → Int32) := g.2.2.1
abbrev SX7_laid.x_keptMany (g : SX7_laid) : Int32 := g.2.2.2
abbrev SX7_ends : Type := Int32 × (Nat → Int32) × (Nat → Int32) × (Nat → Int32) × (Nat → Int32)
abbrev SX7_ends.x_endMany (g : SX7_ends) : Int32 := g.1
abbrev SX7_ends.x_lead (g : SX7_ends) : (Nat → Int32) := g.2.1
abbrev SX7_ends.x_on (g : SX7_ends) : (Nat → Int32) := g.2.2.1
abbrev SX7_ends.x_back (g : SX7_ends) : (Nat → Int32) := g.2.2.2.1
abbrev SX7_ends.x_other (g : SX7_ends) : (Nat → Int32) := g.2.2.2.2
abbrev SX7_due : Type := Int32 × (Nat → Int32)
abbrev SX7_due.x_dueMany (g : SX7_due) : Int32 := g.1
abbrev SX7_due.x_due (g : SX7_due) : (Nat → Int32) := g.2
abbrev SX7_rec : Type := Int32 × (Nat → Int32) × Int32 × (Nat → Int32) × Int32 × (Nat → Int32) × Int32 × (Nat → Int32) × (Nat → Int32)
abbrev SX7_rec.x_stopMany (g : SX7_rec) : Int32 := g.1
abbrev SX7_rec.x_stops (g : SX7_rec) : (Nat → Int32) := g.2.1
abbrev SX7_rec.x_turnMany (g : SX7_rec) : Int32 := g.2.2.1
abbrev SX7_rec.x_turns (g : SX7_rec) : (Nat → Int32) := g.2.2.2.1
abbrev SX7_rec.x_ringMany (g : SX7_rec) : Int32 := g.2.2.2.2.1
abbrev SX7_rec.x_rings (g : SX7_rec) : (Nat → Int32) := g.2.2.2.2.2.1
abbrev SX7_rec.x_unlikeMany (g : SX7_rec) : Int32 := g.2.2.2.2.2.2.1
abbrev SX7_rec.x_unlike (g : SX7_rec) : (Nat → Int32) := g.2.2.2.2.2.2.2.1
abbrev SX7_rec.x_first (g : SX7_rec) : (Nat → Int32) := g.2.2.2.2.2.2.2.2
abbrev SX7_cor : Type := (Nat → Int32) × Int32
abbrev SX7_cor.x_cornerOf (g : SX7_cor) : (Nat → Int32) := g.1
abbrev SX7_cor.x_cornerMany (g : SX7_cor) : Int32 := g.2
abbrev SX7_town : Type := Int32 × Int32 × (Nat → Int32) × (Nat → Int32) × (Nat → Int32) × (Nat → Int32) × (Nat → Int32) × Int32 × (Nat → Int32) × Int32 × (Nat → Int32) × Int32 × (Nat → Int32)
abbrev SX7_town.x_townEnds (g : SX7_town) : Int32 := g.1
abbrev SX7_town.x_townCorners (g : SX7_town) : Int32 := g.2.1
abbrev SX7_town.x_townOn (g : SX7_town) : (Nat → Int32) := g.2.2.1
abbrev SX7_town.x_townBack (g : SX7_town) : (Nat → Int32) := g.2.2.2.1
abbrev SX7_town.x_townOther (g : SX7_town) : (Nat → Int32) := g.2.2.2.2.1
abbrev SX7_town.x_townCorner (g : SX7_town) : (Nat → Int32) := g.2.2.2.2.2.1
abbrev SX7_town.x_townFirst (g : SX7_town) : (Nat → Int32) := g.2.2.2.2.2.2.1
abbrev SX7_town.x_townTurns (g : SX7_town) : Int32 := g.2.2.2.2.2.2.2.1
abbrev SX7_town.x_townTurn (g : SX7_town) : (Nat → Int32) := g.2.2.2.2.2.2.2.2.1
abbrev SX7_town.x_townRings (g : SX7_town) : Int32 := g.2.2.2.2.2.2.2.2.2.1
abbrev SX7_town.x_townRing (g : SX7_town) : (Nat → Int32) := g.2.2.2.2.2.2.2.2.2.2.1
abbrev SX7_town.x_townUnlikes (g : SX7_town) : Int32 := g.2.2.2.2.2.2.2.2.2.2.2.1
abbrev SX7_town.x_townUnlike (g : SX7_town) : (Nat → Int32) := g.2.2.2.2.2.2.2.2.2.2.2.2
abbrev SX7_tmp : Type := (Nat → Int32) × (Nat → Int32)
abbrev SX7_tmp.x_small (g : SX7_tmp) : (Nat → Int32) := g.1
abbrev SX7_tmp.x_numberOf (g : SX7_tmp) : (Nat → Int32) := g.2
abbrev SX7_part : Type := (Nat → Int32) × (Nat → Int32)
abbrev SX7_part.x_partOf (g : SX7_part) : (Nat → Int32) := g.1
abbrev SX7_part.x_seen (g : SX7_part) : (Nat → Int32) := g.2
abbrev SX7_keep : Type := (Nat → Int32) × (Nat → Int32) × (Nat → Int32) × (Nat → Int32) × (Nat → Int32)
abbrev SX7_keep.x_keepLead (g : SX7_keep) : (Nat → Int32) := g.1
abbrev SX7_keep.x_keepOn (g : SX7_keep) : (Nat → Int32) := g.2.1
abbrev SX7_keep.x_keepBack (g : SX7_keep) : (Nat → Int32) := g.2.2.1
abbrev SX7_keep.x_keepOther (g : SX7_keep) : (Nat → Int32) := g.2.2.2.1
abbrev SX7_keep.x_keepPair (g : SX7_keep) : (Nat → Int32) := g.2.2.2.2
abbrev SX7_way : Type := (Nat → Int32) × (Nat → Int32) × (Nat → Int32)
abbrev SX7_way.x_queue (g : SX7_way) : (Nat → Int32) := g.1
abbrev SX7_way.x_cameFrom (g : SX7_way) : (Nat → Int32) := g.2.1
abbrev SX7_way.x_cameBy (g : SX7_way) : (Nat → Int32) := g.2.2
