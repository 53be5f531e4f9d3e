/-! The layer: one situation 'qa_S' for a world that a state x of type QX pictures; returns, calls, and the way from a walk to a contract. -/
/-- a state: int fields, long fields, int (or boolean) arrays, long arrays, each by number -/
abbrev QX : Type := (Nat → Int32) × (Nat → Int64) × (Nat → Nat → Int32) × (Nat → Nat → Int64)
def sI (x : QX) (k : Nat) (v : Int32) : QX := (va_up x.1 k v, x.2.1, x.2.2.1, x.2.2.2)
def sL (x : QX) (k : Nat) (v : Int64) : QX := (x.1, va_up x.2.1 k v, x.2.2.1, x.2.2.2)
def sA (x : QX) (k : Nat) (f : Nat → Int32) : QX := (x.1, x.2.1, va_up x.2.2.1 k f, x.2.2.2)
def sB (x : QX) (k : Nat) (f : Nat → Int64) : QX := (x.1, x.2.1, x.2.2.1, va_up x.2.2.2 k f)
def gI (x : QX) (k : Nat) : Int32 := x.1 k
def gL (x : QX) (k : Nat) : Int64 := x.2.1 k
def gA (x : QX) (k : Nat) : Nat → Int32 := x.2.2.1 k
def gB (x : QX) (k : Nat) : Nat → Int64 := x.2.2.2 k
/-- the words that hold at every method: the good ones of the tables -/
def qa_WG : List Cond := lw_tbl.filter goodWord
theorem qa_in {w : Cond} (h : w ∈ lw_tbl) (g : goodWord w = true) : w ∈ qa_WG := List.mem_filter.mpr ⟨h, g⟩
theorem qa_good {pre : List Cond} {c2 : Cond} (h2 : c2 ∈ qa_WG) (hp : ∀ w ∈ pre, w ∈ qa_WG) : GoodIn qa_WG (pre ++ (c2 :: qa_WG)) := by
  intro w hw
  have h : w ∈ qa_WG := by
    rcases List.mem_append.mp hw with h | h
    · exact hp w h
    · rcases List.mem_cons.mp h with h | h
      · rw [h]; exact h2
      · exact h
  exact ⟨h, good_of_word (List.mem_filter.mp h).2⟩
/-- words of nest mates go beside -/
def qa_nest : Cond → Bool
  | .fieldLinkNest .. => true
  | .methodLinkNest .. => true
  | _ => false
def qa_NW : List Cond := lw_tbl.filter qa_nest
def qa_N (U : State) : Prop := ∀ w ∈ qa_NW, va_Nw w U
theorem qa_nin {w : Cond} (h : w ∈ lw_tbl) (g : qa_nest w = true) : w ∈ qa_NW := List.mem_filter.mpr ⟨h, g⟩
theorem qa_N.warm {s U : State} (hW : s.WarmedH U.vm) (h : qa_N s) : qa_N U := by
  intro w hw
  have h1 := (List.mem_filter.mp hw).2
  have h2 := h w hw
  cases w <;> first | (simp [qa_nest] at h1; done) | exact va_Nw.warmF hW h2 | exact va_Nw.warmM hW h2
theorem qa_N.same {s U : State} (hv : s.vm = U.vm) (h : qa_N s) : qa_N U := by
  intro w hw
  have h1 := (List.mem_filter.mp hw).2
  have h2 := h w hw
  cases w <;> first | (simp [qa_nest] at h1; done) | exact va_Nw.same rfl hv h2
theorem qa_range (ws : va_W) : (List.range ws.length).map (fun i => ws[i]?) = ws.map some := by
  apply List.ext_getElem?
  intro i
  by_cases h : i < ws.length
  · simp [h]
  · simp [h]
def qa_S (D : va_G) (cl : List vw_C) (tys : List (ClassId × FieldType)) {X : Type} (wf : X → va_W) (A : Nat → Prop) (s : State) (x : X) (H : Heap) (locs : List Loc) : Prop :=
  va_P D cl (wf x) H ∧ va_D A (wf x) ∧ va_K D cl tys s ∧ va_S A s.heap H locs ∧ (∀ q : Nat, s.heap.size ≤ q → A q) ∧ qa_N s
def qa_B (D : va_G) (cl : List vw_C) (tys : List (ClassId × FieldType)) {X : Type} (wf : X → va_W) (A : Nat → Prop) (x : X) (t : State) : Prop :=
  va_P D cl (wf x) t.heap ∧ va_K D cl tys t ∧ va_D A (wf x)
def qa_Pre (D : va_G) (cl : List vw_C) (tys : List (ClassId × FieldType)) {X : Type} (wf : X → va_W) (vs : List Value) (x : X) (sz : Nat) : Array Value → State → Prop :=
  va_Pc vs (fun U => U.heap.size = sz ∧ va_P D cl (wf x) U.heap ∧ va_K D cl tys U ∧ va_D (fun _ => True) (wf x) ∧ qa_N U)
/-- contracts over a whole world: int (also boolean), long, void -/
abbrev qa_Ci (l : Launch) (y : MethodName) (ws : List Cond) (rm : Room) (D : va_G) (cl : List vw_C) (tys : List (ClassId × FieldType)) {X : Type} (wf : X → va_W) (vs : List Value) (x : X) (post : Int32 → X → Prop) : Prop :=
  ∀ sz : Nat, Met l y ws rm (qa_Pre D cl tys wf vs x sz) (va_Qi post (qa_B D cl tys wf (va_A (wf x) sz)) (va_A (wf x) sz)) 0 0 (va_A (wf x) sz)
abbrev qa_Cl (l : Launch) (y : MethodName) (ws : List Cond) (rm : Room) (D : va_G) (cl : List vw_C) (tys : List (ClassId × FieldType)) {X : Type} (wf : X → va_W) (vs : List Value) (x : X) (post : Int64 → X → Prop) : Prop :=
  ∀ sz : Nat, Met l y ws rm (qa_Pre D cl tys wf vs x sz) (va_Ql post (qa_B D cl tys wf (va_A (wf x) sz)) (va_A (wf x) sz)) 0 0 (va_A (wf x) sz)
abbrev qa_Cv (l : Launch) (y : MethodName) (ws : List Cond) (rm : Room) (D : va_G) (cl : List vw_C) (tys : List (ClassId × FieldType)) {X : Type} (wf : X → va_W) (vs : List Value) (x : X) (post : X → Prop) : Prop :=
  ∀ sz : Nat, Met l y ws rm (qa_Pre D cl tys wf vs x sz) (va_Qv post (qa_B D cl tys wf (va_A (wf x) sz)) (va_A (wf x) sz)) 0 0 (va_A (wf x) sz)
/-- what stays fixed in a walk -/
def qa_X (p : Program) (s : State) (m : MethodId) (args : Array Value) (meth : Method) (c : Code) (cc : ByteArray) (nL : Nat) (ret : Option FieldType) (own : String) : Prop :=
  p.tables.exec = Jvm.exec ∧ c.code = cc ∧ c.maxLocals = nL ∧ meth.sig.returnType = ret ∧ (∀ w ∈ qa_WG, w.before args s = true) ∧ s.vm.findClass own = some m.cls ∧ meth.locks = false
section QA
variable {p : Program} {l : Launch} {e : Env} {R : Room} {s : State} {m : MethodId} {args : Array Value} {below : List Frame} {meth : Method} {c : Code} {H : Heap} {locs : List Loc} {Q : State → Prop}
variable {D : va_G} {cl : List vw_C} {tys : List (ClassId × FieldType)} {X : Type} {wf : X → va_W} {A : Nat → Prop} {x : X}
variable {cc : ByteArray} {nL : Nat} {own : String} {pc : Nat} {ls : Array Slot} {rest st0 : List Value}
theorem qa_blind {vs : List Value} {sz : Nat} : FrameBlind (qa_Pre D cl tys wf vs x sz) := by
  intro a U g mk q
  obtain ⟨q0, q1, qP, qK, qD, qN⟩ := q
  exact ⟨q0, q1, qP, va_K.moved (u := U) (U := U.calling g mk a) (Vm.Alike.refl U.vm) qK, qD, qa_N.same (s := U) (U := U.calling g mk a) rfl qN⟩
theorem qa_pre {vs : List Value} (S : qa_S D cl tys wf A s x H locs) (U : State) (hU : U.heap = H) (hW : s.WarmedH U.vm) : qa_Pre D cl tys wf vs x H.size vs.toArray U := by
  obtain ⟨hP, hD, hK, -, -, hN⟩ := S
  exact ⟨rfl, by rw [hU], by rw [hU]; exact hP, va_K.moved hW.alike hK, hD.weaken (fun _ _ _ _ => trivial), hN.warm hW⟩
theorem qa_reti (C : qa_X p s m args meth c cc nL (some .int) own) (S : qa_S D cl tys wf A s x H locs) {post : Int32 → X → Prop} {v : Int32} (hp : post v x) (hdg : decode cc pc = .ok (.ireturn, 1)) :
    W p l e R s m args below meth c H locs 0 0 (MQ below (va_Qi post (qa_B D cl tys wf A) A) args s 0 0 A) (F0 m pc ls [.int v]) := by
  obtain ⟨hx, hb, -, hr, -, -, hlk⟩ := C
  obtain ⟨hP, hD, hK, hS, -, -⟩ := S
  exact W.iret hx hb hr (fun t ht hW => ⟨⟨v, x, rfl, hp, by rw [ht]; exact hP, va_K.moved hW.alike hK, hD⟩, hS.F ht⟩) hS.2.2 hdg (hlocks := hlk)
theorem qa_retz (C : qa_X p s m args meth c cc nL (some .boolean) own) (S : qa_S D cl tys wf A s x H locs) {post : Int32 → X → Prop} {v : Int32} (hp : vp_nar .boolean v = v ∧ post v x) (hdg : decode cc pc = .ok (.ireturn, 1)) :
    W p l e R s m args below meth c H locs 0 0 (MQ below (va_Qi post (qa_B D cl tys wf A) A) args s 0 0 A) (F0 m pc ls [.int v]) := by
  obtain ⟨hx, hb, -, hr, -, -, hlk⟩ := C
  obtain ⟨hP, hD, hK, hS, -, -⟩ := S
  have hn : narrow .boolean (.int v) = .int v := by
    have h1 : narrow .boolean (.int v) = .int (vp_nar .boolean v) := rfl
    rw [h1, hp.1]
  exact W.zret hx hb hr hn (fun t ht hW => ⟨⟨v, x, rfl, hp.2, by rw [ht]; exact hP, va_K.moved hW.alike hK, hD⟩, hS.F ht⟩) hS.2.2 hdg (hlocks := hlk)
theorem qa_retl (C : qa_X p s m args meth c cc nL (some .long) own) (S : qa_S D cl tys wf A s x H locs) {post : Int64 → X → Prop} {v : Int64} (hp : post v x) (hdg : decode cc pc = .ok (.lreturn, 1)) :
    W p l e R s m args below meth c H locs 0 0 (MQ below (va_Ql post (qa_B D cl tys wf A) A) args s 0 0 A) (F0 m pc ls [.long v]) := by
  obtain ⟨hx, hb, -, hr, -, -, hlk⟩ := C
  obtain ⟨hP, hD, hK, hS, -, -⟩ := S
  exact W.lret hx hb hr (fun t ht hW => ⟨⟨v, x, rfl, hp, by rw [ht]; exact hP, va_K.moved hW.alike hK, hD⟩, hS.F ht⟩) hS.2.2 hdg (hlocks := hlk)
theorem qa_retv (C : qa_X p s m args meth c cc nL none own) (S : qa_S D cl tys wf A s x H locs) {post : X → Prop} (hp : post x) (hdg : decode cc pc = .ok (.return_, 1)) :
    W p l e R s m args below meth c H locs 0 0 (MQ below (va_Qv post (qa_B D cl tys wf A) A) args s 0 0 A) (F0 m pc ls []) := by
  obtain ⟨hx, hb, -, hr, -, -, hlk⟩ := C
  obtain ⟨hP, hD, hK, hS, -, -⟩ := S
  exact W.vret hx hb hr (fun t ht hW => ⟨⟨x, rfl, hp, by rw [ht]; exact hP, va_K.moved hW.alike hK, hD⟩, hS.F ht⟩) hS.2.2 hdg (hlocks := hlk)
theorem qa_calli {post : Int32 → X → Prop} {a : Array Value} (run : va_Run p l e R s m args below meth c H locs 0 0 0 0 (F0 m pc ls st0) rest (va_Qi post (qa_B D cl tys wf (va_A (wf x) H.size)) (va_A (wf x) H.size) a) (va_A (wf x) H.size)) (S : qa_S D cl tys wf A s x H locs)
    (kk : ∀ (r : Int32) (x' : X) (H1 : Heap) (locs1 : List Loc), post r x' → qa_S D cl tys wf A s x' H1 locs1 → W p l e R s m args below meth c H1 locs1 0 0 Q (F0 m (pc + 3) ls (.int r :: rest))) : W p l e R s m args below meth c H locs 0 0 Q (F0 m pc ls st0) := by
  obtain ⟨hP, hD, hK, hS, hA, hN⟩ := S
  have hF := va_free (wc := wf x) hD hS hA (List.range (wf x).length) (qa_range (wf x))
  refine va_calli run hS (fun q _ h => hF q h) hF (fun r u t H1 locs1 ht hvm hp hB hz hk hS1 => ?_)
  obtain ⟨hP1, hK1, hD1⟩ := hB
  rw [ht] at hP1
  obtain ⟨hP2, hD2⟩ := va_join (wr := []) (w1 := wf u) hP hD (List.range (wf x).length) [] (qa_range _) rfl rfl (fun i h => by cases h) hk hF hP1 hD1
  exact kk r u H1 locs1 hp ⟨hP2, hD2, hK, hS1, hA, hN⟩
theorem qa_calll {post : Int64 → X → Prop} {a : Array Value} (run : va_Run p l e R s m args below meth c H locs 0 0 0 0 (F0 m pc ls st0) rest (va_Ql post (qa_B D cl tys wf (va_A (wf x) H.size)) (va_A (wf x) H.size) a) (va_A (wf x) H.size)) (S : qa_S D cl tys wf A s x H locs)
    (kk : ∀ (r : Int64) (x' : X) (H1 : Heap) (locs1 : List Loc), post r x' → qa_S D cl tys wf A s x' H1 locs1 → W p l e R s m args below meth c H1 locs1 0 0 Q (F0 m (pc + 3) ls (.long r :: rest))) : W p l e R s m args below meth c H locs 0 0 Q (F0 m pc ls st0) := by
  obtain ⟨hP, hD, hK, hS, hA, hN⟩ := S
  have hF := va_free (wc := wf x) hD hS hA (List.range (wf x).length) (qa_range (wf x))
  refine va_calll run hS (fun q _ h => hF q h) hF (fun r u t H1 locs1 ht hvm hp hB hz hk hS1 => ?_)
  obtain ⟨hP1, hK1, hD1⟩ := hB
  rw [ht] at hP1
  obtain ⟨hP2, hD2⟩ := va_join (wr := []) (w1 := wf u) hP hD (List.range (wf x).length) [] (qa_range _) rfl rfl (fun i h => by cases h) hk hF hP1 hD1
  exact kk r u H1 locs1 hp ⟨hP2, hD2, hK, hS1, hA, hN⟩
theorem qa_callv {post : X → Prop} {a : Array Value} (run : va_Run p l e R s m args below meth c H locs 0 0 0 0 (F0 m pc ls st0) rest (va_Qv post (qa_B D cl tys wf (va_A (wf x) H.size)) (va_A (wf x) H.size) a) (va_A (wf x) H.size)) (S : qa_S D cl tys wf A s x H locs)
    (kk : ∀ (x' : X) (H1 : Heap) (locs1 : List Loc), post x' → qa_S D cl tys wf A s x' H1 locs1 → W p l e R s m args below meth c H1 locs1 0 0 Q (F0 m (pc + 3) ls rest)) : W p l e R s m args below meth c H locs 0 0 Q (F0 m pc ls st0) := by
  obtain ⟨hP, hD, hK, hS, hA, hN⟩ := S
  have hF := va_free (wc := wf x) hD hS hA (List.range (wf x).length) (qa_range (wf x))
  refine va_callv run hS (fun q _ h => hF q h) hF (fun u t H1 locs1 ht hvm hp hB hz hk hS1 => ?_)
  obtain ⟨hP1, hK1, hD1⟩ := hB
  rw [ht] at hP1
  obtain ⟨hP2, hD2⟩ := va_join (wr := []) (w1 := wf u) hP hD (List.range (wf x).length) [] (qa_range _) rfl rfl (fun i h => by cases h) hk hF hP1 hD1
  exact kk u H1 locs1 hp ⟨hP2, hD2, hK, hS1, hA, hN⟩
variable {ret retC : Option FieldType} {y : MethodName} {bytes : ByteArray} {maxL index n : Nat} {wsC : List Cond} {rm : Room} {Qc : Array Value → State → Outcome → State → Prop} {free : Addr → Prop} {As : List Value} {b : Nat} {Cn host : String}
/-- invokevirtual, own class or package-private -/
theorem qa_runV (C : qa_X p s m args meth c cc nL ret own) (S : qa_S D cl tys wf A s x H locs) (hM : Met l y wsC rm (qa_Pre D cl tys wf (.ref b :: As) x H.size) Qc 0 0 free)
    (cw : CallW R s args own Cn index y bytes maxL retC wsC rm 0 0 n) (hrecv : ∃ cellB : Cell, H[b]? = some cellB ∧ cellB.vm.isStatics = false ∧ s.vm.findClass Cn = some cellB.cls)
    (hn : As.length = n) (hls : ls.size = nL) (hst : st0 = As.reverse ++ .ref b :: rest) (hroom : (rest.map fun v => v.category).sum ≤ 8) (hdg : decode cc pc = .ok (.invokevirtual index, 3)) :
    va_Run p l e R s m args below meth c H locs 0 0 0 0 (F0 m pc ls st0) rest (Qc (Value.ref b :: As).toArray) free :=
  va_runV ⟨C.1, C.2.1, C.2.2.1, C.2.2.2.2.2.1, C.2.2.2.2.1⟩ hM cw ⟨qa_blind, hrecv, fun U hU hW => qa_pre S U hU hW⟩ rfl hn hls hst (lv_room hroom) hdg ⟨Nat.zero_le _, Nat.zero_le _⟩
/-- invokestatic of the own class -/
theorem qa_runS (C : qa_X p s m args meth c cc nL ret own) (S : qa_S D cl tys wf A s x H locs) (hM : Met l y wsC rm (qa_Pre D cl tys wf As x H.size) Qc 0 0 free)
    (cw : CallB R s args own index y bytes maxL retC wsC rm 0 0 n ∧ (Cond.static y).before args s = true)
    (hn : As.length = n) (hls : ls.size = nL) (hst : st0 = As.reverse ++ rest) (hroom : (rest.map fun v => v.category).sum ≤ 8) (hdg : decode cc pc = .ok (.invokestatic index, 3)) :
    va_Run p l e R s m args below meth c H locs 0 0 0 0 (F0 m pc ls st0) rest (Qc As.toArray) free :=
  va_runS ⟨C.1, C.2.1, C.2.2.1, C.2.2.2.2.2.1, C.2.2.2.2.1⟩ hM cw ⟨qa_blind, fun U hU hW => qa_pre S U hU hW⟩ rfl hn hls hst (lv_room hroom) hdg ⟨Nat.zero_le _, Nat.zero_le _⟩
/-- invokestatic of a nest mate's private method -/
theorem qa_runSN (C : qa_X p s m args meth c cc nL ret own) (S : qa_S D cl tys wf A s x H locs) (hM : Met l y wsC rm (qa_Pre D cl tys wf As x H.size) Qc 0 0 free)
    (cw : va_CN R s args own index y host bytes maxL retC wsC rm 0 0 n ∧ (Cond.static y).before args s = true ∧ True)
    (hn : As.length = n) (hls : ls.size = nL) (hst : st0 = As.reverse ++ rest) (hroom : (rest.map fun v => v.category).sum ≤ 8) (hdg : decode cc pc = .ok (.invokestatic index, 3)) :
    va_Run p l e R s m args below meth c H locs 0 0 0 0 (F0 m pc ls st0) rest (Qc As.toArray) free :=
  va_runSN ⟨C.1, C.2.1, C.2.2.1, C.2.2.2.2.2.1, C.2.2.2.2.1⟩ hM cw ⟨qa_blind, fun U hU hW => qa_pre S U hU hW⟩ rfl hn hls hst (lv_room hroom) hdg ⟨Nat.zero_le _, Nat.zero_le _⟩
/-- invokevirtual of a nest mate's private method -/
theorem qa_runVN (C : qa_X p s m args meth c cc nL ret own) (S : qa_S D cl tys wf A s x H locs) (hM : Met l y wsC rm (qa_Pre D cl tys wf (.ref b :: As) x H.size) Qc 0 0 free)
    (cw : va_CN R s args own index y host bytes maxL retC wsC rm 0 0 n ∧ (Cond.instanceMethod y).before args s = true ∧ (Cond.selects Cn y y).before args s = true) (hrecv : ∃ cellB : Cell, H[b]? = some cellB ∧ cellB.vm.isStatics = false ∧ s.vm.findClass Cn = some cellB.cls)
    (hn : As.length = n) (hls : ls.size = nL) (hst : st0 = As.reverse ++ .ref b :: rest) (hroom : (rest.map fun v => v.category).sum ≤ 8) (hdg : decode cc pc = .ok (.invokevirtual index, 3)) :
    va_Run p l e R s m args below meth c H locs 0 0 0 0 (F0 m pc ls st0) rest (Qc (Value.ref b :: As).toArray) free :=
  va_runVN ⟨C.1, C.2.1, C.2.2.1, C.2.2.2.2.2.1, C.2.2.2.2.1⟩ hM cw ⟨qa_blind, hrecv, fun U hU hW => qa_pre S U hU hW⟩ rfl hn hls hst (lv_room hroom) hdg ⟨Nat.zero_le _, Nat.zero_le _⟩
end QA
section QB
variable {l : Launch} {D : va_G} {cl : List vw_C} {tys : List (ClassId × FieldType)} {X : Type} {wf : X → va_W} {x : X} {y : MethodName} {ws' : List Cond} {rm : Room} {cc : ByteArray} {maxL : Nat} {ret : Option FieldType} {vs : List Value}
theorem qa_ofWi {post : Int32 → X → Prop} (hy : plainName y.cls = true) (hn : (lg_sl vs).length ≤ maxL)
    (body : ∀ (p : Program) (e : Env) (s : State) (m : MethodId) (args : Array Value) (below : List Frame) (meth : Method) (c : Code) (A : Nat → Prop) (H : Heap) (locs : List Loc) (ls : Array Slot), qa_X p s m args meth c cc maxL ret y.cls → qa_S D cl tys wf A s x H locs → lv_has ls maxL (lv_args 0 vs) →
      W p l e rm s m args below meth c H locs 0 0 (MQ below (va_Qi post (qa_B D cl tys wf A) A) args s 0 0 A) (F0 m 0 ls [])) : qa_Ci l y (.code y cc maxL ret :: qa_WG) rm D cl tys wf vs x post := by
  intro sz
  refine Met.ofW (cc := cc) (maxL := maxL) (ret := ret) hy rfl ?_
  intro p e s m args below meth c s₁ B hml hv
  obtain ⟨rfl, hsz, hP, hK, hD0, hN⟩ := hv
  subst hsz
  rw [lg_entry_eq]
  exact body p e s m _ below meth c _ _ _ _ ⟨B.exec, B.bytes, hml, B.returns, fun w hw => atoms_spec (ws := .code y cc maxL ret :: qa_WG) B.pre w (List.mem_cons_of_mem _ hw), findClass_of_methodNamed B.named, B.notSynchronized⟩ ⟨hP, hD0.self, hK, va_S.rf, fun q h => Or.inr h, hN⟩ (lv_entry vs hn)
theorem qa_ofWl {post : Int64 → X → Prop} (hy : plainName y.cls = true) (hn : (lg_sl vs).length ≤ maxL)
    (body : ∀ (p : Program) (e : Env) (s : State) (m : MethodId) (args : Array Value) (below : List Frame) (meth : Method) (c : Code) (A : Nat → Prop) (H : Heap) (locs : List Loc) (ls : Array Slot), qa_X p s m args meth c cc maxL ret y.cls → qa_S D cl tys wf A s x H locs → lv_has ls maxL (lv_args 0 vs) →
      W p l e rm s m args below meth c H locs 0 0 (MQ below (va_Ql post (qa_B D cl tys wf A) A) args s 0 0 A) (F0 m 0 ls [])) : qa_Cl l y (.code y cc maxL ret :: qa_WG) rm D cl tys wf vs x post := by
  intro sz
  refine Met.ofW (cc := cc) (maxL := maxL) (ret := ret) hy rfl ?_
  intro p e s m args below meth c s₁ B hml hv
  obtain ⟨rfl, hsz, hP, hK, hD0, hN⟩ := hv
  subst hsz
  rw [lg_entry_eq]
  exact body p e s m _ below meth c _ _ _ _ ⟨B.exec, B.bytes, hml, B.returns, fun w hw => atoms_spec (ws := .code y cc maxL ret :: qa_WG) B.pre w (List.mem_cons_of_mem _ hw), findClass_of_methodNamed B.named, B.notSynchronized⟩ ⟨hP, hD0.self, hK, va_S.rf, fun q h => Or.inr h, hN⟩ (lv_entry vs hn)
theorem qa_ofWv {post : X → Prop} (hy : plainName y.cls = true) (hn : (lg_sl vs).length ≤ maxL)
    (body : ∀ (p : Program) (e : Env) (s : State) (m : MethodId) (args : Array Value) (below : List Frame) (meth : Method) (c : Code) (A : Nat → Prop) (H : Heap) (locs : List Loc) (ls : Array Slot), qa_X p s m args meth c cc maxL ret y.cls → qa_S D cl tys wf A s x H locs → lv_has ls maxL (lv_args 0 vs) →
      W p l e rm s m args below meth c H locs 0 0 (MQ below (va_Qv post (qa_B D cl tys wf A) A) args s 0 0 A) (F0 m 0 ls [])) : qa_Cv l y (.code y cc maxL ret :: qa_WG) rm D cl tys wf vs x post := by
  intro sz
  refine Met.ofW (cc := cc) (maxL := maxL) (ret := ret) hy rfl ?_
  intro p e s m args below meth c s₁ B hml hv
  obtain ⟨rfl, hsz, hP, hK, hD0, hN⟩ := hv
  subst hsz
  rw [lg_entry_eq]
  exact body p e s m _ below meth c _ _ _ _ ⟨B.exec, B.bytes, hml, B.returns, fun w hw => atoms_spec (ws := .code y cc maxL ret :: qa_WG) B.pre w (List.mem_cons_of_mem _ hw), findClass_of_methodNamed B.named, B.notSynchronized⟩ ⟨hP, hD0.self, hK, va_S.rf, fun q h => Or.inr h, hN⟩ (lv_entry vs hn)
end QB
