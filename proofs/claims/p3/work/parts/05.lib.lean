/-! what every method takes from its surroundings: the classes, the array classes, the nest mates' links, the table of spans -/
abbrev kTY (aC : Nat → ClassId) : List (ClassId × FieldType) := [(aC 0, .int), (aC 1, .byte), (aC 2, .long)]
abbrev kNest : List Cond := [.methodLinkNest "TextPatterns" 29 ⟨"TextPatterns$Items", "<init>", "()V"⟩ "TextPatterns", .fieldLinkNest "TextPatterns$Matcher" 117 "TextPatterns$Items" "sets" "LTextPatterns$Sets;" "TextPatterns", .methodLinkNest "TextPatterns" 36 ⟨"TextPatterns$Matcher", "<init>", "()V"⟩ "TextPatterns", .fieldLinkNest "TextPatterns$Sets" 58 "TextPatterns" "CLASS_SPANS" "[I" "TextPatterns"]
theorem kNest_on : ∀ w ∈ kNest, w.onTables = true := by decide +kernel
theorem kNest_warm (w : Cond) (hw : w ∈ kNest) {s U : State} (hW : s.WarmedH U.vm) (h : va_Nw w s) : va_Nw w U := by
  simp only [kNest, List.mem_cons, List.not_mem_nil, or_false] at hw
  rcases hw with rfl | rfl | rfl | rfl <;> first | exact va_Nw.warmF hW h | exact va_Nw.warmM hW h
def kSpansL : List Int32 := [97, 65, 90, 97, 97, 122, 100, 48, 57, 108, 97, 122, 117, 65, 90, 119, 48, 57, 119, 65, 90, 119, 97, 122, 115, 9, 13, 115, 32, 32, 120, 48, 57, 120, 65, 70, 120, 97, 102, 103, 33, 126, 112, 33, 47, 112, 58, 64, 112, 91, 96, 112, 123, 126, 99, 0, 31, 99, 127, 127]
def kSpans (j : Nat) : Int32 := kSpansL.getD j 0
def EV (DD : va_G) (aC : Nat → ClassId) (tt : Nat → Nat) (A : Nat → Prop) (U : State) (H : Heap) : Prop :=
  va_K DD vwCl (kTY aC) U ∧ (∀ w ∈ kNest, va_Nw w U) ∧ va_Z "TextPatterns" "CLASS_SPANS" "[I" (.ref (tt 0)) A U H ∧ va_T .int (tt 0) 60 (fun j => .int (kSpans j)) A U H
/-! what every contract here says, once: kM. A method's answer and its world behind it are given values; its cells are its world's; nothing new is made -/
def kb {α β : Type} (a : α) (g : α → β) : β := g a
theorem kb_of {α β : Type} {a z : α} {g : α → β} (h : z = a) : kb a g = g z := by subst h; rfl
theorem kx_fm {α β : Type} (f : α → Option β) : ∀ (is : List α) (ws : List β), is.map f = ws.map some → is.filterMap f = ws := by
  intro is
  induction is with
  | nil => intro ws h; cases ws with
    | nil => rfl
    | cons a t => simp at h
  | cons i is ih =>
    intro ws h
    cases ws with
    | nil => simp at h
    | cons a t =>
      simp only [List.map_cons, List.cons.injEq] at h
      simp [h.1, ih t h.2]
theorem EV.moved {DD : va_G} {aC : Nat → ClassId} {tt : Nat → Nat} {A : Nat → Prop} {s U : State} {H : Heap} (hW : s.WarmedH U.vm) (h : EV DD aC tt A s H) : EV DD aC tt A U H := by
  obtain ⟨h1, h2, h3, h4⟩ := h
  exact ⟨va_K.moved hW.alike h1, fun w hw => kNest_warm w hw hW (h2 w hw), va_Z.moved hW.alike h3, va_T.moved hW.alike h4⟩
theorem EV.same {DD : va_G} {aC : Nat → ClassId} {tt : Nat → Nat} {A : Nat → Prop} {s U : State} {H : Heap} (hW : s.vm = U.vm) (h : EV DD aC tt A s H) : EV DD aC tt A U H := by
  obtain ⟨h1, h2, h3, h4⟩ := h
  have hal : s.vm.Alike U.vm := by rw [hW]; exact Vm.Alike.refl U.vm
  exact ⟨va_K.moved hal h1, fun w hw => va_Nw.same (kNest_on w hw) hW (h2 w hw), va_Z.moved hal h3, va_T.moved hal h4⟩
theorem EV.kept {DD : va_G} {aC : Nat → ClassId} {tt : Nat → Nat} {A : Nat → Prop} {s : State} {H H1 : Heap} (hq : ∀ a : Nat, a < H.size → ¬ A a → H1[a]? = H[a]?) (h : EV DD aC tt A s H) : EV DD aC tt A s H1 := by
  obtain ⟨h1, h2, h3, h4⟩ := h
  exact ⟨h1, h2, h3.kept hq, h4.kept hq⟩
theorem EV.narrow {DD : va_G} {aC : Nat → ClassId} {tt : Nat → Nat} {A B : Nat → Prop} {s : State} {H : Heap} (hq : ∀ q, B q → A q) (h : EV DD aC tt A s H) : EV DD aC tt B s H := by
  obtain ⟨h1, h2, h3, h4⟩ := h
  exact ⟨h1, h2, h3.narrow hq, h4.narrow hq⟩
def kP (DD : va_G) (aC : Nat → ClassId) (tt : Nat → Nat) (av : List Value) (w0 : va_W) (sz : Nat) : Array Value → State → Prop :=
  va_Pc av (fun U => U.heap.size = sz ∧ va_P DD vwCl w0 U.heap ∧ va_D (fun _ => True) w0 ∧ EV DD aC tt (va_A w0 sz) U U.heap)
def kQ (DD : va_G) (cl : List vw_C) (v : Option Value) (w1 : va_W) (A : Nat → Prop) : Array Value → State → Outcome → State → Prop :=
  fun _ st oc t => (oc = .returned v ∧ va_P DD cl w1 t.heap ∧ va_D A w1) ∧ va_F A st t
def kM (l : Launch) (y : MethodName) (ws : List Cond) (rm : Room) (DD : va_G) (aC : Nat → ClassId) (tt : Nat → Nat) (av : List Value) (w0 : va_W) (v : Option Value) (w1 : va_W) : Prop :=
  ∀ sz : Nat, Met l y ws rm (kP DD aC tt av w0 sz) (kQ DD vwCl v w1 (va_A w0 sz)) 0 0 (va_A w0 sz)
theorem kP_blind {DD : va_G} {aC : Nat → ClassId} {tt : Nat → Nat} {av : List Value} {w0 : va_W} {sz : Nat} : FrameBlind (kP DD aC tt av w0 sz) := by
  intro a U g mk q
  obtain ⟨q0, q1, qP, qD, qE⟩ := q
  exact ⟨q0, q1, qP, qD, EV.same (s := U) (U := U.calling g mk a) rfl qE⟩
/-- what stands through a method's walk -/
def kX (p : Program) (s : State) (m : MethodId) (AV : Array Value) (meth : Method) (c : Code) (cc : ByteArray) (ret : Option FieldType) (maxL : Nat) (ws : List Cond) (own : String) (DD : va_G) (aC : Nat → ClassId) (tt : Nat → Nat) (A : Nat → Prop) : Prop :=
  p.tables.exec = Jvm.exec ∧ c.code = cc ∧ meth.sig.returnType = ret ∧ c.maxLocals = maxL ∧ (∀ w ∈ ws, w.before AV s = true) ∧ s.vm.findClass own = some m.cls ∧ meth.locks = false ∧ (∀ q : Nat, s.heap.size ≤ q → A q) ∧ EV DD aC tt A s s.heap
theorem k_start {l : Launch} {y : MethodName} {ws ws' : List Cond} {rm : Room} {DD : va_G} {aC : Nat → ClassId} {tt : Nat → Nat} {av : List Value} {w0 : va_W} {v : Option Value} {w1 : va_W} {cc : ByteArray} {maxL : Nat} {ret : Option FieldType} {own : String} {lv0 : List (Nat × Value)}
    (hy : plainName y.cls = true) (hw : ws = Cond.code y cc maxL ret :: ws') (hown : y.cls = own) (hl : (lg_sl av).length ≤ maxL) (hlv : lv_args 0 av = lv0)
    (body : ∀ (p : Program) (e : Env) (s : State) (m : MethodId) (below : List Frame) (meth : Method) (c : Code) (A : Nat → Prop) (ls : Array Slot), kX p s m av.toArray meth c cc ret maxL ws own DD aC tt A → va_P DD vwCl w0 s.heap → va_D A w0 → va_S A s.heap s.heap [] → lv_has ls maxL lv0 →
      W p l e rm s m av.toArray below meth c s.heap [] 0 0 (MQ below (kQ DD vwCl v w1 A) av.toArray s 0 0 A) (F0 m 0 ls [])) : kM l y ws rm DD aC tt av w0 v w1 := by
  intro sz
  refine Met.ofW (cc := cc) (maxL := maxL) (ret := ret) hy hw ?_
  intro p e s m args below meth c s₁ B hml hv
  obtain ⟨rfl, hsz, hP, hD0, hE⟩ := hv
  have hx := B.exec
  have hb := B.bytes
  have hr := B.returns
  have hts := atoms_spec (ws := ws) B.pre
  have hown2 : s.vm.findClass own = some m.cls := by rw [← hown]; exact findClass_of_methodNamed B.named
  have hlocks := B.notSynchronized
  subst hsz
  have hD := hD0.self (sz := s.heap.size)
  generalize hAe : va_A w0 s.heap.size = A at hD hE ⊢
  have hA : ∀ q : Nat, s.heap.size ≤ q → A q := fun q h => by rw [← hAe]; exact Or.inr h
  have hl2 := lv_entry av (n := maxL) hl
  rw [lg_entry_eq]
  generalize (lg_sl av ++ List.replicate (maxL - (lg_sl av).length) Slot.unset).toArray = ls at hl2 ⊢
  exact body p e s m below meth c A ls ⟨hx, hb, hr, hml, hts, hown2, hlocks, hA, hE⟩ hP hD va_S.rf (hlv ▸ hl2)
section KC
variable {p : Program} {l : Launch} {e : Env} {R : Room} {s : State} {m : MethodId} {args : Array Value} {below : List Frame} {meth : Method} {c : Code} {H : Heap} {locs : List Loc} {cells slots : Nat} {Q : State → Prop}
variable {pc : Nat} {ls : Array Slot} {rest st0 : List Value} {a : Array Value} {A A0 A1 : Nat → Prop} {H0 : Heap} {mc ms : Nat} {free : Addr → Prop} {DD : va_G} {cl : List vw_C} {aC : Nat → ClassId} {tt : Nat → Nat}
theorem k_callQ {v : Option Value} {w1 : va_W} (hr : va_Run p l e R s m args below meth c H locs cells slots mc ms (F0 m pc ls st0) rest (kQ DD cl v w1 A1 a) free) (hS : va_S A0 H0 H locs) (hA : ∀ q, q < H.size → A1 q → A0 q) (hf : ∀ q, free q → A0 q)
    (kk : ∀ (H1 : Heap) (locs1 : List Loc), va_P DD cl w1 H1 → va_D A1 w1 → H.size ≤ H1.size → (∀ q : Nat, q < H.size → ¬ A1 q → H1[q]? = H[q]?) → va_S A0 H0 H1 locs1 → W p l e R s m args below meth c H1 locs1 (cells + mc) (slots + ms) Q (F0 m (pc + 3) ls (v.toList ++ rest))) : W p l e R s m args below meth c H locs cells slots Q (F0 m pc ls st0) := by
  intro T hT X
  obtain ⟨v', st₀, t, T', L, h0, X', hL, e1, e2, ⟨⟨hv, hp, hb⟩, hz, hk⟩, st⟩ := hr T hT X
  cases hv
  rw [h0] at hz hk
  obtain ⟨t2, a1, b1⟩ := kk T'.heap (locs ++ L) (by rw [e1]; exact hp) hb (by rw [e1]; exact hz) (fun q h1 h2 => by rw [e1]; exact hk q h1 h2)
    ⟨Nat.le_trans hS.1 (by rw [e1]; exact hz), fun q h1 h2 => by rw [e1, hk q (Nat.lt_of_lt_of_le h1 hS.1) (fun z => h2 (hA q (Nat.lt_of_lt_of_le h1 hS.1) z))]; exact hS.2.1 q h1 h2, fun q hq => by
      rcases List.mem_append.mp hq with h | h
      · exact hS.2.2 q h
      · exact hf _ (hL q h)⟩ T' rfl X'
  exact ⟨t2, st t2 a1, b1⟩
variable {y : MethodName} {bytes cc : ByteArray} {maxL nL n index : Nat} {ret : Option FieldType} {ws Ts : List Cond} {rm : Room} {own C : String} {b : Addr} {As : List Value} {v : Option Value} {w wc wr w1 wn : va_W}
theorem kP_at (hP : va_P DD vwCl w H) (hD : va_D A w) (hS : va_S A s.heap H locs) (hA : ∀ q, s.heap.size ≤ q → A q) (hE : EV DD aC tt A s s.heap) (isC : List Nat) (hC : isC.map (fun i => w[i]?) = wc.map some) (hnc : va_nd isC = true) (av : List Value) :
    ∀ U : State, U.heap = H → s.WarmedH U.vm → kP DD aC tt av wc H.size av.toArray U := by
  intro U hU hW
  have hF := va_free (wc := wc) hD hS hA isC hC
  refine ⟨rfl, by rw [hU], by rw [hU]; exact hP.sub isC (kx_fm _ _ _ hC), (hD.sub isC hnc hC).weaken (fun _ _ _ _ => trivial), ?_⟩
  rw [hU]
  exact EV.moved hW (EV.narrow (fun q h => hF q h) (EV.kept (fun a h1 h2 => hS.2.1 a h1 h2) hE))
theorem k_callV (S : CallFix p m c cc nL s args Ts own) (hM : kM l y ws rm DD aC tt (.ref b :: As) wc v w1) (cw : CallW R s args own C index y bytes maxL ret ws rm 0 0 n)
    (hP : va_P DD vwCl w H) (hD : va_D A w) (hS : va_S A s.heap H locs) (hA : ∀ q, s.heap.size ≤ q → A q) (hE : EV DD aC tt A s s.heap)
    (isC isR isN : List Nat) (hC : isC.map (fun i => w[i]?) = wc.map some) (hR : isR.map (fun i => w[i]?) = wr.map some) (hN : isN.map (fun i => (wr ++ w1)[i]?) = wn.map some) (hnc : va_nd isC = true) (hnr : va_nd isR = true) (hnn : va_nd isN = true) (hdis : ∀ i ∈ isR, i ∉ isC)
    {ci q0 : Nat} {q : vw_C} {fs : List Value} (hc : vwCl[ci]? = some q) (he : wc[q0]? = some (b, .inr (ci, fs))) (hn : As.length = n) (hsize : ls.size = nL) (hq : q.1 = C) (hW : (rest.map fun v => v.category).sum ≤ 8) (hdg : decode cc pc = .ok (.invokevirtual index, 3))
    (kk : ∀ (H1 : Heap) (locs1 : List Loc), va_P DD vwCl wn H1 → va_D A wn → va_S A s.heap H1 locs1 → W p l e R s m args below meth c H1 locs1 cells slots Q (F0 m (pc + 3) ls (v.toList ++ rest))) (hcr : cells ≤ R.cells := by exact Nat.zero_le _) (hsr : slots ≤ R.slots := by exact Nat.zero_le _) : W p l e R s m args below meth c H locs cells slots Q (F0 m pc ls (As.reverse ++ .ref b :: rest)) := by
  have hF := va_free (wc := wc) hD hS hA isC hC
  have hPc := hP.sub (ws' := wc) isC (kx_fm _ _ _ hC)
  subst hq
  refine k_callQ (va_runV S (hM H.size) cw ⟨kP_blind, va_recv hE.1 hPc hc he, fun U hU hW => kP_at hP hD hS hA hE isC hC hnc _ U hU hW⟩ rfl hn hsize rfl (lv_room hW) hdg ⟨hcr, hsr⟩) hS (fun q _ h => hF q h) hF (fun H1 locs1 hP1 hD1 hz hk hS1 => ?_)
  obtain ⟨hP', hD'⟩ := va_join (wr := wr) (w1 := w1) hP hD isC isR hC hR hnr hdis hk hF hP1 hD1
  exact kk H1 locs1 (hP'.sub isN (kx_fm _ _ _ hN)) (hD'.sub isN hnn hN) hS1
theorem k_callS (S : CallFix p m c cc nL s args Ts own) (hM : kM l y ws rm DD aC tt As wc v w1) (cw : CallB R s args own index y bytes maxL ret ws rm 0 0 n ∧ (Cond.static y).before args s = true)
    (hP : va_P DD vwCl w H) (hD : va_D A w) (hS : va_S A s.heap H locs) (hA : ∀ q, s.heap.size ≤ q → A q) (hE : EV DD aC tt A s s.heap)
    (isC isR isN : List Nat) (hC : isC.map (fun i => w[i]?) = wc.map some) (hR : isR.map (fun i => w[i]?) = wr.map some) (hN : isN.map (fun i => (wr ++ w1)[i]?) = wn.map some) (hnc : va_nd isC = true) (hnr : va_nd isR = true) (hnn : va_nd isN = true) (hdis : ∀ i ∈ isR, i ∉ isC)
    (hn : As.length = n) (hsize : ls.size = nL) (_hq : True = True) (hW : (rest.map fun v => v.category).sum ≤ 8) (hdg : decode cc pc = .ok (.invokestatic index, 3))
    (kk : ∀ (H1 : Heap) (locs1 : List Loc), va_P DD vwCl wn H1 → va_D A wn → va_S A s.heap H1 locs1 → W p l e R s m args below meth c H1 locs1 cells slots Q (F0 m (pc + 3) ls (v.toList ++ rest))) (hcr : cells ≤ R.cells := by exact Nat.zero_le _) (hsr : slots ≤ R.slots := by exact Nat.zero_le _) : W p l e R s m args below meth c H locs cells slots Q (F0 m pc ls (As.reverse ++ rest)) := by
  have hF := va_free (wc := wc) hD hS hA isC hC
  refine k_callQ (va_runS S (hM H.size) cw ⟨kP_blind, fun U hU hW => kP_at hP hD hS hA hE isC hC hnc _ U hU hW⟩ rfl hn hsize rfl (lv_room hW) hdg ⟨hcr, hsr⟩) hS (fun q _ h => hF q h) hF (fun H1 locs1 hP1 hD1 hz hk hS1 => ?_)
  obtain ⟨hP', hD'⟩ := va_join (wr := wr) (w1 := w1) hP hD isC isR hC hR hnr hdis hk hF hP1 hD1
  exact kk H1 locs1 (hP'.sub isN (kx_fm _ _ _ hN)) (hD'.sub isN hnn hN) hS1
variable {x : Int32} {xl : Int64} {xv : Value}
theorem k_iret (hx : p.tables.exec = Jvm.exec) (hb : c.code = cc) (hr : meth.sig.returnType = some .int) (hlocks : meth.locks = false) (hP : va_P DD cl w H) (hD : va_D A w) (hS : va_S A s.heap H locs) (hv : v = some (.int x)) (hw : w1 = w) (hdg : decode cc pc = .ok (.ireturn, 1)) : W p l e R s m args below meth c H locs 0 0 (MQ below (kQ DD cl v w1 A) args s 0 0 A) (F0 m pc ls [.int x]) := by
  subst hw; subst hv
  exact W.iret hx hb hr (fun t ht hW => ⟨⟨rfl, by rw [ht]; exact hP, hD⟩, hS.F ht⟩) hS.2.2 hdg hlocks
theorem k_zret {ty : FieldType} (hx : p.tables.exec = Jvm.exec) (hb : c.code = cc) (hr : meth.sig.returnType = some ty) (hn : narrow ty (.int x) = .int x) (hlocks : meth.locks = false) (hP : va_P DD cl w H) (hD : va_D A w) (hS : va_S A s.heap H locs) (hv : v = some (.int x)) (hw : w1 = w) (hdg : decode cc pc = .ok (.ireturn, 1)) : W p l e R s m args below meth c H locs 0 0 (MQ below (kQ DD cl v w1 A) args s 0 0 A) (F0 m pc ls [.int x]) := by
  subst hw; subst hv
  exact W.zret hx hb hr hn (fun t ht hW => ⟨⟨rfl, by rw [ht]; exact hP, hD⟩, hS.F ht⟩) hS.2.2 hdg hlocks
theorem k_lret (hx : p.tables.exec = Jvm.exec) (hb : c.code = cc) (hr : meth.sig.returnType = some .long) (hlocks : meth.locks = false) (hP : va_P DD cl w H) (hD : va_D A w) (hS : va_S A s.heap H locs) (hv : v = some (.long xl)) (hw : w1 = w) (hdg : decode cc pc = .ok (.lreturn, 1)) : W p l e R s m args below meth c H locs 0 0 (MQ below (kQ DD cl v w1 A) args s 0 0 A) (F0 m pc ls [.long xl]) := by
  subst hw; subst hv
  exact W.lret hx hb hr (fun t ht hW => ⟨⟨rfl, by rw [ht]; exact hP, hD⟩, hS.F ht⟩) hS.2.2 hdg hlocks
theorem k_vret (hx : p.tables.exec = Jvm.exec) (hb : c.code = cc) (hr : meth.sig.returnType = none) (hlocks : meth.locks = false) (hP : va_P DD cl w H) (hD : va_D A w) (hS : va_S A s.heap H locs) (hv : v = none) (hw : w1 = w) (hdg : decode cc pc = .ok (.return_, 1)) : W p l e R s m args below meth c H locs 0 0 (MQ below (kQ DD cl v w1 A) args s 0 0 A) (F0 m pc ls []) := by
  subst hw; subst hv
  exact W.vret hx hb hr (fun t ht hW => ⟨⟨rfl, by rw [ht]; exact hP, hD⟩, hS.F ht⟩) hS.2.2 hdg hlocks
theorem k_aret {rt : FieldType} (hx : p.tables.exec = Jvm.exec) (hb : c.code = cc) (hr : meth.sig.returnType = some rt) (hrt : (∃ n, rt = .object n) ∨ ∃ t, rt = .array t) (hv0 : xv = .null ∨ ∃ a, xv = .ref a) (hlocks : meth.locks = false) (hP : va_P DD cl w H) (hD : va_D A w) (hS : va_S A s.heap H locs) (hv : v = some xv) (hw : w1 = w) (hdg : decode cc pc = .ok (.areturn, 1)) : W p l e R s m args below meth c H locs 0 0 (MQ below (kQ DD cl v w1 A) args s 0 0 A) (F0 m pc ls [xv]) := by
  subst hw; subst hv
  exact W.aret hx hb hr hrt hv0 (fun t ht hW => ⟨⟨rfl, by rw [ht]; exact hP, hD⟩, hS.F ht⟩) hS.2.2 hdg hlocks
theorem kx_tab (hexec : p.tables.exec = Jvm.exec) (hb : c.code = cc) {dflt lo hi off : Int} {offs : Array Int} {len tgt : Nat} (hdg : decode cc pc = .ok (.tableswitch dflt lo hi offs, len)) (h1 : (x.toInt < lo ∨ hi < x.toInt) → off = dflt) (h2 : ¬ x.toInt < lo → ¬ hi < x.toInt → offs[(x.toInt - lo).toNat]? = some off) (ht : (pc : Int) + off = (tgt : Int))
    (k : W p l e R s m args below meth c H locs cells slots Q (F0 m tgt ls rest)) : W p l e R s m args below meth c H locs cells slots Q (F0 m pc ls (.int x :: rest)) := by
  by_cases a : x.toInt < lo
  · exact lv_tableOut hexec hb hdg (Or.inl a) (by rw [← h1 (Or.inl a)]; exact ht) k
  · by_cases b : hi < x.toInt
    · exact lv_tableOut hexec hb hdg (Or.inr b) (by rw [← h1 (Or.inr b)]; exact ht) k
    · exact lv_tableIn hexec hb hdg a b (h2 a b) ht k
end KC
theorem kb_nlt0 {x : Int32} (h : ¬ x < 0) : 0 ≤ x.toInt := by
  have h2 : ¬ x.toInt < (0 : Int32).toInt := fun q => h (Int32.lt_iff_toInt_lt.mpr q)
  have h3 : (0 : Int32).toInt = 0 := by decide
  omega
theorem kb_le0 {x : Int32} (h : 0 ≤ x) : 0 ≤ x.toInt := by
  have h2 := Int32.le_iff_toInt_le.mp h
  have h3 : (0 : Int32).toInt = 0 := by decide
  omega
theorem kb_nle {x K : Int32} {n : Nat} (h : ¬ K ≤ x) (hK : K.toInt = n) : x.toInt < n := by
  have h2 : ¬ K.toInt ≤ x.toInt := fun q => h (Int32.le_iff_toInt_le.mpr q)
  omega
theorem kb_nleN {x : Int32} {n : Nat} (hn : n < 1073741824) (h : ¬ nI n ≤ x) : x.toInt < n := kb_nle h (nI_toInt (by omega))
def kmax (x y : Int32) : Int32 := if x < y then y else x
def kmin (x y : Int32) : Int32 := if y < x then y else x
theorem kb_nleI {x K : Int32} (h : ¬ K ≤ x) : x.toInt < K.toInt := by
  have h2 : ¬ K.toInt ≤ x.toInt := fun q => h (Int32.le_iff_toInt_le.mpr q)
  omega
theorem kb_in {x : Int32} {n : Nat} (h0 : 0 ≤ x.toInt) (h1 : x.toInt < n) : vp_in x n := vp_in_iff.mpr ⟨h0, h1⟩
theorem kb_c {x : Int32} {n : Nat} (h0 : 0 ≤ x.toInt) (h1 : x.toInt < n) : vp_in x n := vp_in_iff.mpr ⟨h0, h1⟩
theorem kx_add {x y : Int32} (h1 : -2147483648 ≤ x.toInt + y.toInt) (h2 : x.toInt + y.toInt < 2147483648) : (x + y).toInt = x.toInt + y.toInt := by
  rw [Int32.toInt_add, Int.bmod_eq_of_le] <;> omega
theorem kx_sub {x y : Int32} (h1 : -2147483648 ≤ x.toInt - y.toInt) (h2 : x.toInt - y.toInt < 2147483648) : (x - y).toInt = x.toInt - y.toInt := by
  rw [Int32.toInt_sub, Int.bmod_eq_of_le] <;> omega
theorem kx_rng (x : Int32) : -2147483648 ≤ x.toInt ∧ x.toInt < 2147483648 := ⟨Int32.le_toInt x, Int32.toInt_lt x⟩
theorem kx_nlt {x y : Int32} (h : ¬ x < y) : ¬ x.toInt < y.toInt := fun q => h (Int32.lt_iff_toInt_lt.mpr q)
theorem kx_nle {x y : Int32} (h : ¬ x ≤ y) : ¬ x.toInt ≤ y.toInt := fun q => h (Int32.le_iff_toInt_le.mpr q)
theorem kx_addD (x y : Int32) : (x + y).toInt = x.toInt + y.toInt ∨ x.toInt + y.toInt < -2147483648 ∨ 2147483648 ≤ x.toInt + y.toInt := by
  by_cases h1 : -2147483648 ≤ x.toInt + y.toInt
  · by_cases h2 : x.toInt + y.toInt < 2147483648
    · exact Or.inl (kx_add h1 h2)
    · exact Or.inr (Or.inr (by omega))
  · exact Or.inr (Or.inl (by omega))
theorem kx_subD (x y : Int32) : (x - y).toInt = x.toInt - y.toInt ∨ x.toInt - y.toInt < -2147483648 ∨ 2147483648 ≤ x.toInt - y.toInt := by
  by_cases h1 : -2147483648 ≤ x.toInt - y.toInt
  · by_cases h2 : x.toInt - y.toInt < 2147483648
    · exact Or.inl (kx_sub h1 h2)
    · exact Or.inr (Or.inr (by omega))
  · exact Or.inr (Or.inl (by omega))
theorem kx_addK (x : Int32) {y : Int32} {k : Int} (h : y.toInt = k) : (x + y).toInt = x.toInt + k ∨ x.toInt + k < -2147483648 ∨ 2147483648 ≤ x.toInt + k := by subst h; exact kx_addD x y
theorem kx_subK (x : Int32) {y : Int32} {k : Int} (h : y.toInt = k) : (x - y).toInt = x.toInt - k ∨ x.toInt - k < -2147483648 ∨ 2147483648 ≤ x.toInt - k := by subst h; exact kx_subD x y
theorem kx_ne {x y : Int32} (h : ¬ x = y) : ¬ x.toInt = y.toInt := fun q => h (Int32.toInt_inj.mp q)
theorem kx_inc {x K : Int32} (h : ¬ K ≤ x) : (x + 1).toInt = x.toInt + 1 := by
  have h1 := kb_nleI h
  have h2 : K.toInt < 2147483648 := by have := Int32.toInt_lt K; omega
  have h3 : (1 : Int32).toInt = 1 := by decide
  have h4 : -2147483648 ≤ x.toInt := by have := Int32.le_toInt x; omega
  rw [kx_add (by omega) (by omega), h3]
theorem kx_dec {x : Int32} (h : ¬ x < 0) : (x + (-1)).toInt = x.toInt - 1 := by
  have h1 := kb_nlt0 h
  have h2 : x.toInt < 2147483648 := by have := Int32.toInt_lt x; omega
  have h3 : (-1 : Int32).toInt = -1 := by decide
  rw [kx_add (by omega) (by omega), h3]
  omega
theorem kmu_up {x K : Int32} (h : ¬ K ≤ x) : (K.toInt - (x + 1).toInt).toNat < (K.toInt - x.toInt).toNat := by
  have h1 := kb_nleI h
  rw [kx_inc h]
  omega
theorem kmu_dn {x : Int32} (h : ¬ x < 0) : ((x + (-1)).toInt + 1).toNat < (x.toInt + 1).toNat := by
  have h1 := kb_nlt0 h
  rw [kx_dec h]
  omega
theorem kmin_i (x y : Int32) : (kmin x y).toInt ≤ x.toInt ∧ (kmin x y).toInt ≤ y.toInt ∧ ((kmin x y).toInt = x.toInt ∨ (kmin x y).toInt = y.toInt) := by
  unfold kmin
  split
  · next h => have := Int32.lt_iff_toInt_lt.mp h; omega
  · next h => have := kx_nlt h; omega
theorem kmax_i (x y : Int32) : x.toInt ≤ (kmax x y).toInt ∧ y.toInt ≤ (kmax x y).toInt ∧ ((kmax x y).toInt = x.toInt ∨ (kmax x y).toInt = y.toInt) := by
  unfold kmax
  split
  · next h => have := Int32.lt_iff_toInt_lt.mp h; omega
  · next h => have := kx_nlt h; omega
theorem kp_0 : 0 ≤ (0 : Int32).toInt := by decide
theorem kp_n (n : Nat) : (0 : Int32).toInt ≤ n := by rw [show (0 : Int32).toInt = 0 by decide]; omega
theorem kmu_div10 {x : Int32} (h : ¬ x ≤ 0) : (x / 10).toInt.toNat < x.toInt.toNat := by
  have h1 := kx_nle h
  have h0 : (0 : Int32).toInt = 0 := (by decide)
  obtain ⟨j, hj, rfl⟩ := nI_of (x := x) (fun q => by have := Int32.lt_iff_toInt_lt.mp q; omega)
  have e : nI j / 10 = nI (j / 10) := pk_div hj (d := 10) (by decide) (by decide)
  rw [e, nI_toInt (by omega), nI_toInt hj]
  rw [nI_toInt hj] at h1
  omega
theorem kx_b255 (x : Int32) : 0 ≤ (x &&& 255).toInt ∧ (x &&& 255).toInt ≤ 255 := by
  obtain ⟨j, hj, e⟩ := pk_andE x (m := 255) 8 (by decide)
  rw [e, nI_toInt (by omega)]
  omega
theorem kz_nar {x : Int32} (h : x = 0 ∨ x = 1) : narrow .boolean (.int x) = .int x := by rcases h with rfl | rfl <;> decide
theorem kx_mulK (x : Int32) {y : Int32} {k : Int} (h : y.toInt = k) : (y * x).toInt = k * x.toInt ∨ k * x.toInt < -2147483648 ∨ 2147483648 ≤ k * x.toInt := by
  subst h
  by_cases h1 : -2147483648 ≤ y.toInt * x.toInt
  · by_cases h2 : y.toInt * x.toInt < 2147483648
    · exact Or.inl (by rw [Int32.toInt_mul, Int.bmod_eq_of_le] <;> omega)
    · exact Or.inr (Or.inr (by omega))
  · exact Or.inr (Or.inl (by omega))
