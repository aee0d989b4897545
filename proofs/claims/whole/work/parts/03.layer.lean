/-! A LAYER OVER THE KIT'S ROWS: the heap as a function (address to cell), one judgement gV with pc, locals and stack in plain sight; every row of it is one of the kit's rows over any list of cells that the function tells -/
abbrev gH : Type := Nat → Option va_E
/-- what stays through the whole run: classes and slots, the arrays' classes, the String constants' addresses -/
abbrev gG : Type := va_G × (Nat → ClassId) × (Nat → Nat)
def gT (G : gG) : List (ClassId × FieldType) := [(G.2.1 0, .int), (G.2.1 1, .byte), (G.2.1 2, .long), (G.2.1 3, .object RX0), (G.2.1 4, .object RX5)]
/-- the cells' shapes -/
abbrev oI (G : gG) (n : Nat) (f : Nat → Int32) : va_E := .inl (G.2.1 0, n, .inl f)
abbrev oB (G : gG) (n : Nat) (f : Nat → Int32) : va_E := .inl (G.2.1 1, n, .inl f)
abbrev oL (G : gG) (n : Nat) (f : Nat → Int64) : va_E := .inl (G.2.1 2, n, .inr (.inl f))
abbrev oQ (G : gG) (n : Nat) (f : Nat → Option Nat) : va_E := .inl (G.2.1 3, n, .inr (.inr (.inr (.inr f))))
abbrev oV (G : gG) (n : Nat) (f : Nat → Option Nat) : va_E := .inl (G.2.1 4, n, .inr (.inr (.inr (.inr f))))
def gu (h : gH) (a : Nat) (e : va_E) : gH := fun b => if b = a then some e else h b
theorem gu_eq (h : gH) (a : Nat) (e : va_E) : gu h a e a = some e := if_pos rfl
theorem gu_ne {h : gH} {a b : Nat} {e : va_E} (n : b ≠ a) : gu h a e b = h b := if_neg n
def gI (ws : va_W) (h : gH) : Prop := ∀ (a : Nat) (e : va_E), h a = some e ↔ ∃ k : Nat, ws[k]? = some (a, e)
def gOk (G : gG) (z0 : Nat) (h : gH) (H : Heap) : Prop := ∃ ws : va_W, va_P G.1 vwCl ws H ∧ va_D (fun q => z0 ≤ q) ws ∧ gI ws h
theorem g_set {A : Nat → Prop} {ws : va_W} {h : gH} {k a : Nat} {e0 e : va_E} (hD : va_D A ws) (hk : ws[k]? = some (a, e0)) (hh : gI ws h) : gI (ws.set k (a, e)) (gu h a e) := by
  intro b e1
  have hl : k < ws.length := (List.getElem?_eq_some_iff.mp hk).1
  constructor
  · intro hb
    by_cases n : b = a
    · subst n
      rw [gu_eq] at hb
      cases hb
      exact ⟨k, List.getElem?_set_self hl⟩
    · rw [gu_ne n] at hb
      obtain ⟨j, hj⟩ := (hh b e1).mp hb
      refine ⟨j, ?_⟩
      have hjk : k ≠ j := fun q => by subst q; rw [hk] at hj; cases hj; exact n rfl
      rw [List.getElem?_set_ne hjk]; exact hj
  · rintro ⟨j, hj⟩
    by_cases q : k = j
    · subst q
      rw [List.getElem?_set_self hl] at hj
      cases hj
      exact gu_eq _ _ _
    · rw [List.getElem?_set_ne q] at hj
      have n : b ≠ a := fun hba => q (hD.1 k j (a, e0) (b, e1) hk hj hba.symm)
      rw [gu_ne n]
      exact (hh b e1).mpr ⟨j, hj⟩
theorem g_fresh {A : Nat → Prop} {ws : va_W} {h : gH} {a : Nat} {e : va_E} (hD : va_D A (ws ++ [(a, e)])) (hh : gI ws h) : h a = none := by
  cases hq : h a with
  | none => rfl
  | some e' =>
    obtain ⟨k, hk⟩ := (hh a e').mp hq
    have hl : k < ws.length := (List.getElem?_eq_some_iff.mp hk).1
    have h1 : (ws ++ [(a, e)])[k]? = some (a, e') := by rw [List.getElem?_append_left hl]; exact hk
    have h2 : (ws ++ [(a, e)])[ws.length]? = some (a, e) := by rw [List.getElem?_append_right (Nat.le_refl _), Nat.sub_self]; rfl
    have := hD.1 k ws.length _ _ h1 h2 rfl
    omega
theorem g_push {A : Nat → Prop} {ws : va_W} {h : gH} {a : Nat} {e : va_E} (hD : va_D A (ws ++ [(a, e)])) (hh : gI ws h) : gI (ws ++ [(a, e)]) (gu h a e) := by
  have hf := g_fresh hD hh
  intro b e1
  constructor
  · intro hb
    by_cases n : b = a
    · subst n
      rw [gu_eq] at hb
      cases hb
      exact ⟨ws.length, by rw [List.getElem?_append_right (Nat.le_refl _), Nat.sub_self]; rfl⟩
    · rw [gu_ne n] at hb
      obtain ⟨j, hj⟩ := (hh b e1).mp hb
      exact ⟨j, by rw [List.getElem?_append_left (List.getElem?_eq_some_iff.mp hj).1]; exact hj⟩
  · rintro ⟨j, hj⟩
    by_cases hl : j < ws.length
    · rw [List.getElem?_append_left hl] at hj
      have hb := (hh b e1).mpr ⟨j, hj⟩
      have n : b ≠ a := fun q => by subst q; rw [hf] at hb; cases hb
      rw [gu_ne n]; exact hb
    · rw [List.getElem?_append_right (by omega)] at hj
      have hz : j - ws.length = 0 := by
        have := (List.getElem?_eq_some_iff.mp hj).1
        simp at this
        omega
      rw [hz] at hj
      cases hj
      exact gu_eq _ _ _
theorem gOk.lt {G : gG} {z0 : Nat} {h : gH} {H : Heap} (g : gOk G z0 h H) {a : Nat} {e : va_E} (ha : h a = some e) : z0 ≤ a ∧ a < H.size := by
  obtain ⟨ws, hP, hD, hh⟩ := g
  obtain ⟨k, hk⟩ := (hh a e).mp ha
  exact ⟨hD.2 k _ hk, (hP k _ hk).lt⟩
/-- the String constants: class, place, text, number; the first four are the words that are read -/
def gStrs : List (String × Nat × String × Nat) := [(RX3, 112, "queue", 0), (RX7, 190, "queue", 0), (RX3, 118, "push", 1), (RX7, 199, "push", 1), (RX3, 120, "pop", 2), (RX7, 204, "pop", 2), (RX3, 122, "pace", 3), (RX7, 209, "pace", 3), (RX6, 67, "no such length", 4), (RX6, 90, "no such number", 5), (RX6, 103, "no such list", 6), (RX6, 121, "no value", 7), (RX6, 191, "no such place", 8), (RX6, 196, "no such value", 9), (RX6, 217, "not to be dropped", 10), (RX6, 222, "no such pace", 11), (RX6, 243, "no such version", 12), (RX6, 246, "too many versions", 13)]
def gBytes (i : Nat) : List Int32 := match i with
  | 0 => [113, 117, 101, 117, 101]
  | 1 => [112, 117, 115, 104]
  | 2 => [112, 111, 112]
  | _ => [112, 97, 99, 101]
def gWd (z0 : Nat) (a av : Nat) (bs : List Int32) (U : State) (H : Heap) : Prop := va_O "java/lang/String" a (fun q => z0 ≤ q) U H ∧ va_OF "java/lang/String" "coder" "B" (.int 0) a (fun q => z0 ≤ q) U H ∧ va_OF "java/lang/String" "value" "[B" (.ref av) a (fun q => z0 ≤ q) U H ∧ va_T .byte av bs.length (fun j => .int (bs.getD j 0)) (fun q => z0 ≤ q) U H
def gS (G : gG) (z0 : Nat) (U : State) (H : Heap) : Prop := (∀ q ∈ gStrs, vk_R q.1 q.2.1 q.2.2.1 (G.2.2 q.2.2.2) U) ∧ (∀ i : Nat, i < 4 → gWd z0 (G.2.2 i) (G.2.2 (20 + i)) (gBytes i) U H) ∧ va_Z "java/lang/String" "COMPACT_STRINGS" "Z" (.int 1) (fun q => z0 ≤ q) U H ∧ va_Zq "jdk/internal/util/Preconditions" "SIOOBE_FORMATTER" "Ljava/util/function/BiFunction;" (fun q => z0 ≤ q) U H
def gDecl : List MethodName := [⟨"java/lang/RuntimeException", "<init>", "(Ljava/lang/String;)V"⟩, ⟨"java/lang/Exception", "<init>", "(Ljava/lang/String;)V"⟩, ⟨"java/lang/Throwable", "<init>", "(Ljava/lang/String;)V"⟩]
/-- what the tables say of nest mates and of the exceptions' classes -/
def gN (U : State) : Prop := (va_Nw (.methodLinkNest RX5 11 yX4_init RX6) U ∧ va_Nw (.methodLinkNest RX6 15 yX3_init RX6) U ∧ va_Nw (.methodLinkNest RX6 28 yX2_init RX6) U) ∧ (∀ E ∈ ["java/lang/IllegalArgumentException", "java/lang/IndexOutOfBoundsException", "java/util/NoSuchElementException", "java/lang/IllegalStateException"], va_Nw (.castable E E) U) ∧ (∀ q ∈ [("java/lang/IllegalArgumentException", "java/lang/IndexOutOfBoundsException"), ("java/util/NoSuchElementException", "java/lang/IndexOutOfBoundsException"), ("java/lang/IllegalStateException", "java/lang/IndexOutOfBoundsException"), ("java/lang/IllegalStateException", "java/lang/IllegalArgumentException")], va_Nc q.1 q.2 U) ∧ ∀ y ∈ gDecl, va_Nw (.declares y) U
def gK (G : gG) (z0 : Nat) (U : State) : Prop := va_K G.1 vwCl (gT G) U ∧ va_AO RX0 U ∧ va_AO RX5 U ∧ vx_Zq Bundle.tN "UNASSIGNED_STACK" Bundle.steD (fun q => z0 ≤ q) U U.heap ∧ vx_Zq Bundle.tN "SUPPRESSED_SENTINEL" Bundle.listD (fun q => z0 ≤ q) U U.heap ∧ gS G z0 U U.heap ∧ gN U
theorem gWd.moved {z0 a av : Nat} {bs : List Int32} {u U : State} {H : Heap} (hvm : u.vm.Alike U.vm) (h : gWd z0 a av bs u H) : gWd z0 a av bs U H := by
  obtain ⟨h1, h2, h3, h4⟩ := h
  exact ⟨va_O.moved hvm h1, va_OF.moved hvm h2, va_OF.moved hvm h3, va_T.moved hvm h4⟩
theorem gWd.kept {z0 a av : Nat} {bs : List Int32} {U : State} {H H1 : Heap} (h : gWd z0 a av bs U H) (hq : ∀ q : Nat, q < H.size → ¬ z0 ≤ q → H1[q]? = H[q]?) : gWd z0 a av bs U H1 := by
  obtain ⟨h1, h2, h3, h4⟩ := h
  exact ⟨h1.kept hq, h2.kept hq, h3.kept hq, h4.kept hq⟩
theorem gK.to {G : gG} {z0 : Nat} {s U : State} {H : Heap} (h : gK G z0 s) (hq : ∀ q : Nat, q < s.heap.size → ¬ z0 ≤ q → H[q]? = s.heap[q]?) (hU : U.heap = H) (hW : s.WarmedH U.vm) : gK G z0 U := by
  subst hU
  obtain ⟨h1, h2, h3, h4, h5, ⟨h6, h7, h7a, h7b⟩, ⟨h8, h9, h10⟩, h11, h12, h13⟩ := h
  exact ⟨va_K.moved hW.alike h1, va_AO.moved hW.alike h2, va_AO.moved hW.alike h3, (vx_Zq.moved hW.alike h4).kept hq, (vx_Zq.moved hW.alike h5).kept hq, ⟨fun q hm => vk_R.warm hW (h6 q hm), fun i hi => ((h7 i hi).moved hW.alike).kept hq, (va_Z.moved hW.alike h7a).kept hq, (va_Zq.moved hW.alike h7b).kept hq⟩, ⟨va_Nw.warmM hW h8, va_Nw.warmM hW h9, va_Nw.warmM hW h10⟩, fun q hm => va_Nw.warmC hW (h11 q hm), fun q hm => va_Nc.moved hW.alike (h12 q hm), fun q hm => va_Nw.warmD hW (h13 q hm)⟩
theorem gK.calling {G : gG} {z0 : Nat} {U : State} (g : JFrame) (mk : MethodId) (a : Array Value) (h : gK G z0 U) : gK G z0 (U.calling g mk a) := by
  obtain ⟨h1, h2, h3, h4, h5, ⟨h6, h7, h7a, h7b⟩, ⟨h8, h9, h10⟩, h11, h12, h13⟩ := h
  have r : U.vm.Alike (U.calling g mk a).vm := Vm.Alike.refl U.vm
  exact ⟨va_K.moved r h1, va_AO.moved r h2, va_AO.moved r h3, vx_Zq.moved r h4, vx_Zq.moved r h5, ⟨fun q hm => vk_R.same rfl (h6 q hm), fun i hi => (h7 i hi).moved r, va_Z.moved r h7a, va_Zq.moved r h7b⟩, ⟨va_Nw.same rfl (u := U) rfl h8, va_Nw.same rfl (u := U) rfl h9, va_Nw.same rfl (u := U) rfl h10⟩, fun q hm => va_Nw.same (by rfl) (u := U) rfl (h11 q hm), fun q hm => va_Nc.moved r (h12 q hm), fun q hm => va_Nw.same (by rfl) (u := U) rfl (h13 q hm)⟩
/-! the judgement -/
abbrev gX : Type := Program × Launch × Env × Room × State × MethodId × Array Value × List Frame × Method × Code × (State → Prop)
def gV (G : gG) (z0 : Nat) (X : gX) (cells slots : Nat) (h : gH) (pc : Nat) (L : List (Nat × Value)) (st : List Value) : Prop :=
  match X with
  | (p, l, e, R, s, m, args, below, meth, c, Q) => ∀ (H : Heap) (locs : List Loc) (ls : Array Slot), gOk G z0 h H → va_S (fun q => z0 ≤ q) s.heap H locs → lv_has ls c.maxLocals L → W p l e R s m args below meth c H locs cells slots Q (F0 m pc ls st)
/-- what a method's walk stands on: machine, code, locals, class, words, tables, answer's type, name -/
def gF (G : gG) (z0 : Nat) (X : gX) (cc : ByteArray) (nL : Nat) (own : String) (Ts : List Cond) (ret : Option FieldType) (nm : String) (fr lo mc ms : Nat) : Prop :=
  match X with
  | (p, _, _, R, s, m, args, _, meth, c, _) => p.tables.exec = Jvm.exec ∧ c.code = cc ∧ c.maxLocals = nL ∧ s.vm.findClass own = some m.cls ∧ (∀ w ∈ Ts, w.before args s = true) ∧ gK G z0 s ∧ z0 ≤ s.heap.size ∧ meth.locks = false ∧ meth.sig.returnType = ret ∧ meth.name = nm ∧ R = { frames := fr, cells := mc, slots := ms, locals := lo }
/-- a contract's end: the answer, the heap behind it -/
def gQ (G : gG) (z0 : Nat) (post : Option Value → gH → Prop) : Array Value → State → Outcome → State → Prop := fun _ st o t => (∃ (v : Option Value) (h' : gH), o = .returned v ∧ post v h' ∧ gOk G z0 h' t.heap) ∧ va_F (fun q => z0 ≤ q) st t
def gP (G : gG) (z0 : Nat) (vs : List Value) (h : gH) : Array Value → State → Prop := fun v U => v = vs.toArray ∧ z0 ≤ U.heap.size ∧ gOk G z0 h U.heap ∧ gK G z0 U
def gE (G : gG) (z0 : Nat) (X : gX) (post : Option Value → gH → Prop) (mc ms : Nat) : Prop :=
  match X with
  | (_, _, _, _, s, _, args, below, _, _, Q) => ∀ t : State, MQ below (gQ G z0 post) args s mc ms (fun q => z0 ≤ q) t → Q t
/-- a method's contract: from the heap h, with these arguments, it returns with post -/
def gC (G : gG) (z0 : Nat) (l : Launch) (y : MethodName) (ws : List Cond) (fr lo : Nat) (vs : List Value) (h : gH) (post : Option Value → gH → Prop) (mc ms : Nat) : Prop :=
  Met l y ws { frames := fr, cells := mc, slots := ms, locals := lo } (gP G z0 vs h) (gQ G z0 post) mc ms (fun q => z0 ≤ q)
theorem gP_blind (G : gG) (z0 : Nat) (vs : List Value) (h : gH) : FrameBlind (gP G z0 vs h) := fun a U g mk q => by
  obtain ⟨q0, q1, q2, q3⟩ := q
  exact ⟨q0, q1, q2, q3.calling g mk a⟩
set_option maxHeartbeats 4000000 in
theorem gC_of {G : gG} {z0 : Nat} {l : Launch} {y : MethodName} {ws ws' : List Cond} {fr lo : Nat} {vs : List Value} {h : gH} {post : Option Value → gH → Prop} {mc ms : Nat} {cc : ByteArray} {nL : Nat} {ret : Option FieldType} (hy : plainName y.cls = true) (hw : ws = Cond.code y cc nL ret :: ws') (hn : (lg_sl vs).length ≤ nL)
    (body : ∀ X : gX, gF G z0 X cc nL y.cls ws ret y.name fr lo mc ms → gE G z0 X post mc ms → X.2.1 = l → gV G z0 X 0 0 h 0 (lv_args 0 vs) []) : gC G z0 l y ws fr lo vs h post mc ms := by
  refine Met.ofW (cc := cc) (maxL := nL) (ret := ret) hy hw ?_
  intro p e s m args below meth c s₁ B hml hv
  obtain ⟨rfl, hz, hG, hK⟩ := hv
  have hts := atoms_spec (ws := ws) B.pre
  have hown : s.vm.findClass y.cls = some m.cls := findClass_of_methodNamed B.named
  have hnm : meth.name = y.name := (name_of_methodNamed B.named B.method).1
  have k := body (p, l, e, _, s, m, vs.toArray, below, meth, c, _) ⟨B.exec, B.bytes, hml, hown, hts, hK, hz, B.notSynchronized, B.returns, hnm, rfl⟩ (fun _ h9 => h9) rfl
  rw [lg_entry_eq]
  exact k s.heap [] _ hG va_S.rf (by rw [hml]; exact lv_entry vs hn)
section GV
variable {G : gG} {z0 : Nat} {X : gX} {cc : ByteArray} {nL fr lo mc ms : Nat} {own nm : String} {Ts : List Cond} {ret : Option FieldType} {cells slots : Nat} {h : gH} {pc pc' : Nat} {L L' : List (Nat × Value)} {st : List Value}
theorem v_iconst (F : gF G z0 X cc nL own Ts ret nm fr lo mc ms) {n : Int} {v : Int32} (d : decode cc pc = .ok (.iconst n, 1)) (hv : Int32.ofInt n = v) (hp : pc + 1 = pc') (k : gV G z0 X cells slots h pc' L (.int v :: st)) : gV G z0 X cells slots h pc L st := by
  obtain ⟨p, l, e, R, s, m, args, below, meth, c, Q⟩ := X
  obtain ⟨hx, hb, hml, hown, hts, ⟨hK, hKr⟩, hz, hlk, hr, hnm, hR⟩ := F
  subst hp
  intro H locs ls hG hS hL
  exact lv_iconst hx hb d hv (k H locs ls hG hS hL)
theorem v_bipush (F : gF G z0 X cc nL own Ts ret nm fr lo mc ms) {n : Int} {v : Int32} (d : decode cc pc = .ok (.bipush n, 2)) (hv : (Int8.ofInt n).toInt32 = v) (hp : pc + 2 = pc') (k : gV G z0 X cells slots h pc' L (.int v :: st)) : gV G z0 X cells slots h pc L st := by
  obtain ⟨p, l, e, R, s, m, args, below, meth, c, Q⟩ := X
  obtain ⟨hx, hb, hml, hown, hts, ⟨hK, hKr⟩, hz, hlk, hr, hnm, hR⟩ := F
  subst hp
  intro H locs ls hG hS hL
  exact lv_bipush hx hb d hv (k H locs ls hG hS hL)
theorem v_sipush (F : gF G z0 X cc nL own Ts ret nm fr lo mc ms) {n : Int} {v : Int32} (d : decode cc pc = .ok (.sipush n, 3)) (hv : (Int16.ofInt n).toInt32 = v) (hp : pc + 3 = pc') (k : gV G z0 X cells slots h pc' L (.int v :: st)) : gV G z0 X cells slots h pc L st := by
  obtain ⟨p, l, e, R, s, m, args, below, meth, c, Q⟩ := X
  obtain ⟨hx, hb, hml, hown, hts, ⟨hK, hKr⟩, hz, hlk, hr, hnm, hR⟩ := F
  subst hp
  intro H locs ls hG hS hL
  exact lv_sipush hx hb d hv (k H locs ls hG hS hL)
theorem v_lconst (F : gF G z0 X cc nL own Ts ret nm fr lo mc ms) {n : Fin 2} {v : Int64} (d : decode cc pc = .ok (.lconst n, 1)) (hv : Int64.ofNat (n : Nat) = v) (hp : pc + 1 = pc') (k : gV G z0 X cells slots h pc' L (.long v :: st)) : gV G z0 X cells slots h pc L st := by
  obtain ⟨p, l, e, R, s, m, args, below, meth, c, Q⟩ := X
  obtain ⟨hx, hb, hml, hown, hts, ⟨hK, hKr⟩, hz, hlk, hr, hnm, hR⟩ := F
  subst hp
  intro H locs ls hG hS hL
  exact lv_lconst hx hb d hv (k H locs ls hG hS hL)
theorem v_null (F : gF G z0 X cc nL own Ts ret nm fr lo mc ms)  (d : decode cc pc = .ok (.aconst_null, 1))  (hp : pc + 1 = pc') (k : gV G z0 X cells slots h pc' L (.null :: st)) : gV G z0 X cells slots h pc L st := by
  obtain ⟨p, l, e, R, s, m, args, below, meth, c, Q⟩ := X
  obtain ⟨hx, hb, hml, hown, hts, ⟨hK, hKr⟩, hz, hlk, hr, hnm, hR⟩ := F
  subst hp
  intro H locs ls hG hS hL
  exact lv_null hx hb d  (k H locs ls hG hS hL)
theorem v_fconst0 (F : gF G z0 X cc nL own Ts ret nm fr lo mc ms)  (d : decode cc pc = .ok (.fconst 0, 1))  (hp : pc + 1 = pc') (k : gV G z0 X cells slots h pc' L (.float FP.fconst0 :: st)) : gV G z0 X cells slots h pc L st := by
  obtain ⟨p, l, e, R, s, m, args, below, meth, c, Q⟩ := X
  obtain ⟨hx, hb, hml, hown, hts, ⟨hK, hKr⟩, hz, hlk, hr, hnm, hR⟩ := F
  subst hp
  intro H locs ls hG hS hL
  exact lv_fconst0 hx hb d  (k H locs ls hG hS hL)
theorem v_iadd (F : gF G z0 X cc nL own Ts ret nm fr lo mc ms) {x y v : Int32} (d : decode cc pc = .ok (.iadd, 1)) (hv : x + y = v) (hp : pc + 1 = pc') (k : gV G z0 X cells slots h pc' L (.int v :: st)) : gV G z0 X cells slots h pc L (.int y :: .int x :: st) := by
  obtain ⟨p, l, e, R, s, m, args, below, meth, c, Q⟩ := X
  obtain ⟨hx, hb, hml, hown, hts, ⟨hK, hKr⟩, hz, hlk, hr, hnm, hR⟩ := F
  subst hp
  intro H locs ls hG hS hL
  subst hv
  exact lv_iadd hx hb d (k H locs ls hG hS hL)
theorem v_isub (F : gF G z0 X cc nL own Ts ret nm fr lo mc ms) {x y v : Int32} (d : decode cc pc = .ok (.isub, 1)) (hv : x - y = v) (hp : pc + 1 = pc') (k : gV G z0 X cells slots h pc' L (.int v :: st)) : gV G z0 X cells slots h pc L (.int y :: .int x :: st) := by
  obtain ⟨p, l, e, R, s, m, args, below, meth, c, Q⟩ := X
  obtain ⟨hx, hb, hml, hown, hts, ⟨hK, hKr⟩, hz, hlk, hr, hnm, hR⟩ := F
  subst hp
  intro H locs ls hG hS hL
  subst hv
  exact lv_isub hx hb d (k H locs ls hG hS hL)
theorem v_imul (F : gF G z0 X cc nL own Ts ret nm fr lo mc ms) {x y v : Int32} (d : decode cc pc = .ok (.imul, 1)) (hv : x * y = v) (hp : pc + 1 = pc') (k : gV G z0 X cells slots h pc' L (.int v :: st)) : gV G z0 X cells slots h pc L (.int y :: .int x :: st) := by
  obtain ⟨p, l, e, R, s, m, args, below, meth, c, Q⟩ := X
  obtain ⟨hx, hb, hml, hown, hts, ⟨hK, hKr⟩, hz, hlk, hr, hnm, hR⟩ := F
  subst hp
  intro H locs ls hG hS hL
  subst hv
  exact lv_imul hx hb d (k H locs ls hG hS hL)
theorem v_iand (F : gF G z0 X cc nL own Ts ret nm fr lo mc ms) {x y v : Int32} (d : decode cc pc = .ok (.iand, 1)) (hv : x &&& y = v) (hp : pc + 1 = pc') (k : gV G z0 X cells slots h pc' L (.int v :: st)) : gV G z0 X cells slots h pc L (.int y :: .int x :: st) := by
  obtain ⟨p, l, e, R, s, m, args, below, meth, c, Q⟩ := X
  obtain ⟨hx, hb, hml, hown, hts, ⟨hK, hKr⟩, hz, hlk, hr, hnm, hR⟩ := F
  subst hp
  intro H locs ls hG hS hL
  subst hv
  exact lv_iand hx hb d (k H locs ls hG hS hL)
theorem v_ishl (F : gF G z0 X cc nL own Ts ret nm fr lo mc ms) {x y v : Int32} (d : decode cc pc = .ok (.ishl, 1)) (hv : x <<< (y &&& 31) = v) (hp : pc + 1 = pc') (k : gV G z0 X cells slots h pc' L (.int v :: st)) : gV G z0 X cells slots h pc L (.int y :: .int x :: st) := by
  obtain ⟨p, l, e, R, s, m, args, below, meth, c, Q⟩ := X
  obtain ⟨hx, hb, hml, hown, hts, ⟨hK, hKr⟩, hz, hlk, hr, hnm, hR⟩ := F
  subst hp
  intro H locs ls hG hS hL
  subst hv
  exact lv_ishl hx hb d (k H locs ls hG hS hL)
theorem v_ishr (F : gF G z0 X cc nL own Ts ret nm fr lo mc ms) {x y v : Int32} (d : decode cc pc = .ok (.ishr, 1)) (hv : x >>> (y &&& 31) = v) (hp : pc + 1 = pc') (k : gV G z0 X cells slots h pc' L (.int v :: st)) : gV G z0 X cells slots h pc L (.int y :: .int x :: st) := by
  obtain ⟨p, l, e, R, s, m, args, below, meth, c, Q⟩ := X
  obtain ⟨hx, hb, hml, hown, hts, ⟨hK, hKr⟩, hz, hlk, hr, hnm, hR⟩ := F
  subst hp
  intro H locs ls hG hS hL
  subst hv
  exact lv_ishr hx hb d (k H locs ls hG hS hL)
theorem v_irem (F : gF G z0 X cc nL own Ts ret nm fr lo mc ms) {x y v : Int32} (d : decode cc pc = .ok (.irem, 1)) (hne : ¬ y = 0) (hv : x - x / y * y = v) (hp : pc + 1 = pc') (k : gV G z0 X cells slots h pc' L (.int v :: st)) : gV G z0 X cells slots h pc L (.int y :: .int x :: st) := by
  obtain ⟨p, l, e, R, s, m, args, below, meth, c, Q⟩ := X
  obtain ⟨hx, hb, hml, hown, hts, ⟨hK, hKr⟩, hz, hlk, hr, hnm, hR⟩ := F
  subst hp
  intro H locs ls hG hS hL
  subst hv
  exact lv_irem hx hb d hne (k H locs ls hG hS hL)
theorem v_ladd (F : gF G z0 X cc nL own Ts ret nm fr lo mc ms) {x y v : Int64} (d : decode cc pc = .ok (.ladd, 1)) (hv : x + y = v) (hp : pc + 1 = pc') (k : gV G z0 X cells slots h pc' L (.long v :: st)) : gV G z0 X cells slots h pc L (.long y :: .long x :: st) := by
  obtain ⟨p, l, e, R, s, m, args, below, meth, c, Q⟩ := X
  obtain ⟨hx, hb, hml, hown, hts, ⟨hK, hKr⟩, hz, hlk, hr, hnm, hR⟩ := F
  subst hp
  intro H locs ls hG hS hL
  subst hv
  exact lv_ladd hx hb d (k H locs ls hG hS hL)
theorem v_lmul (F : gF G z0 X cc nL own Ts ret nm fr lo mc ms) {x y v : Int64} (d : decode cc pc = .ok (.lmul, 1)) (hv : x * y = v) (hp : pc + 1 = pc') (k : gV G z0 X cells slots h pc' L (.long v :: st)) : gV G z0 X cells slots h pc L (.long y :: .long x :: st) := by
  obtain ⟨p, l, e, R, s, m, args, below, meth, c, Q⟩ := X
  obtain ⟨hx, hb, hml, hown, hts, ⟨hK, hKr⟩, hz, hlk, hr, hnm, hR⟩ := F
  subst hp
  intro H locs ls hG hS hL
  subst hv
  exact lv_lmul hx hb d (k H locs ls hG hS hL)
theorem v_i2l (F : gF G z0 X cc nL own Ts ret nm fr lo mc ms) {x : Int32} {v : Int64} (d : decode cc pc = .ok (.i2l, 1)) (hv : x.toInt64 = v) (hp : pc + 1 = pc') (k : gV G z0 X cells slots h pc' L (.long v :: st)) : gV G z0 X cells slots h pc L (.int x :: st) := by
  obtain ⟨p, l, e, R, s, m, args, below, meth, c, Q⟩ := X
  obtain ⟨hx, hb, hml, hown, hts, ⟨hK, hKr⟩, hz, hlk, hr, hnm, hR⟩ := F
  subst hp
  intro H locs ls hG hS hL
  exact lv_i2l hx hb d hv (k H locs ls hG hS hL)
theorem v_i2b (F : gF G z0 X cc nL own Ts ret nm fr lo mc ms) {x v : Int32} (d : decode cc pc = .ok (.i2b, 1)) (hv : x.toInt8.toInt32 = v) (hp : pc + 1 = pc') (k : gV G z0 X cells slots h pc' L (.int v :: st)) : gV G z0 X cells slots h pc L (.int x :: st) := by
  obtain ⟨p, l, e, R, s, m, args, below, meth, c, Q⟩ := X
  obtain ⟨hx, hb, hml, hown, hts, ⟨hK, hKr⟩, hz, hlk, hr, hnm, hR⟩ := F
  subst hp
  intro H locs ls hG hS hL
  exact lv_i2b hx hb d hv (k H locs ls hG hS hL)
theorem v_i2f (F : gF G z0 X cc nL own Ts ret nm fr lo mc ms) {x : Int32} (d : decode cc pc = .ok (.i2f, 1))  (hp : pc + 1 = pc') (k : gV G z0 X cells slots h pc' L (.float (FP.i2f x) :: st)) : gV G z0 X cells slots h pc L (.int x :: st) := by
  obtain ⟨p, l, e, R, s, m, args, below, meth, c, Q⟩ := X
  obtain ⟨hx, hb, hml, hown, hts, ⟨hK, hKr⟩, hz, hlk, hr, hnm, hR⟩ := F
  subst hp
  intro H locs ls hG hS hL
  exact lv_i2f hx hb d  (k H locs ls hG hS hL)
theorem v_lcmp (F : gF G z0 X cc nL own Ts ret nm fr lo mc ms) {x y : Int64} (d : decode cc pc = .ok (.lcmp, 1))  (hp : pc + 1 = pc') (k : gV G z0 X cells slots h pc' L (.int (lg_cmp x y) :: st)) : gV G z0 X cells slots h pc L (.long y :: .long x :: st) := by
  obtain ⟨p, l, e, R, s, m, args, below, meth, c, Q⟩ := X
  obtain ⟨hx, hb, hml, hown, hts, ⟨hK, hKr⟩, hz, hlk, hr, hnm, hR⟩ := F
  subst hp
  intro H locs ls hG hS hL
  exact W.lcmp hx hb d  (k H locs ls hG hS hL)
theorem v_pop (F : gF G z0 X cc nL own Ts ret nm fr lo mc ms) {va : Value} (d : decode cc pc = .ok (.pop, 1)) (hva : va.category = 1) (hp : pc + 1 = pc') (k : gV G z0 X cells slots h pc' L st) : gV G z0 X cells slots h pc L (va :: st) := by
  obtain ⟨p, l, e, R, s, m, args, below, meth, c, Q⟩ := X
  obtain ⟨hx, hb, hml, hown, hts, ⟨hK, hKr⟩, hz, hlk, hr, hnm, hR⟩ := F
  subst hp
  intro H locs ls hG hS hL
  exact lv_pop hx hb d hva (k H locs ls hG hS hL)
theorem v_dup (F : gF G z0 X cc nL own Ts ret nm fr lo mc ms) {va : Value} (d : decode cc pc = .ok (.dup, 1)) (hva : va.category = 1) (hp : pc + 1 = pc') (k : gV G z0 X cells slots h pc' L (va :: va :: st)) : gV G z0 X cells slots h pc L (va :: st) := by
  obtain ⟨p, l, e, R, s, m, args, below, meth, c, Q⟩ := X
  obtain ⟨hx, hb, hml, hown, hts, ⟨hK, hKr⟩, hz, hlk, hr, hnm, hR⟩ := F
  subst hp
  intro H locs ls hG hS hL
  exact lv_dup hx hb d hva (k H locs ls hG hS hL)
theorem v_dup2 (F : gF G z0 X cc nL own Ts ret nm fr lo mc ms) {va vb : Value} (d : decode cc pc = .ok (.dup2, 1)) (hva : va.category = 1) (hvb : vb.category = 1) (hp : pc + 1 = pc') (k : gV G z0 X cells slots h pc' L (va :: vb :: va :: vb :: st)) : gV G z0 X cells slots h pc L (va :: vb :: st) := by
  obtain ⟨p, l, e, R, s, m, args, below, meth, c, Q⟩ := X
  obtain ⟨hx, hb, hml, hown, hts, ⟨hK, hKr⟩, hz, hlk, hr, hnm, hR⟩ := F
  subst hp
  intro H locs ls hG hS hL
  exact lv_dup2_11 hx hb d hva hvb (k H locs ls hG hS hL)
theorem v_iload_n (F : gF G z0 X cc nL own Ts ret nm fr lo mc ms) {kk : Fin 4} {i j : Nat} {x : Int32} (d : decode cc pc = .ok (.iload_n kk, 1)) (hi : (kk : Nat) = i) (hl : L[j]? = some (i, .int x)) (hp : pc + 1 = pc') (k : gV G z0 X cells slots h pc' L (.int x :: st)) : gV G z0 X cells slots h pc L st := by
  obtain ⟨p, l, e, R, s, m, args, below, meth, c, Q⟩ := X
  obtain ⟨hx, hb, hml, hown, hts, ⟨hK, hKr⟩, hz, hlk, hr, hnm, hR⟩ := F
  subst hp
  intro H locs ls hG hS hL
  exact lv_iload_n hx hb d hi (lv_at hL j hl) (k H locs ls hG hS hL)
theorem v_iload (F : gF G z0 X cc nL own Ts ret nm fr lo mc ms) {i j : Nat} {x : Int32} (d : decode cc pc = .ok (.iload i, 2)) (hl : L[j]? = some (i, .int x)) (hp : pc + 2 = pc') (k : gV G z0 X cells slots h pc' L (.int x :: st)) : gV G z0 X cells slots h pc L st := by
  obtain ⟨p, l, e, R, s, m, args, below, meth, c, Q⟩ := X
  obtain ⟨hx, hb, hml, hown, hts, ⟨hK, hKr⟩, hz, hlk, hr, hnm, hR⟩ := F
  subst hp
  intro H locs ls hG hS hL
  exact lv_iload hx hb d (lv_at hL j hl) (k H locs ls hG hS hL)
theorem v_lload_n (F : gF G z0 X cc nL own Ts ret nm fr lo mc ms) {kk : Fin 4} {i j : Nat} {x : Int64} (d : decode cc pc = .ok (.lload_n kk, 1)) (hi : (kk : Nat) = i) (hl : L[j]? = some (i, .long x)) (hp : pc + 1 = pc') (k : gV G z0 X cells slots h pc' L (.long x :: st)) : gV G z0 X cells slots h pc L st := by
  obtain ⟨p, l, e, R, s, m, args, below, meth, c, Q⟩ := X
  obtain ⟨hx, hb, hml, hown, hts, ⟨hK, hKr⟩, hz, hlk, hr, hnm, hR⟩ := F
  subst hp
  intro H locs ls hG hS hL
  exact lv_lload_n hx hb d hi (lv_at hL j hl) (k H locs ls hG hS hL)
theorem v_lload (F : gF G z0 X cc nL own Ts ret nm fr lo mc ms) {i j : Nat} {x : Int64} (d : decode cc pc = .ok (.lload i, 2)) (hl : L[j]? = some (i, .long x)) (hp : pc + 2 = pc') (k : gV G z0 X cells slots h pc' L (.long x :: st)) : gV G z0 X cells slots h pc L st := by
  obtain ⟨p, l, e, R, s, m, args, below, meth, c, Q⟩ := X
  obtain ⟨hx, hb, hml, hown, hts, ⟨hK, hKr⟩, hz, hlk, hr, hnm, hR⟩ := F
  subst hp
  intro H locs ls hG hS hL
  exact lv_lload hx hb d (lv_at hL j hl) (k H locs ls hG hS hL)
theorem v_aload_n (F : gF G z0 X cc nL own Ts ret nm fr lo mc ms) {kk : Fin 4} {i j : Nat} {x : Nat} (d : decode cc pc = .ok (.aload_n kk, 1)) (hi : (kk : Nat) = i) (hl : L[j]? = some (i, .ref x)) (hp : pc + 1 = pc') (k : gV G z0 X cells slots h pc' L (.ref x :: st)) : gV G z0 X cells slots h pc L st := by
  obtain ⟨p, l, e, R, s, m, args, below, meth, c, Q⟩ := X
  obtain ⟨hx, hb, hml, hown, hts, ⟨hK, hKr⟩, hz, hlk, hr, hnm, hR⟩ := F
  subst hp
  intro H locs ls hG hS hL
  exact lv_aload_n hx hb d hi (lv_at hL j hl) (k H locs ls hG hS hL)
theorem v_aload (F : gF G z0 X cc nL own Ts ret nm fr lo mc ms) {i j : Nat} {x : Nat} (d : decode cc pc = .ok (.aload i, 2)) (hl : L[j]? = some (i, .ref x)) (hp : pc + 2 = pc') (k : gV G z0 X cells slots h pc' L (.ref x :: st)) : gV G z0 X cells slots h pc L st := by
  obtain ⟨p, l, e, R, s, m, args, below, meth, c, Q⟩ := X
  obtain ⟨hx, hb, hml, hown, hts, ⟨hK, hKr⟩, hz, hlk, hr, hnm, hR⟩ := F
  subst hp
  intro H locs ls hG hS hL
  exact lv_aload hx hb d (lv_at hL j hl) (k H locs ls hG hS hL)
theorem v_aload0_n (F : gF G z0 X cc nL own Ts ret nm fr lo mc ms) {kk : Fin 4} {i j : Nat} (d : decode cc pc = .ok (.aload_n kk, 1)) (hi : (kk : Nat) = i) (hl : L[j]? = some (i, .null)) (hp : pc + 1 = pc') (k : gV G z0 X cells slots h pc' L (.null :: st)) : gV G z0 X cells slots h pc L st := by
  obtain ⟨p, l, e, R, s, m, args, below, meth, c, Q⟩ := X
  obtain ⟨hx, hb, hml, hown, hts, ⟨hK, hKr⟩, hz, hlk, hr, hnm, hR⟩ := F
  subst hp
  intro H locs ls hG hS hL
  exact lv_aload_nN hx hb d hi (lv_at hL j hl) (k H locs ls hG hS hL)
theorem v_aload0 (F : gF G z0 X cc nL own Ts ret nm fr lo mc ms) {i j : Nat} (d : decode cc pc = .ok (.aload i, 2)) (hl : L[j]? = some (i, .null)) (hp : pc + 2 = pc') (k : gV G z0 X cells slots h pc' L (.null :: st)) : gV G z0 X cells slots h pc L st := by
  obtain ⟨p, l, e, R, s, m, args, below, meth, c, Q⟩ := X
  obtain ⟨hx, hb, hml, hown, hts, ⟨hK, hKr⟩, hz, hlk, hr, hnm, hR⟩ := F
  subst hp
  intro H locs ls hG hS hL
  exact lv_aloadN hx hb d (lv_at hL j hl) (k H locs ls hG hS hL)
theorem v_aloadq_n (F : gF G z0 X cc nL own Ts ret nm fr lo mc ms) {kk : Fin 4} {i j : Nat} {r : Option Nat} (d : decode cc pc = .ok (.aload_n kk, 1)) (hi : (kk : Nat) = i) (hl : L[j]? = some (i, va_rf r)) (hp : pc + 1 = pc') (k : gV G z0 X cells slots h pc' L (va_rf r :: st)) : gV G z0 X cells slots h pc L st := by
  cases r with
  | none => exact v_aload0_n F d hi hl hp k
  | some a => exact v_aload_n F d hi hl hp k
theorem v_aloadq (F : gF G z0 X cc nL own Ts ret nm fr lo mc ms)  {i j : Nat} {r : Option Nat} (d : decode cc pc = .ok (.aload i, 2))  (hl : L[j]? = some (i, va_rf r)) (hp : pc + 2 = pc') (k : gV G z0 X cells slots h pc' L (va_rf r :: st)) : gV G z0 X cells slots h pc L st := by
  cases r with
  | none => exact v_aload0 F d  hl hp k
  | some a => exact v_aload F d  hl hp k
theorem v_istore_n (F : gF G z0 X cc nL own Ts ret nm fr lo mc ms) {kk : Fin 4} {i : Nat} {x : Int32} (d : decode cc pc = .ok (.istore_n kk, 1)) (hi : (kk : Nat) = i) (hn : i < nL) (hl : (i, Value.int x) :: L.filter (fun q => !(q.1 == i) && !(q.1 + 1 == i && q.2.category == 2)) = L') (hp : pc + 1 = pc') (k : gV G z0 X cells slots h pc' L' st) : gV G z0 X cells slots h pc L (Value.int x :: st) := by
  obtain ⟨p, l, e, R, s, m, args, below, meth, c, Q⟩ := X
  obtain ⟨hx, hb, hml, hown, hts, ⟨hK, hKr⟩, hz, hlk, hr, hnm, hR⟩ := F
  subst hp
  intro H locs ls hG hS hL
  exact lv_istore_n hx hb d hi hL (by rw [hml]; exact hn) hl (fun ls' hL' => k H locs ls' hG hS hL')
theorem v_istore (F : gF G z0 X cc nL own Ts ret nm fr lo mc ms)  {i : Nat} {x : Int32} (d : decode cc pc = .ok (.istore i, 2))  (hn : i < nL) (hl : (i, Value.int x) :: L.filter (fun q => !(q.1 == i) && !(q.1 + 1 == i && q.2.category == 2)) = L') (hp : pc + 2 = pc') (k : gV G z0 X cells slots h pc' L' st) : gV G z0 X cells slots h pc L (Value.int x :: st) := by
  obtain ⟨p, l, e, R, s, m, args, below, meth, c, Q⟩ := X
  obtain ⟨hx, hb, hml, hown, hts, ⟨hK, hKr⟩, hz, hlk, hr, hnm, hR⟩ := F
  subst hp
  intro H locs ls hG hS hL
  exact lv_istore hx hb d  hL (by rw [hml]; exact hn) hl (fun ls' hL' => k H locs ls' hG hS hL')
theorem v_lstore_n (F : gF G z0 X cc nL own Ts ret nm fr lo mc ms) {kk : Fin 4} {i : Nat} {x : Int64} (d : decode cc pc = .ok (.lstore_n kk, 1)) (hi : (kk : Nat) = i) (hn : i + 1 < nL) (hl : (i, Value.long x) :: L.filter (fun q => !(q.1 == i) && (!(q.1 == i + 1) && !(q.1 + 1 == i && q.2.category == 2))) = L') (hp : pc + 1 = pc') (k : gV G z0 X cells slots h pc' L' st) : gV G z0 X cells slots h pc L (Value.long x :: st) := by
  obtain ⟨p, l, e, R, s, m, args, below, meth, c, Q⟩ := X
  obtain ⟨hx, hb, hml, hown, hts, ⟨hK, hKr⟩, hz, hlk, hr, hnm, hR⟩ := F
  subst hp
  intro H locs ls hG hS hL
  exact lv_lstore_n hx hb d hi hL (by rw [hml]; exact hn) hl (fun ls' hL' => k H locs ls' hG hS hL')
theorem v_lstore (F : gF G z0 X cc nL own Ts ret nm fr lo mc ms)  {i : Nat} {x : Int64} (d : decode cc pc = .ok (.lstore i, 2))  (hn : i + 1 < nL) (hl : (i, Value.long x) :: L.filter (fun q => !(q.1 == i) && (!(q.1 == i + 1) && !(q.1 + 1 == i && q.2.category == 2))) = L') (hp : pc + 2 = pc') (k : gV G z0 X cells slots h pc' L' st) : gV G z0 X cells slots h pc L (Value.long x :: st) := by
  obtain ⟨p, l, e, R, s, m, args, below, meth, c, Q⟩ := X
  obtain ⟨hx, hb, hml, hown, hts, ⟨hK, hKr⟩, hz, hlk, hr, hnm, hR⟩ := F
  subst hp
  intro H locs ls hG hS hL
  exact lv_lstore hx hb d  hL (by rw [hml]; exact hn) hl (fun ls' hL' => k H locs ls' hG hS hL')
theorem v_dstore (F : gF G z0 X cc nL own Ts ret nm fr lo mc ms)  {i : Nat} {x : UInt64} (d : decode cc pc = .ok (.dstore i, 2))  (hn : i + 1 < nL) (hl : (i, Value.double x) :: L.filter (fun q => !(q.1 == i) && (!(q.1 == i + 1) && !(q.1 + 1 == i && q.2.category == 2))) = L') (hp : pc + 2 = pc') (k : gV G z0 X cells slots h pc' L' st) : gV G z0 X cells slots h pc L (Value.double x :: st) := by
  obtain ⟨p, l, e, R, s, m, args, below, meth, c, Q⟩ := X
  obtain ⟨hx, hb, hml, hown, hts, ⟨hK, hKr⟩, hz, hlk, hr, hnm, hR⟩ := F
  subst hp
  intro H locs ls hG hS hL
  exact lv_dstore hx hb d  hL (by rw [hml]; exact hn) hl (fun ls' hL' => k H locs ls' hG hS hL')
theorem v_astore_n (F : gF G z0 X cc nL own Ts ret nm fr lo mc ms) {kk : Fin 4} {i : Nat} {x : Nat} (d : decode cc pc = .ok (.astore_n kk, 1)) (hi : (kk : Nat) = i) (hn : i < nL) (hl : (i, Value.ref x) :: L.filter (fun q => !(q.1 == i) && !(q.1 + 1 == i && q.2.category == 2)) = L') (hp : pc + 1 = pc') (k : gV G z0 X cells slots h pc' L' st) : gV G z0 X cells slots h pc L (Value.ref x :: st) := by
  obtain ⟨p, l, e, R, s, m, args, below, meth, c, Q⟩ := X
  obtain ⟨hx, hb, hml, hown, hts, ⟨hK, hKr⟩, hz, hlk, hr, hnm, hR⟩ := F
  subst hp
  intro H locs ls hG hS hL
  exact lv_astore_n hx hb d hi hL (by rw [hml]; exact hn) hl (fun ls' hL' => k H locs ls' hG hS hL')
theorem v_astore (F : gF G z0 X cc nL own Ts ret nm fr lo mc ms)  {i : Nat} {x : Nat} (d : decode cc pc = .ok (.astore i, 2))  (hn : i < nL) (hl : (i, Value.ref x) :: L.filter (fun q => !(q.1 == i) && !(q.1 + 1 == i && q.2.category == 2)) = L') (hp : pc + 2 = pc') (k : gV G z0 X cells slots h pc' L' st) : gV G z0 X cells slots h pc L (Value.ref x :: st) := by
  obtain ⟨p, l, e, R, s, m, args, below, meth, c, Q⟩ := X
  obtain ⟨hx, hb, hml, hown, hts, ⟨hK, hKr⟩, hz, hlk, hr, hnm, hR⟩ := F
  subst hp
  intro H locs ls hG hS hL
  exact lv_astore hx hb d  hL (by rw [hml]; exact hn) hl (fun ls' hL' => k H locs ls' hG hS hL')
theorem v_astore0_n (F : gF G z0 X cc nL own Ts ret nm fr lo mc ms) {kk : Fin 4} {i : Nat}  (d : decode cc pc = .ok (.astore_n kk, 1)) (hi : (kk : Nat) = i) (hn : i < nL) (hl : (i, Value.null) :: L.filter (fun q => !(q.1 == i) && !(q.1 + 1 == i && q.2.category == 2)) = L') (hp : pc + 1 = pc') (k : gV G z0 X cells slots h pc' L' st) : gV G z0 X cells slots h pc L (Value.null :: st) := by
  obtain ⟨p, l, e, R, s, m, args, below, meth, c, Q⟩ := X
  obtain ⟨hx, hb, hml, hown, hts, ⟨hK, hKr⟩, hz, hlk, hr, hnm, hR⟩ := F
  subst hp
  intro H locs ls hG hS hL
  exact lv_astore_nN hx hb d hi hL (by rw [hml]; exact hn) hl (fun ls' hL' => k H locs ls' hG hS hL')
theorem v_astore0 (F : gF G z0 X cc nL own Ts ret nm fr lo mc ms)  {i : Nat}  (d : decode cc pc = .ok (.astore i, 2))  (hn : i < nL) (hl : (i, Value.null) :: L.filter (fun q => !(q.1 == i) && !(q.1 + 1 == i && q.2.category == 2)) = L') (hp : pc + 2 = pc') (k : gV G z0 X cells slots h pc' L' st) : gV G z0 X cells slots h pc L (Value.null :: st) := by
  obtain ⟨p, l, e, R, s, m, args, below, meth, c, Q⟩ := X
  obtain ⟨hx, hb, hml, hown, hts, ⟨hK, hKr⟩, hz, hlk, hr, hnm, hR⟩ := F
  subst hp
  intro H locs ls hG hS hL
  exact lv_astoreN hx hb d  hL (by rw [hml]; exact hn) hl (fun ls' hL' => k H locs ls' hG hS hL')
theorem v_astoreq_n (F : gF G z0 X cc nL own Ts ret nm fr lo mc ms) {kk : Fin 4} {i : Nat} {r : Option Nat} (d : decode cc pc = .ok (.astore_n kk, 1)) (hi : (kk : Nat) = i) (hn : i < nL) (hl : (i, va_rf r) :: L.filter (fun q => !(q.1 == i) && !(q.1 + 1 == i && q.2.category == 2)) = L') (hp : pc + 1 = pc') (k : gV G z0 X cells slots h pc' L' st) : gV G z0 X cells slots h pc L (va_rf r :: st) := by
  cases r with
  | none => exact v_astore0_n F d hi hn hl hp k
  | some a => exact v_astore_n F d hi hn hl hp k
theorem v_astoreq (F : gF G z0 X cc nL own Ts ret nm fr lo mc ms)  {i : Nat} {r : Option Nat} (d : decode cc pc = .ok (.astore i, 2))  (hn : i < nL) (hl : (i, va_rf r) :: L.filter (fun q => !(q.1 == i) && !(q.1 + 1 == i && q.2.category == 2)) = L') (hp : pc + 2 = pc') (k : gV G z0 X cells slots h pc' L' st) : gV G z0 X cells slots h pc L (va_rf r :: st) := by
  cases r with
  | none => exact v_astore0 F d  hn hl hp k
  | some a => exact v_astore F d  hn hl hp k
theorem v_iinc (F : gF G z0 X cc nL own Ts ret nm fr lo mc ms) {i j : Nat} {n : Int} {x v : Int32} (d : decode cc pc = .ok (.iinc i n, 3)) (hk : L[j]? = some (i, .int x)) (hv : x + Int32.ofInt n = v) (hn : i < nL) (hl : (i, Value.int v) :: L.filter (fun q => !(q.1 == i) && !(q.1 + 1 == i && q.2.category == 2)) = L') (hp : pc + 3 = pc') (k : gV G z0 X cells slots h pc' L' st) : gV G z0 X cells slots h pc L st := by
  obtain ⟨p, l, e, R, s, m, args, below, meth, c, Q⟩ := X
  obtain ⟨hx, hb, hml, hown, hts, ⟨hK, hKr⟩, hz, hlk, hr, hnm, hR⟩ := F
  subst hp
  intro H locs ls hG hS hL
  exact lv_iinc hx hb d hL hk hv (by rw [hml]; exact hn) hl (fun ls' hL' => k H locs ls' hG hS hL')
theorem v_icmp_eq (F : gF G z0 X cc nL own Ts ret nm fr lo mc ms) {x y : Int32} {off : Int} {tgt : Nat} (d : decode cc pc = .ok (.if_icmp .eq off, 3)) (ht : (pc : Int) + off = (tgt : Int)) (hp : pc + 3 = pc') (kt : x = y → gV G z0 X cells slots h tgt L st) (kf : ¬ x = y → gV G z0 X cells slots h pc' L st) : gV G z0 X cells slots h pc L (.int y :: .int x :: st) := by
  obtain ⟨p, l, e, R, s, m, args, below, meth, c, Q⟩ := X
  obtain ⟨hx, hb, hml, hown, hts, ⟨hK, hKr⟩, hz, hlk, hr, hnm, hR⟩ := F
  subst hp
  intro H locs ls hG hS hL
  exact lv_icmp_eq hx hb d ht (fun q => kt q H locs ls hG hS hL) (fun q => kf q H locs ls hG hS hL)
theorem v_icmp_ne (F : gF G z0 X cc nL own Ts ret nm fr lo mc ms) {x y : Int32} {off : Int} {tgt : Nat} (d : decode cc pc = .ok (.if_icmp .ne off, 3)) (ht : (pc : Int) + off = (tgt : Int)) (hp : pc + 3 = pc') (kt : ¬ x = y → gV G z0 X cells slots h tgt L st) (kf : x = y → gV G z0 X cells slots h pc' L st) : gV G z0 X cells slots h pc L (.int y :: .int x :: st) := by
  obtain ⟨p, l, e, R, s, m, args, below, meth, c, Q⟩ := X
  obtain ⟨hx, hb, hml, hown, hts, ⟨hK, hKr⟩, hz, hlk, hr, hnm, hR⟩ := F
  subst hp
  intro H locs ls hG hS hL
  exact lv_icmp_ne hx hb d ht (fun q => kt q H locs ls hG hS hL) (fun q => kf q H locs ls hG hS hL)
theorem v_icmp_lt (F : gF G z0 X cc nL own Ts ret nm fr lo mc ms) {x y : Int32} {off : Int} {tgt : Nat} (d : decode cc pc = .ok (.if_icmp .lt off, 3)) (ht : (pc : Int) + off = (tgt : Int)) (hp : pc + 3 = pc') (kt : x < y → gV G z0 X cells slots h tgt L st) (kf : ¬ x < y → gV G z0 X cells slots h pc' L st) : gV G z0 X cells slots h pc L (.int y :: .int x :: st) := by
  obtain ⟨p, l, e, R, s, m, args, below, meth, c, Q⟩ := X
  obtain ⟨hx, hb, hml, hown, hts, ⟨hK, hKr⟩, hz, hlk, hr, hnm, hR⟩ := F
  subst hp
  intro H locs ls hG hS hL
  exact lv_icmp_lt hx hb d ht (fun q => kt q H locs ls hG hS hL) (fun q => kf q H locs ls hG hS hL)
theorem v_icmp_ge (F : gF G z0 X cc nL own Ts ret nm fr lo mc ms) {x y : Int32} {off : Int} {tgt : Nat} (d : decode cc pc = .ok (.if_icmp .ge off, 3)) (ht : (pc : Int) + off = (tgt : Int)) (hp : pc + 3 = pc') (kt : y ≤ x → gV G z0 X cells slots h tgt L st) (kf : ¬ y ≤ x → gV G z0 X cells slots h pc' L st) : gV G z0 X cells slots h pc L (.int y :: .int x :: st) := by
  obtain ⟨p, l, e, R, s, m, args, below, meth, c, Q⟩ := X
  obtain ⟨hx, hb, hml, hown, hts, ⟨hK, hKr⟩, hz, hlk, hr, hnm, hR⟩ := F
  subst hp
  intro H locs ls hG hS hL
  exact lv_icmp_ge hx hb d ht (fun q => kt q H locs ls hG hS hL) (fun q => kf q H locs ls hG hS hL)
theorem v_icmp_gt (F : gF G z0 X cc nL own Ts ret nm fr lo mc ms) {x y : Int32} {off : Int} {tgt : Nat} (d : decode cc pc = .ok (.if_icmp .gt off, 3)) (ht : (pc : Int) + off = (tgt : Int)) (hp : pc + 3 = pc') (kt : y < x → gV G z0 X cells slots h tgt L st) (kf : ¬ y < x → gV G z0 X cells slots h pc' L st) : gV G z0 X cells slots h pc L (.int y :: .int x :: st) := by
  obtain ⟨p, l, e, R, s, m, args, below, meth, c, Q⟩ := X
  obtain ⟨hx, hb, hml, hown, hts, ⟨hK, hKr⟩, hz, hlk, hr, hnm, hR⟩ := F
  subst hp
  intro H locs ls hG hS hL
  exact lv_icmp_gt hx hb d ht (fun q => kt q H locs ls hG hS hL) (fun q => kf q H locs ls hG hS hL)
theorem v_icmp_le (F : gF G z0 X cc nL own Ts ret nm fr lo mc ms) {x y : Int32} {off : Int} {tgt : Nat} (d : decode cc pc = .ok (.if_icmp .le off, 3)) (ht : (pc : Int) + off = (tgt : Int)) (hp : pc + 3 = pc') (kt : x ≤ y → gV G z0 X cells slots h tgt L st) (kf : ¬ x ≤ y → gV G z0 X cells slots h pc' L st) : gV G z0 X cells slots h pc L (.int y :: .int x :: st) := by
  obtain ⟨p, l, e, R, s, m, args, below, meth, c, Q⟩ := X
  obtain ⟨hx, hb, hml, hown, hts, ⟨hK, hKr⟩, hz, hlk, hr, hnm, hR⟩ := F
  subst hp
  intro H locs ls hG hS hL
  exact lv_icmp_le hx hb d ht (fun q => kt q H locs ls hG hS hL) (fun q => kf q H locs ls hG hS hL)
theorem v_if_eq (F : gF G z0 X cc nL own Ts ret nm fr lo mc ms) {x : Int32} {off : Int} {tgt : Nat} (d : decode cc pc = .ok (.ifCond .eq off, 3)) (ht : (pc : Int) + off = (tgt : Int)) (hp : pc + 3 = pc') (kt : x = 0 → gV G z0 X cells slots h tgt L st) (kf : ¬ x = 0 → gV G z0 X cells slots h pc' L st) : gV G z0 X cells slots h pc L (.int x :: st) := by
  obtain ⟨p, l, e, R, s, m, args, below, meth, c, Q⟩ := X
  obtain ⟨hx, hb, hml, hown, hts, ⟨hK, hKr⟩, hz, hlk, hr, hnm, hR⟩ := F
  subst hp
  intro H locs ls hG hS hL
  exact lv_if_eq hx hb d ht (fun q => kt q H locs ls hG hS hL) (fun q => kf q H locs ls hG hS hL)
theorem v_if_ne (F : gF G z0 X cc nL own Ts ret nm fr lo mc ms) {x : Int32} {off : Int} {tgt : Nat} (d : decode cc pc = .ok (.ifCond .ne off, 3)) (ht : (pc : Int) + off = (tgt : Int)) (hp : pc + 3 = pc') (kt : ¬ x = 0 → gV G z0 X cells slots h tgt L st) (kf : x = 0 → gV G z0 X cells slots h pc' L st) : gV G z0 X cells slots h pc L (.int x :: st) := by
  obtain ⟨p, l, e, R, s, m, args, below, meth, c, Q⟩ := X
  obtain ⟨hx, hb, hml, hown, hts, ⟨hK, hKr⟩, hz, hlk, hr, hnm, hR⟩ := F
  subst hp
  intro H locs ls hG hS hL
  exact lv_if_ne hx hb d ht (fun q => kt q H locs ls hG hS hL) (fun q => kf q H locs ls hG hS hL)
theorem v_if_lt (F : gF G z0 X cc nL own Ts ret nm fr lo mc ms) {x : Int32} {off : Int} {tgt : Nat} (d : decode cc pc = .ok (.ifCond .lt off, 3)) (ht : (pc : Int) + off = (tgt : Int)) (hp : pc + 3 = pc') (kt : x < 0 → gV G z0 X cells slots h tgt L st) (kf : ¬ x < 0 → gV G z0 X cells slots h pc' L st) : gV G z0 X cells slots h pc L (.int x :: st) := by
  obtain ⟨p, l, e, R, s, m, args, below, meth, c, Q⟩ := X
  obtain ⟨hx, hb, hml, hown, hts, ⟨hK, hKr⟩, hz, hlk, hr, hnm, hR⟩ := F
  subst hp
  intro H locs ls hG hS hL
  exact lv_if_lt hx hb d ht (fun q => kt q H locs ls hG hS hL) (fun q => kf q H locs ls hG hS hL)
theorem v_if_ge (F : gF G z0 X cc nL own Ts ret nm fr lo mc ms) {x : Int32} {off : Int} {tgt : Nat} (d : decode cc pc = .ok (.ifCond .ge off, 3)) (ht : (pc : Int) + off = (tgt : Int)) (hp : pc + 3 = pc') (kt : 0 ≤ x → gV G z0 X cells slots h tgt L st) (kf : ¬ 0 ≤ x → gV G z0 X cells slots h pc' L st) : gV G z0 X cells slots h pc L (.int x :: st) := by
  obtain ⟨p, l, e, R, s, m, args, below, meth, c, Q⟩ := X
  obtain ⟨hx, hb, hml, hown, hts, ⟨hK, hKr⟩, hz, hlk, hr, hnm, hR⟩ := F
  subst hp
  intro H locs ls hG hS hL
  exact lv_if_ge hx hb d ht (fun q => kt q H locs ls hG hS hL) (fun q => kf q H locs ls hG hS hL)
theorem v_if_gt (F : gF G z0 X cc nL own Ts ret nm fr lo mc ms) {x : Int32} {off : Int} {tgt : Nat} (d : decode cc pc = .ok (.ifCond .gt off, 3)) (ht : (pc : Int) + off = (tgt : Int)) (hp : pc + 3 = pc') (kt : 0 < x → gV G z0 X cells slots h tgt L st) (kf : ¬ 0 < x → gV G z0 X cells slots h pc' L st) : gV G z0 X cells slots h pc L (.int x :: st) := by
  obtain ⟨p, l, e, R, s, m, args, below, meth, c, Q⟩ := X
  obtain ⟨hx, hb, hml, hown, hts, ⟨hK, hKr⟩, hz, hlk, hr, hnm, hR⟩ := F
  subst hp
  intro H locs ls hG hS hL
  exact lv_if_gt hx hb d ht (fun q => kt q H locs ls hG hS hL) (fun q => kf q H locs ls hG hS hL)
theorem v_if_le (F : gF G z0 X cc nL own Ts ret nm fr lo mc ms) {x : Int32} {off : Int} {tgt : Nat} (d : decode cc pc = .ok (.ifCond .le off, 3)) (ht : (pc : Int) + off = (tgt : Int)) (hp : pc + 3 = pc') (kt : x ≤ 0 → gV G z0 X cells slots h tgt L st) (kf : ¬ x ≤ 0 → gV G z0 X cells slots h pc' L st) : gV G z0 X cells slots h pc L (.int x :: st) := by
  obtain ⟨p, l, e, R, s, m, args, below, meth, c, Q⟩ := X
  obtain ⟨hx, hb, hml, hown, hts, ⟨hK, hKr⟩, hz, hlk, hr, hnm, hR⟩ := F
  subst hp
  intro H locs ls hG hS hL
  exact lv_if_le hx hb d ht (fun q => kt q H locs ls hG hS hL) (fun q => kf q H locs ls hG hS hL)
theorem v_acmp_eq (F : gF G z0 X cc nL own Ts ret nm fr lo mc ms) {rx ry : Option Nat} {off : Int} {tgt : Nat} (d : decode cc pc = .ok (.if_acmp .eq off, 3)) (ht : (pc : Int) + off = (tgt : Int)) (hp : pc + 3 = pc') (kt : rx = ry → gV G z0 X cells slots h tgt L st) (kf : ¬ rx = ry → gV G z0 X cells slots h pc' L st) : gV G z0 X cells slots h pc L (va_rf ry :: va_rf rx :: st) := by
  obtain ⟨p, l, e, R, s, m, args, below, meth, c, Q⟩ := X
  obtain ⟨hx, hb, hml, hown, hts, ⟨hK, hKr⟩, hz, hlk, hr, hnm, hR⟩ := F
  subst hp
  intro H locs ls hG hS hL
  exact lv_acmp_eq hx hb d ht (fun q => kt q H locs ls hG hS hL) (fun q => kf q H locs ls hG hS hL)
theorem v_acmp_ne (F : gF G z0 X cc nL own Ts ret nm fr lo mc ms) {rx ry : Option Nat} {off : Int} {tgt : Nat} (d : decode cc pc = .ok (.if_acmp .ne off, 3)) (ht : (pc : Int) + off = (tgt : Int)) (hp : pc + 3 = pc') (kt : ¬ rx = ry → gV G z0 X cells slots h tgt L st) (kf : rx = ry → gV G z0 X cells slots h pc' L st) : gV G z0 X cells slots h pc L (va_rf ry :: va_rf rx :: st) := by
  obtain ⟨p, l, e, R, s, m, args, below, meth, c, Q⟩ := X
  obtain ⟨hx, hb, hml, hown, hts, ⟨hK, hKr⟩, hz, hlk, hr, hnm, hR⟩ := F
  subst hp
  intro H locs ls hG hS hL
  exact lv_acmp_ne hx hb d ht (fun q => kt q H locs ls hG hS hL) (fun q => kf q H locs ls hG hS hL)
theorem v_goto (F : gF G z0 X cc nL own Ts ret nm fr lo mc ms) {off : Int} {tgt : Nat} (d : decode cc pc = .ok (.goto off, 3)) (ht : (pc : Int) + off = (tgt : Int)) (k : gV G z0 X cells slots h tgt L st) : gV G z0 X cells slots h pc L st := by
  obtain ⟨p, l, e, R, s, m, args, below, meth, c, Q⟩ := X
  obtain ⟨hx, hb, hml, hown, hts, ⟨hK, hKr⟩, hz, hlk, hr, hnm, hR⟩ := F
  intro H locs ls hG hS hL
  exact lv_goto hx hb d ht (k H locs ls hG hS hL)
theorem v_ifnull (F : gF G z0 X cc nL own Ts ret nm fr lo mc ms) {x : Nat} {off : Int} (d : decode cc pc = .ok (.ifnull off, 3)) (hp : pc + 3 = pc') (k : gV G z0 X cells slots h pc' L st) : gV G z0 X cells slots h pc L (.ref x :: st) := by
  obtain ⟨p, l, e, R, s, m, args, below, meth, c, Q⟩ := X
  obtain ⟨hx, hb, hml, hown, hts, ⟨hK, hKr⟩, hz, hlk, hr, hnm, hR⟩ := F
  subst hp
  intro H locs ls hG hS hL
  exact lv_ifnull hx hb d  (k H locs ls hG hS hL)
theorem v_ifnullN (F : gF G z0 X cc nL own Ts ret nm fr lo mc ms) {off : Int} {tgt : Nat} (d : decode cc pc = .ok (.ifnull off, 3)) (ht : (pc : Int) + off = (tgt : Int)) (k : gV G z0 X cells slots h tgt L st) : gV G z0 X cells slots h pc L (.null :: st) := by
  obtain ⟨p, l, e, R, s, m, args, below, meth, c, Q⟩ := X
  obtain ⟨hx, hb, hml, hown, hts, ⟨hK, hKr⟩, hz, hlk, hr, hnm, hR⟩ := F
  intro H locs ls hG hS hL
  exact lv_ifnullN hx hb d ht (k H locs ls hG hS hL)
theorem v_ifnonnull (F : gF G z0 X cc nL own Ts ret nm fr lo mc ms) {x : Nat} {off : Int} {tgt : Nat} (d : decode cc pc = .ok (.ifnonnull off, 3)) (ht : (pc : Int) + off = (tgt : Int)) (k : gV G z0 X cells slots h tgt L st) : gV G z0 X cells slots h pc L (.ref x :: st) := by
  obtain ⟨p, l, e, R, s, m, args, below, meth, c, Q⟩ := X
  obtain ⟨hx, hb, hml, hown, hts, ⟨hK, hKr⟩, hz, hlk, hr, hnm, hR⟩ := F
  intro H locs ls hG hS hL
  exact lv_ifnonnull hx hb d ht (k H locs ls hG hS hL)
theorem v_ifnonnullN (F : gF G z0 X cc nL own Ts ret nm fr lo mc ms) {off : Int} (d : decode cc pc = .ok (.ifnonnull off, 3)) (hp : pc + 3 = pc') (k : gV G z0 X cells slots h pc' L st) : gV G z0 X cells slots h pc L (.null :: st) := by
  obtain ⟨p, l, e, R, s, m, args, below, meth, c, Q⟩ := X
  obtain ⟨hx, hb, hml, hown, hts, ⟨hK, hKr⟩, hz, hlk, hr, hnm, hR⟩ := F
  subst hp
  intro H locs ls hG hS hL
  exact lv_ifnonnullN hx hb d  (k H locs ls hG hS hL)
theorem v_tableOut (F : gF G z0 X cc nL own Ts ret nm fr lo mc ms) {dflt lo1 hi : Int} {offs : Array Int} {len : Nat} {x : Int32} {tgt : Nat} (d : decode cc pc = .ok (.tableswitch dflt lo1 hi offs, len)) (hh : x.toInt < lo1 ∨ hi < x.toInt) (ht : (pc : Int) + dflt = (tgt : Int)) (k : gV G z0 X cells slots h tgt L st) : gV G z0 X cells slots h pc L (.int x :: st) := by
  obtain ⟨p, l, e, R, s, m, args, below, meth, c, Q⟩ := X
  obtain ⟨hx, hb, hml, hown, hts, ⟨hK, hKr⟩, hz, hlk, hr, hnm, hR⟩ := F
  intro H locs ls hG hS hL
  exact lv_tableOut hx hb d hh ht (k H locs ls hG hS hL)
theorem v_tableIn (F : gF G z0 X cc nL own Ts ret nm fr lo mc ms) {dflt lo1 hi : Int} {offs : Array Int} {len : Nat} {x : Int32} {off : Int} {tgt : Nat} (d : decode cc pc = .ok (.tableswitch dflt lo1 hi offs, len)) (h1 : ¬ x.toInt < lo1) (h2 : ¬ hi < x.toInt) (ho : offs[(x.toInt - lo1).toNat]? = some off) (ht : (pc : Int) + off = (tgt : Int)) (k : gV G z0 X cells slots h tgt L st) : gV G z0 X cells slots h pc L (.int x :: st) := by
  obtain ⟨p, l, e, R, s, m, args, below, meth, c, Q⟩ := X
  obtain ⟨hx, hb, hml, hown, hts, ⟨hK, hKr⟩, hz, hlk, hr, hnm, hR⟩ := F
  intro H locs ls hG hS hL
  exact lv_tableIn hx hb d h1 h2 ho ht (k H locs ls hG hS hL)
theorem v_ifnullq (F : gF G z0 X cc nL own Ts ret nm fr lo mc ms) {r : Option Nat} {off : Int} {tgt : Nat} (d : decode cc pc = .ok (.ifnull off, 3)) (ht : (pc : Int) + off = (tgt : Int)) (hp : pc + 3 = pc') (kt : r = none → gV G z0 X cells slots h tgt L st) (kf : ∀ a, r = some a → gV G z0 X cells slots h pc' L st) : gV G z0 X cells slots h pc L (va_rf r :: st) := by
  cases r with
  | none => exact v_ifnullN F d ht (kt rfl)
  | some a => exact v_ifnull F d hp (kf a rfl)
theorem v_ifnonnullq (F : gF G z0 X cc nL own Ts ret nm fr lo mc ms) {r : Option Nat} {off : Int} {tgt : Nat} (d : decode cc pc = .ok (.ifnonnull off, 3)) (ht : (pc : Int) + off = (tgt : Int)) (hp : pc + 3 = pc') (kt : ∀ a, r = some a → gV G z0 X cells slots h tgt L st) (kf : r = none → gV G z0 X cells slots h pc' L st) : gV G z0 X cells slots h pc L (va_rf r :: st) := by
  cases r with
  | none => exact v_ifnonnullN F d hp (kf rfl)
  | some a => exact v_ifnonnull F d ht (kt a rfl)
theorem v_conv {st' : List Value} {h' : gH} (hh : h = h') (hL : L = L') (hs : st = st') (k : gV G z0 X cells slots h' pc L' st') : gV G z0 X cells slots h pc L st := by subst hh hL hs; exact k
theorem v_sub (ks : List Nat) (hl : lv_pick L ks = L') (k : gV G z0 X cells slots h pc L' st) : gV G z0 X cells slots h pc L st := by
  obtain ⟨p, l, e, R, s, m, args, below, meth, c, Q⟩ := X
  intro H locs ls hG hS hL
  exact k H locs ls hG hS (lv_sub hL ks hl)
theorem v_widen {c' s' : Nat} (h1 : cells ≤ c') (h2 : slots ≤ s') (k : gV G z0 X c' s' h pc L st) : gV G z0 X cells slots h pc L st := by
  obtain ⟨p, l, e, R, s, m, args, below, meth, c, Q⟩ := X
  intro H locs ls hG hS hL
  exact W.widen h1 h2 (k H locs ls hG hS hL)
def gCl (Ts : List Cond) (ci : Nat) (C : String) (T : u_T) (N : Nat) : Prop := (∀ w ∈ u_ws C T N, w ∈ Ts) ∧ vwCl[ci]? = some (C, T, N)
theorem v_getf (F : gF G z0 X cc nL own Ts ret nm fr lo mc ms) {ci N a index : Nat} {C : String} {T : u_T} {fs : List Value} {v : Value} (hC : gCl Ts ci C T N) (ha : h a = some (.inr (ci, fs))) (k : Nat) (hk : k < N) (hlink : Cond.fieldLink own index (T k).1 (T k).2.1 (T k).2.2.1 ∈ Ts) (hv : fs[k]? = some v) (d : decode cc pc = .ok (.getfield index, 3)) (hp : pc + 3 = pc') (kk : gV G z0 X cells slots h pc' L (v :: st)) : gV G z0 X cells slots h pc L (.ref a :: st) := by
  obtain ⟨p, l, e, R, s, m, args, below, meth, c, Q⟩ := X
  obtain ⟨hx, hb, hml, hown, hts, ⟨hK, hKr⟩, hz, hlk, hr, hnm, hR⟩ := F
  subst hp
  intro H locs ls hG hS hL
  obtain ⟨ws, hP, hD, hI⟩ := id hG
  obtain ⟨q0, hq⟩ := (hI _ _).mp ha
  exact va_get hx hb hts hC.1 hown hK hP q0 hq hC.2 k hk (hts _ hlink) (fun _ h9 => h9) hv d (kk H locs ls hG hS hL)
theorem v_putf (F : gF G z0 X cc nL own Ts ret nm fr lo mc ms) {ci N a index : Nat} {C : String} {T : u_T} {fs fs' : List Value} {v : Value} {ty0 : Nat → FieldType} (hC : gCl Ts ci C T N) (hty : ∀ k, k < N → parseFieldDescriptor (T k).2.2.1 = some (ty0 k)) (hnn : ∀ a, a < N → ∀ b, b < N → a ≠ b → (T a).2.1 ≠ (T b).2.1) (ha : h a = some (.inr (ci, fs))) (k : Nat) (hk : k < N) (hlink : Cond.fieldLink own index (T k).1 (T k).2.1 (T k).2.2.1 ∈ Ts) (hfin : (T k).2.2.2 = false)  (hn : narrow (ty0 k) v = v) (hfit : fits (ty0 k) v = true) (hl : k < fs.length) (hfs : fs.set k v = fs') (d : decode cc pc = .ok (.putfield index, 3)) (hp : pc + 3 = pc') (kk : gV G z0 X cells slots (gu h a (.inr (ci, fs'))) pc' L st) : gV G z0 X cells slots h pc L (v :: .ref a :: st) := by
  obtain ⟨p, l, e, R, s, m, args, below, meth, c, Q⟩ := X
  obtain ⟨hx, hb, hml, hown, hts, ⟨hK, hKr⟩, hz, hlk, hr, hnm, hR⟩ := F
  subst hp
  subst hfs
  intro H locs ls hG hS hL
  obtain ⟨ws, hP, hD, hI⟩ := id hG
  obtain ⟨q0, hq⟩ := (hI _ _).mp ha
  exact va_put hx hb hts hC.1 ty0 hty hnn hown hK hP hD hS q0 hq hC.2 k hk (hts _ hlink) (fun _ h9 => h9) hfin  (hty k hk) hn hfit hl d (fun H1 locs1 hP1 hD1 hS1 => kk H1 locs1 ls ⟨_, hP1, hD1, g_set hD hq hI⟩ hS1 hL)
theorem v_putfF (F : gF G z0 X cc nL own Ts ret nm fr lo mc ms) {ci N a index : Nat} {C : String} {T : u_T} {fs fs' : List Value} {v : Value} {ty0 : Nat → FieldType} (hC : gCl Ts ci C T N) (hty : ∀ k, k < N → parseFieldDescriptor (T k).2.2.1 = some (ty0 k)) (hnn : ∀ a, a < N → ∀ b, b < N → a ≠ b → (T a).2.1 ≠ (T b).2.1) (ha : h a = some (.inr (ci, fs))) (k : Nat) (hk : k < N) (hlink : Cond.fieldLink own index (T k).1 (T k).2.1 (T k).2.2.1 ∈ Ts) (hfin : (T k).2.2.2 = true) (hin2 : nm = "<init>") (hdecl : (T k).1 = own) (hn : narrow (ty0 k) v = v) (hfit : fits (ty0 k) v = true) (hl : k < fs.length) (hfs : fs.set k v = fs') (d : decode cc pc = .ok (.putfield index, 3)) (hp : pc + 3 = pc') (kk : gV G z0 X cells slots (gu h a (.inr (ci, fs'))) pc' L st) : gV G z0 X cells slots h pc L (v :: .ref a :: st) := by
  obtain ⟨p, l, e, R, s, m, args, below, meth, c, Q⟩ := X
  obtain ⟨hx, hb, hml, hown, hts, ⟨hK, hKr⟩, hz, hlk, hr, hnm, hR⟩ := F
  subst hp
  subst hfs
  intro H locs ls hG hS hL
  obtain ⟨ws, hP, hD, hI⟩ := id hG
  obtain ⟨q0, hq⟩ := (hI _ _).mp ha
  exact va_putF hx hb hts hC.1 ty0 hty hnn hown hK hP hD hS q0 hq hC.2 k hk (hts _ hlink) (fun _ h9 => h9) hfin (hnm.trans hin2) hdecl (hty k hk) hn hfit hl d (fun H1 locs1 hP1 hD1 hS1 => kk H1 locs1 ls ⟨_, hP1, hD1, g_set hD hq hI⟩ hS1 hL)
theorem v_iald (F : gF G z0 X cc nL own Ts ret nm fr lo mc ms) {a n : Nat} {f : Nat → Int32} {i : Int32} (ha : h a = some (oI G n f)) (hin : vp_in i n) (d : decode cc pc = .ok (.iaload, 1)) (hp : pc + 1 = pc') (kk : gV G z0 X cells slots h pc' L (.int (f i.toNatClampNeg) :: st)) : gV G z0 X cells slots h pc L (.int i :: .ref a :: st) := by
  obtain ⟨p, l, e, R, s, m, args, below, meth, c, Q⟩ := X
  obtain ⟨hx, hb, hml, hown, hts, ⟨hK, hKr⟩, hz, hlk, hr, hnm, hR⟩ := F
  subst hp
  intro H locs ls hG hS hL
  obtain ⟨ws, hP, hD, hI⟩ := id hG
  obtain ⟨q0, hq⟩ := (hI _ _).mp ha
  exact va_iald hx hb hK hP q0 0 hq rfl hin d (kk H locs ls hG hS hL)
theorem v_bald (F : gF G z0 X cc nL own Ts ret nm fr lo mc ms) {a n : Nat} {f : Nat → Int32} {i : Int32} (ha : h a = some (oB G n f)) (hin : vp_in i n) (d : decode cc pc = .ok (.baload, 1)) (hp : pc + 1 = pc') (kk : gV G z0 X cells slots h pc' L (.int (f i.toNatClampNeg) :: st)) : gV G z0 X cells slots h pc L (.int i :: .ref a :: st) := by
  obtain ⟨p, l, e, R, s, m, args, below, meth, c, Q⟩ := X
  obtain ⟨hx, hb, hml, hown, hts, ⟨hK, hKr⟩, hz, hlk, hr, hnm, hR⟩ := F
  subst hp
  intro H locs ls hG hS hL
  obtain ⟨ws, hP, hD, hI⟩ := id hG
  obtain ⟨q0, hq⟩ := (hI _ _).mp ha
  exact va_bald hx hb hK hP q0 1 hq rfl hin d (kk H locs ls hG hS hL)
theorem v_lald (F : gF G z0 X cc nL own Ts ret nm fr lo mc ms) {a n : Nat} {f : Nat → Int64} {i : Int32} (ha : h a = some (oL G n f)) (hin : vp_in i n) (d : decode cc pc = .ok (.laload, 1)) (hp : pc + 1 = pc') (kk : gV G z0 X cells slots h pc' L (.long (f i.toNatClampNeg) :: st)) : gV G z0 X cells slots h pc L (.int i :: .ref a :: st) := by
  obtain ⟨p, l, e, R, s, m, args, below, meth, c, Q⟩ := X
  obtain ⟨hx, hb, hml, hown, hts, ⟨hK, hKr⟩, hz, hlk, hr, hnm, hR⟩ := F
  subst hp
  intro H locs ls hG hS hL
  obtain ⟨ws, hP, hD, hI⟩ := id hG
  obtain ⟨q0, hq⟩ := (hI _ _).mp ha
  exact va_lald hx hb hK hP q0 2 hq rfl hin d (kk H locs ls hG hS hL)
theorem v_qald (F : gF G z0 X cc nL own Ts ret nm fr lo mc ms) {a n : Nat} {f : Nat → Option Nat} {i : Int32} (ha : h a = some (oQ G n f)) (hin : vp_in i n) (d : decode cc pc = .ok (.aaload, 1)) (hp : pc + 1 = pc') (kk : gV G z0 X cells slots h pc' L (va_rf (f i.toNatClampNeg) :: st)) : gV G z0 X cells slots h pc L (.int i :: .ref a :: st) := by
  obtain ⟨p, l, e, R, s, m, args, below, meth, c, Q⟩ := X
  obtain ⟨hx, hb, hml, hown, hts, ⟨hK, hKr⟩, hz, hlk, hr, hnm, hR⟩ := F
  subst hp
  intro H locs ls hG hS hL
  obtain ⟨ws, hP, hD, hI⟩ := id hG
  obtain ⟨q0, hq⟩ := (hI _ _).mp ha
  exact va_aldq hx hb hK hP q0 3 hq rfl hin d (kk H locs ls hG hS hL)
theorem v_vald (F : gF G z0 X cc nL own Ts ret nm fr lo mc ms) {a n : Nat} {f : Nat → Option Nat} {i : Int32} (ha : h a = some (oV G n f)) (hin : vp_in i n) (d : decode cc pc = .ok (.aaload, 1)) (hp : pc + 1 = pc') (kk : gV G z0 X cells slots h pc' L (va_rf (f i.toNatClampNeg) :: st)) : gV G z0 X cells slots h pc L (.int i :: .ref a :: st) := by
  obtain ⟨p, l, e, R, s, m, args, below, meth, c, Q⟩ := X
  obtain ⟨hx, hb, hml, hown, hts, ⟨hK, hKr⟩, hz, hlk, hr, hnm, hR⟩ := F
  subst hp
  intro H locs ls hG hS hL
  obtain ⟨ws, hP, hD, hI⟩ := id hG
  obtain ⟨q0, hq⟩ := (hI _ _).mp ha
  exact va_aldq hx hb hK hP q0 4 hq rfl hin d (kk H locs ls hG hS hL)
theorem v_iast (F : gF G z0 X cc nL own Ts ret nm fr lo mc ms) {a n : Nat} {f : Nat → Int32} {i : Int32} {x : Int32} (ha : h a = some (oI G n f)) (hin : vp_in i n) (d : decode cc pc = .ok (.iastore, 1)) (hp : pc + 1 = pc') (kk : gV G z0 X cells slots (gu h a (oI G n (upd f i.toNatClampNeg x))) pc' L st) : gV G z0 X cells slots h pc L (.int x :: .int i :: .ref a :: st) := by
  obtain ⟨p, l, e, R, s, m, args, below, meth, c, Q⟩ := X
  obtain ⟨hx, hb, hml, hown, hts, ⟨hK, hKr⟩, hz, hlk, hr, hnm, hR⟩ := F
  subst hp
  intro H locs ls hG hS hL
  obtain ⟨ws, hP, hD, hI⟩ := id hG
  obtain ⟨q0, hq⟩ := (hI _ _).mp ha
  exact va_iast hx hb hK hP hD hS q0 0 hq rfl hin d (fun H1 locs1 hP1 hD1 hS1 => kk H1 locs1 ls ⟨_, hP1, hD1, g_set hD hq hI⟩ hS1 hL)
theorem v_bast (F : gF G z0 X cc nL own Ts ret nm fr lo mc ms) {a n : Nat} {f : Nat → Int32} {i : Int32} {x : Int32} (ha : h a = some (oB G n f)) (hin : vp_in i n) (d : decode cc pc = .ok (.bastore, 1)) (hp : pc + 1 = pc') (kk : gV G z0 X cells slots (gu h a (oB G n (upd f i.toNatClampNeg (vp_nar .byte x)))) pc' L st) : gV G z0 X cells slots h pc L (.int x :: .int i :: .ref a :: st) := by
  obtain ⟨p, l, e, R, s, m, args, below, meth, c, Q⟩ := X
  obtain ⟨hx, hb, hml, hown, hts, ⟨hK, hKr⟩, hz, hlk, hr, hnm, hR⟩ := F
  subst hp
  intro H locs ls hG hS hL
  obtain ⟨ws, hP, hD, hI⟩ := id hG
  obtain ⟨q0, hq⟩ := (hI _ _).mp ha
  exact va_bast hx hb hK hP hD hS q0 1 hq rfl hin d (fun H1 locs1 hP1 hD1 hS1 => kk H1 locs1 ls ⟨_, hP1, hD1, g_set hD hq hI⟩ hS1 hL)
theorem v_last (F : gF G z0 X cc nL own Ts ret nm fr lo mc ms) {a n : Nat} {f : Nat → Int64} {i : Int32} {x : Int64} (ha : h a = some (oL G n f)) (hin : vp_in i n) (d : decode cc pc = .ok (.lastore, 1)) (hp : pc + 1 = pc') (kk : gV G z0 X cells slots (gu h a (oL G n (vp_updL f i.toNatClampNeg x))) pc' L st) : gV G z0 X cells slots h pc L (.long x :: .int i :: .ref a :: st) := by
  obtain ⟨p, l, e, R, s, m, args, below, meth, c, Q⟩ := X
  obtain ⟨hx, hb, hml, hown, hts, ⟨hK, hKr⟩, hz, hlk, hr, hnm, hR⟩ := F
  subst hp
  intro H locs ls hG hS hL
  obtain ⟨ws, hP, hD, hI⟩ := id hG
  obtain ⟨q0, hq⟩ := (hI _ _).mp ha
  exact va_last hx hb hK hP hD hS q0 2 hq rfl hin d (fun H1 locs1 hP1 hD1 hS1 => kk H1 locs1 ls ⟨_, hP1, hD1, g_set hD hq hI⟩ hS1 hL)
theorem v_qast (F : gF G z0 X cc nL own Ts ret nm fr lo mc ms) {a n v : Nat} {f : Nat → Option Nat} {vs : List Value} {i : Int32} (ha : h a = some (oQ G n f)) (hv : h v = some (.inr (0, vs))) (hin : vp_in i n) (d : decode cc pc = .ok (.aastore, 1)) (hp : pc + 1 = pc') (kk : gV G z0 X cells slots (gu h a (oQ G n (va_up f i.toNatClampNeg (some v)))) pc' L st) : gV G z0 X cells slots h pc L (.ref v :: .int i :: .ref a :: st) := by
  obtain ⟨p, l, e, R, s, m, args, below, meth, c, Q⟩ := X
  obtain ⟨hx, hb, hml, hown, hts, ⟨hK, hKr⟩, hz, hlk, hr, hnm, hR⟩ := F
  subst hp
  intro H locs ls hG hS hL
  obtain ⟨ws, hP, hD, hI⟩ := id hG
  obtain ⟨q0, hq⟩ := (hI _ _).mp ha
  obtain ⟨qk, hqk⟩ := (hI _ _).mp hv
  exact va_astq hx hb hK hP hD hS q0 3 qk 0 hq rfl hqk rfl hin d (fun H1 locs1 hP1 hD1 hS1 => kk H1 locs1 ls ⟨_, hP1, hD1, g_set hD hq hI⟩ hS1 hL)
theorem v_vast (F : gF G z0 X cc nL own Ts ret nm fr lo mc ms) {a n v : Nat} {f : Nat → Option Nat} {vs : List Value} {i : Int32} (ha : h a = some (oV G n f)) (hv : h v = some (.inr (5, vs))) (hin : vp_in i n) (d : decode cc pc = .ok (.aastore, 1)) (hp : pc + 1 = pc') (kk : gV G z0 X cells slots (gu h a (oV G n (va_up f i.toNatClampNeg (some v)))) pc' L st) : gV G z0 X cells slots h pc L (.ref v :: .int i :: .ref a :: st) := by
  obtain ⟨p, l, e, R, s, m, args, below, meth, c, Q⟩ := X
  obtain ⟨hx, hb, hml, hown, hts, ⟨hK, hKr⟩, hz, hlk, hr, hnm, hR⟩ := F
  subst hp
  intro H locs ls hG hS hL
  obtain ⟨ws, hP, hD, hI⟩ := id hG
  obtain ⟨q0, hq⟩ := (hI _ _).mp ha
  obtain ⟨qk, hqk⟩ := (hI _ _).mp hv
  exact va_astq hx hb hK hP hD hS q0 4 qk 5 hq rfl hqk rfl hin d (fun H1 locs1 hP1 hD1 hS1 => kk H1 locs1 ls ⟨_, hP1, hD1, g_set hD hq hI⟩ hS1 hL)
end GV
