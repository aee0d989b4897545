/-! THE LAW'S OWN LAYER: handlers, static calls, the script -/
def gEH (X : gX) (hh : List (Nat × Nat × Nat × Nat)) : Prop := match X with
  | (_, l, _, _, _, _, _, _, _, c, _) => c.exceptionTable.toList = tableOf hh ∧ l.stackTraces = false
def gEs : List String := ["java/lang/IllegalArgumentException", "java/lang/IndexOutOfBoundsException", "java/util/NoSuchElementException", "java/lang/IllegalStateException"]
def gPairs : List (String × String) := [("java/lang/IllegalArgumentException", "java/lang/IndexOutOfBoundsException"), ("java/util/NoSuchElementException", "java/lang/IndexOutOfBoundsException"), ("java/lang/IllegalStateException", "java/lang/IndexOutOfBoundsException"), ("java/lang/IllegalStateException", "java/lang/IllegalArgumentException")]
set_option maxHeartbeats 4000000 in
theorem gCXH_of {G : gG} {z0 : Nat} {l : Launch} (hst : l.stackTraces = false) {y : MethodName} {ws ws' : List Cond} {fr lo : Nat} {vs : List Value} {h : gH} {post : Option Value → gH → Prop} {mc ms : Nat} {cc : ByteArray} {nL : Nat} {ret : Option FieldType} {hh : List (Nat × Nat × Nat × Nat)} (hy : plainName y.cls = true) (hw : ws = Cond.codeWith y cc nL ret hh :: ws') (hn : (lg_sl vs).length ≤ nL)
    (body : ∀ X : gX, gF G z0 X cc nL y.cls ws ret y.name fr lo mc ms → gE G z0 X post mc ms → gEH X hh → X.2.1 = l → gV G z0 X 0 0 h 0 (lv_args 0 vs) []) : gCX G z0 l y ws fr lo vs h post (fun _ _ => False) mc ms := by
  refine vx_ofWH (cc := cc) (maxL := nL) (ret := ret) (hh := hh) hy hw ?_
  intro p e s m args below meth c s₁ B hml hv
  obtain ⟨rfl, hz, hG, hK⟩ := hv
  have hts := atoms_spec (ws := ws) B.pre
  have hown : s.vm.findClass y.cls = some m.cls := findClass_of_methodNamed B.named
  have hnm : meth.name = y.name := (name_of_methodNamed B.named B.method).1
  have htab := vx_table (x := y) B (hts _ (by rw [hw]; exact List.mem_cons_self))
  have k := body (p, l, e, _, s, m, vs.toArray, below, meth, c, vx_MQ below (gQ G z0 post) (gXC G z0 (fun _ _ => False)) vs.toArray s mc ms (fun q => z0 ≤ q)) ⟨B.exec, B.bytes, hml, hown, hts, hK, hz, B.notSynchronized, B.returns, hnm, rfl⟩ (fun t h9 => by
    obtain ⟨o, b1, b2, b3, b4⟩ := h9
    exact ⟨o, b1, b2, Or.inl ⟨b3, b4⟩⟩) ⟨htab, hst⟩ rfl
  rw [lg_entry_eq]
  exact k s.heap [] _ hG va_S.rf (by rw [hml]; exact lv_entry vs hn)
section GL
variable {G : gG} {z0 : Nat} {X : gX} {cc : ByteArray} {nL fr lo mc ms : Nat} {own nm : String} {Ts : List Cond} {ret : Option FieldType} {cells slots : Nat} {h : gH} {pc pc' : Nat} {L L' : List (Nat × Value)} {st : List Value}
set_option maxHeartbeats 4000000 in
theorem v_callVH (F : gF G z0 X cc nL own Ts ret nm fr lo mc ms) {y : MethodName} {ws ws' : List Cond} {frc loc mcc msc maxL n index : Nat} {bytes : ByteArray} {postc : Option Value → gH → Prop} {postXc : String → gH → Prop} {hh : List (Nat × Nat × Nat × Nat)} {As stk : List Value} {b ci : Nat} {rt : Option FieldType} {fs : List Value} {C : String} {T : u_T} {N : Nat} (EH : gEH X hh) (hC : ∀ l : Launch, l.stackTraces = false → gCX G z0 l y ws frc loc (.ref b :: As) h postc postXc mcc msc) (hG1 : GoodIn Ts (wsV own index C y ws)) (hw : ws = Cond.code y bytes maxL rt :: ws') (hd : y.cls = C ∧ y.cls ≠ "java/lang/invoke/MethodHandle" ∧ y.cls ≠ "java/lang/invoke/VarHandle" ∧ (parseMethodDescriptor y.desc).map (fun d => d.parameters.length) = some n) (hR1 : frc + 1 ≤ fr) (hR2 : 8 + (maxL + 11) + loc ≤ lo) (ha : h b = some (.inr (ci, fs))) (hcl : vwCl[ci]? = some (C, T, N)) (hn : As.length = n) (hsk : stk = As.reverse ++ .ref b :: st) (hst : (st.map fun v => v.category).sum ≤ 8) (hcc : cells + mcc ≤ mc) (hcs : slots + msc ≤ ms) (d : decode cc pc = .ok (.invokevirtual index, 3)) (hp : pc + 3 = pc')
    (kx : ∀ (E : String) (h' : gH) (q : Nat), postXc E h' → ∃ (a b9 : List (Nat × Nat × Nat × Nat)) (x : Nat × Nat × Nat × Nat), hh = a ++ x :: b9 ∧ (∀ z ∈ a, z.2.2.2 ≠ 0 ∧ ∃ nm : String, Cond.classLink own z.2.2.2 nm ∈ Ts ∧ (E, nm) ∈ gPairs) ∧ x.1 ≤ pc ∧ pc < x.2.1 ∧ x.2.2.2 ≠ 0 ∧ Cond.classLink own x.2.2.2 E ∈ Ts ∧ E ∈ gEs ∧ gV G z0 X (cells + mcc) (slots + msc) h' x.2.2.1 L [.ref q])
    (kk : ∀ (v : Option Value) (h' : gH), postc v h' → gV G z0 X (cells + mcc) (slots + msc) h' pc' L (v.toList ++ st)) : gV G z0 X cells slots h pc L stk := by
  obtain ⟨p, l, e, R, s, m, args, below, meth, c, Q⟩ := X
  obtain ⟨hx, hb, hml, hown, hts, ⟨hK, hKr⟩, hz, hlk, hr, hnm, hR⟩ := F
  obtain ⟨htab, hstt⟩ := EH
  obtain ⟨-, -, -, -, -, hGn⟩ := id hKr
  subst hp hsk hR
  intro H locs ls hG hS hL
  obtain ⟨ws1, hP, hD, hI⟩ := id hG
  obtain ⟨q0, hq⟩ := (hI _ _).mp ha
  have hpre : PreS s H (gP G z0 (.ref b :: As) h) (.ref b :: As) := ⟨gP_blind G z0 _ h, fun U hU hW => ⟨rfl, by rw [hU]; exact Nat.le_trans hz hS.1, by rw [hU]; exact hG, gK.to ⟨hK, hKr⟩ hS.2.1 hU hW⟩⟩
  refine g_callX (vx_runV (rest := st) ⟨hx, hb, hml, hown, hts⟩ (hC l hstt) (cwV n hts hG1 hw rfl rfl hd ⟨hR1, hR2⟩) ⟨hpre.1, va_recv hK hP hcl hq, hpre.2⟩ rfl hn (by rw [← hml]; exact hL.1) rfl (lv_room hst) d ⟨hcc, hcs⟩) hS (fun E h' H1 locs1 q ce hpc hG1 hS1 hce hcv hcl => ?_) (fun v h' H1 locs1 hpc hG1 hS1 => kk v h' hpc H1 locs1 ls hG1 hS1 hL)
  obtain ⟨a, b9, x, e1, e2, e3, e4, e5, e6, e7, k⟩ := kx E h' q hpc
  refine vx_catch hown (tableOf a) ⟨x.1, x.2.1, x.2.2.1, x.2.2.2⟩ (tableOf b9) (by rw [htab, e1]; simp [tableOf]) (fun z hz9 => ?_) (by simp [covers, e3, e4]) e5 (hts _ e6) (va_Nw.use rfl (hGn.2.1 _ e7)) hce hcv hcl (k H1 locs1 ls hG1 hS1 hL)
  obtain ⟨z4, hz4, rfl⟩ := List.mem_map.mp hz9
  obtain ⟨f1, nm9, f2, f3⟩ := e2 z4 hz4
  exact Or.inr ⟨f1, nm9, hts _ f2, hGn.2.2.1 _ f3⟩
set_option maxHeartbeats 4000000 in
theorem v_callSH (F : gF G z0 X cc nL own Ts ret nm fr lo mc ms) {y : MethodName} {ws ws' : List Cond} {frc loc mcc msc maxL n index : Nat} {bytes : ByteArray} {postc : Option Value → gH → Prop} {hh : List (Nat × Nat × Nat × Nat)} {As stk : List Value} {rt : Option FieldType} (hstt : X.2.1.stackTraces = false) (hC : ∀ l : Launch, l.stackTraces = false → gCX G z0 l y ws frc loc As h postc (fun _ _ => False) mcc msc) (hG1 : GoodIn Ts (va_wsS own index y ws)) (hw : ws = Cond.codeWith y bytes maxL rt hh :: ws') (hd : y.cls ≠ "java/lang/invoke/MethodHandle" ∧ y.cls ≠ "java/lang/invoke/VarHandle" ∧ (parseMethodDescriptor y.desc).map (fun d => d.parameters.length) = some n) (hR1 : frc + 1 ≤ fr) (hR2 : 8 + (maxL + 11) + loc ≤ lo) (hn : As.length = n) (hsk : stk = As.reverse ++ st) (hst : (st.map fun v => v.category).sum ≤ 8) (hcc : cells + mcc ≤ mc) (hcs : slots + msc ≤ ms) (d : decode cc pc = .ok (.invokestatic index, 3)) (hp : pc + 3 = pc')
    (kk : ∀ (v : Option Value) (h' : gH), postc v h' → gV G z0 X (cells + mcc) (slots + msc) h' pc' L (v.toList ++ st)) : gV G z0 X cells slots h pc L stk := by
  obtain ⟨p, l, e, R, s, m, args, below, meth, c, Q⟩ := X
  obtain ⟨hx, hb, hml, hown, hts, ⟨hK, hKr⟩, hz, hlk, hr, hnm, hR⟩ := F
  subst hp hsk hR
  intro H locs ls hG hS hL
  have hpre : PreS s H (gP G z0 As h) As := ⟨gP_blind G z0 _ h, fun U hU hW => ⟨rfl, by rw [hU]; exact Nat.le_trans hz hS.1, by rw [hU]; exact hG, gK.to ⟨hK, hKr⟩ hS.2.1 hU hW⟩⟩
  exact g_callX (vx_runSX (rest := st) ⟨hx, hb, hml, hown, hts⟩ (hC l hstt) (vx_cwSW n hts hG1 hw rfl rfl hd ⟨hR1, hR2⟩) hpre rfl hn (by rw [← hml]; exact hL.1) rfl (lv_room hst) d ⟨hcc, hcs⟩) hS (fun E h' H1 locs1 q ce hpc _ _ _ _ _ => hpc.elim) (fun v h' H1 locs1 hpc hG1 hS1 => kk v h' hpc H1 locs1 ls hG1 hS1 hL)
/-- the script: old, and never written -/
def gSc (z0 : Nat) (X : gX) (b N : Nat) (xs : Nat → Int32) : Prop := match X with
  | (_, _, _, _, s, _, _, _, _, _, _) => va_X b N xs s s.heap ∧ b < s.heap.size ∧ b < z0
theorem v_sld (F : gF G z0 X cc nL own Ts ret nm fr lo mc ms) {b N j : Nat} {xs : Nat → Int32} (hX : gSc z0 X b N xs) (hj : j < N) (hN : N < 2147483648) (d : decode cc pc = .ok (.iaload, 1)) (hp : pc + 1 = pc') (k : gV G z0 X cells slots h pc' L (.int (xs j) :: st)) : gV G z0 X cells slots h pc L (.int (nI j) :: .ref b :: st) := by
  obtain ⟨p, l, e, R, s, m, args, below, meth, c, Q⟩ := X
  obtain ⟨hx, hb, hml, hown, hts, ⟨hK, hKr⟩, hz, hlk, hr, hnm, hR⟩ := F
  obtain ⟨h1, h2, h3⟩ := hX
  subst hp
  intro H locs ls hG hS hL
  refine va_sld hx hb h1 h2 (fun z => absurd z (by show ¬ z0 ≤ b; omega)) hS (g_clamp hj hN).1 d ?_
  rw [(g_clamp hj hN).2]
  exact k H locs ls hG hS hL
theorem v_slen (F : gF G z0 X cc nL own Ts ret nm fr lo mc ms) {b N : Nat} {xs : Nat → Int32} (hX : gSc z0 X b N xs) (d : decode cc pc = .ok (.arraylength, 1)) (hp : pc + 1 = pc') (k : gV G z0 X cells slots h pc' L (.int (nI N) :: st)) : gV G z0 X cells slots h pc L (.ref b :: st) := by
  obtain ⟨p, l, e, R, s, m, args, below, meth, c, Q⟩ := X
  obtain ⟨hx, hb, hml, hown, hts, ⟨hK, hKr⟩, hz, hlk, hr, hnm, hR⟩ := F
  obtain ⟨h1, h2, h3⟩ := hX
  subst hp
  intro H locs ls hG hS hL
  exact va_slen hx hb h1 h2 (fun z => absurd z (by show ¬ z0 ≤ b; omega)) hS d (k H locs ls hG hS hL)
end GL
