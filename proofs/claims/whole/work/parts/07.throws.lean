/-! METHODS THAT THROW, over our layer -/
theorem gOk.grow {G : gG} {z0 : Nat} {h : gH} {H H' : Heap} (g : gOk G z0 h H) (hq : ∀ q : Nat, q < H.size → H'[q]? = H[q]?) : gOk G z0 h H' := by
  obtain ⟨ws, hP, hD, hI⟩ := g
  exact ⟨ws, hP.kept (fun k x hx => hq _ (hP k x hx).lt), hD, hI⟩
def gXC (G : gG) (z0 : Nat) (postX : String → gH → Prop) : String → State → State → Prop := fun E st t => (∃ h' : gH, postX E h' ∧ gOk G z0 h' t.heap) ∧ va_F (fun q => z0 ≤ q) st t
def gCX (G : gG) (z0 : Nat) (l : Launch) (y : MethodName) (ws : List Cond) (fr lo : Nat) (vs : List Value) (h : gH) (post : Option Value → gH → Prop) (postX : String → gH → Prop) (mc ms : Nat) : Prop :=
  vx_Met l y ws { frames := fr, cells := mc, slots := ms, locals := lo } (gP G z0 vs h) (gQ G z0 post) (gXC G z0 postX) mc ms (fun q => z0 ≤ q)
def gEX (G : gG) (z0 : Nat) (X : gX) (postX : String → gH → Prop) (mc ms : Nat) : Prop :=
  match X with
  | (_, l, _, _, s, _, args, below, _, c, Q) => (∀ x ∈ c.exceptionTable.toList, False) ∧ l.stackTraces = false ∧ ∃ post, Q = vx_MQ below (gQ G z0 post) (gXC G z0 postX) args s mc ms (fun q => z0 ≤ q)
set_option maxHeartbeats 4000000 in
theorem gCX_of {G : gG} {z0 : Nat} {l : Launch} (hst : l.stackTraces = false) {y : MethodName} {ws ws' : List Cond} {fr lo : Nat} {vs : List Value} {h : gH} {post : Option Value → gH → Prop} {postX : String → gH → Prop} {mc ms : Nat} {cc : ByteArray} {nL : Nat} {ret : Option FieldType} (hy : plainName y.cls = true) (hw : ws = Cond.code y cc nL ret :: ws') (hn : (lg_sl vs).length ≤ nL)
    (body : ∀ X : gX, gF G z0 X cc nL y.cls ws ret y.name fr lo mc ms → gE G z0 X post mc ms → gEX G z0 X postX mc ms → X.2.1 = l → gV G z0 X 0 0 h 0 (lv_args 0 vs) []) : gCX G z0 l y ws fr lo vs h post postX mc ms := by
  refine vx_ofW (cc := cc) (maxL := nL) (ret := ret) hy hw ?_
  intro p e s m args below meth c s₁ B hml hne hv
  obtain ⟨rfl, hz, hG, hK⟩ := hv
  have hts := atoms_spec (ws := ws) B.pre
  have hown : s.vm.findClass y.cls = some m.cls := findClass_of_methodNamed B.named
  have hnm : meth.name = y.name := (name_of_methodNamed B.named B.method).1
  have k := body (p, l, e, _, s, m, vs.toArray, below, meth, c, _) ⟨B.exec, B.bytes, hml, hown, hts, hK, hz, B.notSynchronized, B.returns, hnm, rfl⟩ (fun t h9 => by
    obtain ⟨o, b1, b2, b3, b4⟩ := h9
    exact ⟨o, b1, b2, Or.inl ⟨b3, b4⟩⟩) ⟨hne, hst, _, rfl⟩ rfl
  rw [lg_entry_eq]
  exact k s.heap [] _ hG va_S.rf (by rw [hml]; exact lv_entry vs hn)
section GX
variable {G : gG} {z0 : Nat} {X : gX} {cc : ByteArray} {nL fr lo mc ms : Nat} {own nm : String} {Ts : List Cond} {ret : Option FieldType} {cells slots : Nat} {h : gH} {pc pc' : Nat} {L L' : List (Nat × Value)} {st : List Value}
def gNames : List String := ["java/lang/RuntimeException", "java/lang/Exception"]
def gNG (E : String) : List Cond := [.declares ⟨"java/lang/RuntimeException", "<init>", "(Ljava/lang/String;)V"⟩, .declares ⟨"java/lang/Exception", "<init>", "(Ljava/lang/String;)V"⟩, .declares ⟨"java/lang/Throwable", "<init>", "(Ljava/lang/String;)V"⟩, .castable E E]
/-- what the tables have for a throw of E in the class own: by program -/
def gTh (own : String) (ik ic : Nat) (E : String) : Prop := Bundle.fit E = true ∧ (∀ n ∈ gNames, Bundle.fit n = true) ∧ (∀ w ∈ (vx_atS own ic E gNames).filter (fun w => !goodWord w), w ∈ gNG E) ∧ (∀ w ∈ Cond.classLink own ik E :: Cond.initialized E :: vx_atS own ic E gNames, vx_ot w = true) ∧ E ∈ ["java/lang/IllegalArgumentException", "java/lang/IndexOutOfBoundsException", "java/util/NoSuchElementException", "java/lang/IllegalStateException"]
set_option maxHeartbeats 4000000 in
theorem v_throw (F : gF G z0 X cc nL own Ts ret nm fr lo mc ms) {postX : String → gH → Prop} (EX : gEX G z0 X postX mc ms) {E text : String} {ik is ic num pc3 pc4 pc6 pc9 : Nat} (hT : gTh own ik ic E) (hm1 : Cond.classLink own ik E ∈ Ts) (hm2 : Cond.initialized E ∈ Ts) (hm3 : ∀ w ∈ (vx_atS own ic E gNames).filter goodWord, w ∈ Ts) (hs : (own, is, text, num) ∈ gStrs)
    (d0 : decode cc pc = .ok (.new ik, 3)) (e3 : pc + 3 = pc3) (d3 : decode cc pc3 = .ok (.dup, 1)) (e4 : pc + 4 = pc4) (d4 : decode cc pc4 = .ok (.ldc is, 2)) (e6 : pc + 6 = pc6) (d6 : decode cc pc6 = .ok (.invokespecial ic, 3)) (e9 : pc + 9 = pc9) (d9 : decode cc pc9 = .ok (.athrow, 1))
    (hR1 : 6 ≤ fr) (hR2 : (st.map fun v => v.category).sum + 82 ≤ lo) (hcc : cells + 1 ≤ mc) (hcs : slots + 6 ≤ ms) (hp : postX E h) : gV G z0 X cells slots h pc L st := by
  obtain ⟨p, l, e, R, s, m, args, below, meth, c, Q⟩ := X
  obtain ⟨hx, hb, hml, hown, hts, ⟨hK, hKa, hKb, hU, hN, hSt, hGn⟩, hz, hlk, hr, hnm, hR⟩ := F
  obtain ⟨hne, hst, post, hQ⟩ := EX
  obtain ⟨t1, t2, t3, t4, t5⟩ := hT
  subst e3 e4 e6 e9 hR hQ
  intro H locs ls hG hS hL
  refine vx_throwS hx hb hst hown t1 t2 (hts _ hm1) (hts _ hm2) (hSt.1 _ hs) (vx_hat (fun w hw => hts w (hm3 w hw)) t3 (vx_c (va_Nw.use rfl (hGn.2.2.2 _ List.mem_cons_self)) (vx_c (va_Nw.use rfl (hGn.2.2.2 _ (List.mem_cons_of_mem _ List.mem_cons_self))) (vx_c (va_Nw.use rfl (hGn.2.2.2 _ (List.mem_cons_of_mem _ (List.mem_cons_of_mem _ List.mem_cons_self)))) (vx_c (va_Nw.use rfl (hGn.2.1 _ t5)) vx_n))))) t4 hU hN hS hL.1 d0 d3 d4 d6 d9 (fun x hx9 => (hne x hx9).elim) ?_ ?_ hcc hcs hlk ?_ hS.2.2 hcc hcs
  · show 2 + 3 < fr
    omega
  · show _ + (13 * (2 + 1) + 43) ≤ lo
    omega
  · intro t hW hsz hkept
    exact ⟨⟨h, hp, hG.grow hkept⟩, Nat.le_trans hS.1 hsz, fun q h1 h2 => by rw [hkept q (Nat.lt_of_lt_of_le h1 hS.1)]; exact hS.2.1 q h1 h2⟩
/-- the same for a class whose constructor passes the text on by its entry 13 -/
def gThN (own : String) (ik ic : Nat) (E : String) : Prop := Bundle.fit E = true ∧ (∀ n ∈ gNames, Bundle.fit n = true) ∧ (∀ w ∈ (vx_atN own ic E gNames).filter (fun w => !goodWord w), w ∈ gNG E) ∧ (∀ w ∈ Cond.classLink own ik E :: Cond.initialized E :: vx_atN own ic E gNames, vx_ot w = true) ∧ E ∈ ["java/lang/IllegalArgumentException", "java/lang/IndexOutOfBoundsException", "java/util/NoSuchElementException", "java/lang/IllegalStateException"]
set_option maxHeartbeats 4000000 in
theorem v_throwN (F : gF G z0 X cc nL own Ts ret nm fr lo mc ms) {postX : String → gH → Prop} (EX : gEX G z0 X postX mc ms) {E text : String} {ik is ic num pc3 pc4 pc6 pc9 : Nat} (hT : gThN own ik ic E) (hm1 : Cond.classLink own ik E ∈ Ts) (hm2 : Cond.initialized E ∈ Ts) (hm3 : ∀ w ∈ (vx_atN own ic E gNames).filter goodWord, w ∈ Ts) (hs : (own, is, text, num) ∈ gStrs)
    (d0 : decode cc pc = .ok (.new ik, 3)) (e3 : pc + 3 = pc3) (d3 : decode cc pc3 = .ok (.dup, 1)) (e4 : pc + 4 = pc4) (d4 : decode cc pc4 = .ok (.ldc is, 2)) (e6 : pc + 6 = pc6) (d6 : decode cc pc6 = .ok (.invokespecial ic, 3)) (e9 : pc + 9 = pc9) (d9 : decode cc pc9 = .ok (.athrow, 1))
    (hR1 : 6 ≤ fr) (hR2 : (st.map fun v => v.category).sum + 82 ≤ lo) (hcc : cells + 1 ≤ mc) (hcs : slots + 6 ≤ ms) (hp : postX E h) : gV G z0 X cells slots h pc L st := by
  obtain ⟨p, l, e, R, s, m, args, below, meth, c, Q⟩ := X
  obtain ⟨hx, hb, hml, hown, hts, ⟨hK, hKa, hKb, hU, hN, hSt, hGn⟩, hz, hlk, hr, hnm, hR⟩ := F
  obtain ⟨hne, hst, post, hQ⟩ := EX
  obtain ⟨t1, t2, t3, t4, t5⟩ := hT
  subst e3 e4 e6 e9 hR hQ
  intro H locs ls hG hS hL
  refine vx_throwN hx hb hst hown t1 t2 (hts _ hm1) (hts _ hm2) (hSt.1 _ hs) (vx_hat (fun w hw => hts w (hm3 w hw)) t3 (vx_c (va_Nw.use rfl (hGn.2.2.2 _ List.mem_cons_self)) (vx_c (va_Nw.use rfl (hGn.2.2.2 _ (List.mem_cons_of_mem _ List.mem_cons_self))) (vx_c (va_Nw.use rfl (hGn.2.2.2 _ (List.mem_cons_of_mem _ (List.mem_cons_of_mem _ List.mem_cons_self)))) (vx_c (va_Nw.use rfl (hGn.2.1 _ t5)) vx_n))))) t4 hU hN hS hL.1 d0 d3 d4 d6 d9 (fun x hx9 => (hne x hx9).elim) ?_ ?_ hcc hcs hlk ?_ hS.2.2 hcc hcs
  · show 2 + 3 < fr
    omega
  · show _ + (13 * (2 + 1) + 43) ≤ lo
    omega
  · intro t hW hsz hkept
    exact ⟨⟨h, hp, hG.grow hkept⟩, Nat.le_trans hS.1 hsz, fun q h1 h2 => by rw [hkept q (Nat.lt_of_lt_of_le h1 hS.1)]; exact hS.2.1 q h1 h2⟩
theorem g_callX {p : Program} {l : Launch} {e : Env} {R : Room} {s : State} {m : MethodId} {args : Array Value} {below : List Frame} {meth : Method} {c : Code} {H : Heap} {locs : List Loc} {Q : State → Prop} {mcc msc pc : Nat} {ls : Array Slot} {stk rest : List Value} {a : Array Value} {H0 : Heap} {postc : Option Value → gH → Prop} {postXc : String → gH → Prop} (hr : vx_Run p l e R s m args below meth c H locs cells slots mcc msc (F0 m pc ls stk) rest (gQ G z0 postc a) (gXC G z0 postXc) (fun q => z0 ≤ q)) (hS : va_S (fun q => z0 ≤ q) H0 H locs)
    (kx : ∀ (E : String) (h' : gH) (H1 : Heap) (locs1 : List Loc) (q : Addr) (ce : Cell), postXc E h' → gOk G z0 h' H1 → va_S (fun q => z0 ≤ q) H0 H1 locs1 → H1[q]? = some ce → ce.vm = .none → s.vm.findClass E = some ce.cls → vx_W p l e R s m args below meth c H1 locs1 (cells + mcc) (slots + msc) Q (F0 m pc ls rest) q)
    (kk : ∀ (v : Option Value) (h' : gH) (H1 : Heap) (locs1 : List Loc), postc v h' → gOk G z0 h' H1 → va_S (fun q => z0 ≤ q) H0 H1 locs1 → W p l e R s m args below meth c H1 locs1 (cells + mcc) (slots + msc) Q (F0 m (pc + 3) ls (v.toList ++ rest))) : W p l e R s m args below meth c H locs cells slots Q (F0 m pc ls stk) := by
  intro T hT X
  rcases hr T hT X with ⟨v, st₀, t, T', L, h0, X', hL, e1, e2, ⟨⟨w, h', hv, hp, hb⟩, hz, hk⟩, st⟩ | ⟨q, st₀, t, T', L, E, ce, h0, X', hL, e1, e2, ⟨⟨h', hp, hb⟩, hz, hk⟩, hce, hcv, hcl, st⟩
  · cases hv
    rw [h0] at hz hk
    obtain ⟨t2, a1, b1⟩ := kk v h' T'.heap (locs ++ L) hp (by rw [e1]; exact hb)
      ⟨Nat.le_trans hS.1 (by rw [e1]; exact hz), fun q h1 h2 => by rw [e1, hk q (Nat.lt_of_lt_of_le h1 hS.1) h2]; exact hS.2.1 q h1 h2, fun q hq => by
        rcases List.mem_append.mp hq with h | h
        · exact hS.2.2 q h
        · exact hL q h⟩ T' rfl X'
    exact ⟨t2, st t2 a1, b1⟩
  · rw [h0] at hz hk
    obtain ⟨t2, a1, b1⟩ := kx E h' T'.heap (locs ++ L) q ce hp (by rw [e1]; exact hb)
      ⟨Nat.le_trans hS.1 (by rw [e1]; exact hz), fun q h1 h2 => by rw [e1, hk q (Nat.lt_of_lt_of_le h1 hS.1) h2]; exact hS.2.1 q h1 h2, fun q hq => by
        rcases List.mem_append.mp hq with h | h
        · exact hS.2.2 q h
        · exact hL q h⟩ (by rw [e1]; exact hce) hcv hcl T' rfl X'
    exact ⟨t2, st.trans a1, b1⟩
set_option maxHeartbeats 4000000 in
theorem v_callVX (F : gF G z0 X cc nL own Ts ret nm fr lo mc ms) {y : MethodName} {ws ws' : List Cond} {frc loc mcc msc maxL n index : Nat} {bytes : ByteArray} {postc : Option Value → gH → Prop} {postXc postX : String → gH → Prop} {As stk : List Value} {b ci : Nat} {rt : Option FieldType} {fs : List Value} {C : String} {T : u_T} {N : Nat} (EX : gEX G z0 X postX mc ms) (hC : ∀ l : Launch, l.stackTraces = false → gCX G z0 l y ws frc loc (.ref b :: As) h postc postXc mcc msc) (hpx : ∀ E h', postXc E h' → postX E h') (hG1 : GoodIn Ts (wsV own index C y ws)) (hw : ws = Cond.code y bytes maxL rt :: ws') (hd : y.cls = C ∧ y.cls ≠ "java/lang/invoke/MethodHandle" ∧ y.cls ≠ "java/lang/invoke/VarHandle" ∧ (parseMethodDescriptor y.desc).map (fun d => d.parameters.length) = some n) (hR1 : frc + 1 ≤ fr) (hR2 : 8 + (maxL + 11) + loc ≤ lo) (ha : h b = some (.inr (ci, fs))) (hcl : vwCl[ci]? = some (C, T, N)) (hn : As.length = n) (hsk : stk = As.reverse ++ .ref b :: st) (hst : (st.map fun v => v.category).sum ≤ 8) (hcc : cells + mcc ≤ mc) (hcs : slots + msc ≤ ms) (d : decode cc pc = .ok (.invokevirtual index, 3)) (hp : pc + 3 = pc') (kk : ∀ (v : Option Value) (h' : gH), postc v h' → gV G z0 X (cells + mcc) (slots + msc) h' pc' L (v.toList ++ st)) : gV G z0 X cells slots h pc L stk := by
  obtain ⟨p, l, e, R, s, m, args, below, meth, c, Q⟩ := X
  obtain ⟨hx, hb, hml, hown, hts, ⟨hK, hKr⟩, hz, hlk, hr, hnm, hR⟩ := F
  obtain ⟨hne, hstt, post, hQ⟩ := EX
  subst hp hsk hR hQ
  intro H locs ls hG hS hL
  obtain ⟨ws1, hP, hD, hI⟩ := id hG
  obtain ⟨q0, hq⟩ := (hI _ _).mp ha
  have hpre : PreS s H (gP G z0 (.ref b :: As) h) (.ref b :: As) := ⟨gP_blind G z0 _ h, fun U hU hW => ⟨rfl, by rw [hU]; exact Nat.le_trans hz hS.1, by rw [hU]; exact hG, gK.to ⟨hK, hKr⟩ hS.2.1 hU hW⟩⟩
  exact g_callX (vx_runV (rest := st) ⟨hx, hb, hml, hown, hts⟩ (hC l hstt) (cwV n hts hG1 hw rfl rfl hd ⟨hR1, hR2⟩) ⟨hpre.1, va_recv hK hP hcl hq, hpre.2⟩ rfl hn (by rw [← hml]; exact hL.1) rfl (lv_room hst) d ⟨hcc, hcs⟩) hS (fun E h' H1 locs1 q ce hpc hG1 hS1 hce hcv hcl => vx_out (fun x hx9 => (hne x hx9).elim) hlk hce hcv hcl (fun t ht hW => ⟨⟨h', hpx E h' hpc, by rw [ht]; exact hG1⟩, hS1.F ht⟩) hS1.2.2 hcc hcs) (fun v h' H1 locs1 hpc hG1 hS1 => kk v h' hpc H1 locs1 ls hG1 hS1 hL)
end GX
