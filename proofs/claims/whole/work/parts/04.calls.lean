section GC
variable {G : gG} {z0 : Nat} {X : gX} {cc : ByteArray} {nL fr lo mc ms : Nat} {own nm : String} {Ts : List Cond} {ret : Option FieldType} {cells slots : Nat} {h : gH} {pc pc' : Nat} {L L' : List (Nat × Value)} {st : List Value}
theorem g_mono {p : Program} {l : Launch} {e : Env} {R : Room} {s : State} {m : MethodId} {args : Array Value} {below : List Frame} {meth : Method} {c : Code} {H : Heap} {locs : List Loc} {cells slots : Nat} {Q Q' : State → Prop} {g : JFrame} (hq : ∀ t, Q' t → Q t) (k : W p l e R s m args below meth c H locs cells slots Q' g) : W p l e R s m args below meth c H locs cells slots Q g := by
  intro T hT X
  obtain ⟨t, a, b⟩ := k T hT X
  exact ⟨t, a, hq t b⟩
theorem v_iret {post : Option Value → gH → Prop} (F : gF G z0 X cc nL own Ts (some .int) nm fr lo mc ms) {v : Int32} (E : gE G z0 X post mc ms) (hc : cells ≤ mc) (hs : slots ≤ ms)  (d : decode cc pc = .ok (.ireturn, 1)) (hp : post (some (.int v)) h) : gV G z0 X cells slots h pc L [.int v] := by
  obtain ⟨p, l, e, R, s, m, args, below, meth, c, Q⟩ := X
  obtain ⟨hx, hb, hml, hown, hts, ⟨hK, hKr⟩, hz, hlk, hr, hnm, hR⟩ := F
  intro H locs ls hG hS hL
  refine g_mono E ?_
  refine W.widen hc hs ?_
  exact W.iret hx hb hr  (fun t ht hW => ⟨⟨_, h, rfl, hp, by rw [ht]; exact hG⟩, hS.F ht⟩) hS.2.2 d hlk
theorem v_zret {post : Option Value → gH → Prop} {v : Int32} {ty : FieldType} (F : gF G z0 X cc nL own Ts (some ty) nm fr lo mc ms) (E : gE G z0 X post mc ms) (hc : cells ≤ mc) (hs : slots ≤ ms) (hn : narrow ty (.int v) = .int v) (d : decode cc pc = .ok (.ireturn, 1)) (hp : post (some (.int v)) h) : gV G z0 X cells slots h pc L [.int v] := by
  obtain ⟨p, l, e, R, s, m, args, below, meth, c, Q⟩ := X
  obtain ⟨hx, hb, hml, hown, hts, ⟨hK, hKr⟩, hz, hlk, hr, hnm, hR⟩ := F
  intro H locs ls hG hS hL
  refine g_mono E ?_
  refine W.widen hc hs ?_
  exact W.zret hx hb hr hn (fun t ht hW => ⟨⟨_, h, rfl, hp, by rw [ht]; exact hG⟩, hS.F ht⟩) hS.2.2 d hlk
theorem v_lret {post : Option Value → gH → Prop} (F : gF G z0 X cc nL own Ts (some .long) nm fr lo mc ms) {v : Int64} (E : gE G z0 X post mc ms) (hc : cells ≤ mc) (hs : slots ≤ ms)  (d : decode cc pc = .ok (.lreturn, 1)) (hp : post (some (.long v)) h) : gV G z0 X cells slots h pc L [.long v] := by
  obtain ⟨p, l, e, R, s, m, args, below, meth, c, Q⟩ := X
  obtain ⟨hx, hb, hml, hown, hts, ⟨hK, hKr⟩, hz, hlk, hr, hnm, hR⟩ := F
  intro H locs ls hG hS hL
  refine g_mono E ?_
  refine W.widen hc hs ?_
  exact W.lret hx hb hr  (fun t ht hW => ⟨⟨_, h, rfl, hp, by rw [ht]; exact hG⟩, hS.F ht⟩) hS.2.2 d hlk
theorem v_fret {post : Option Value → gH → Prop} (F : gF G z0 X cc nL own Ts (some .float) nm fr lo mc ms) {v : UInt32} (E : gE G z0 X post mc ms) (hc : cells ≤ mc) (hs : slots ≤ ms)  (d : decode cc pc = .ok (.freturn, 1)) (hp : post (some (.float v)) h) : gV G z0 X cells slots h pc L [.float v] := by
  obtain ⟨p, l, e, R, s, m, args, below, meth, c, Q⟩ := X
  obtain ⟨hx, hb, hml, hown, hts, ⟨hK, hKr⟩, hz, hlk, hr, hnm, hR⟩ := F
  intro H locs ls hG hS hL
  refine g_mono E ?_
  refine W.widen hc hs ?_
  exact W.fret hx hb hr  (fun t ht hW => ⟨⟨_, h, rfl, hp, by rw [ht]; exact hG⟩, hS.F ht⟩) hS.2.2 d hlk
theorem v_aret {post : Option Value → gH → Prop} {r : Option Nat} {n : String} (F : gF G z0 X cc nL own Ts (some (.object n)) nm fr lo mc ms) (E : gE G z0 X post mc ms) (hc : cells ≤ mc) (hs : slots ≤ ms)  (d : decode cc pc = .ok (.areturn, 1)) (hp : post (some (va_rf r)) h) : gV G z0 X cells slots h pc L [va_rf r] := by
  obtain ⟨p, l, e, R, s, m, args, below, meth, c, Q⟩ := X
  obtain ⟨hx, hb, hml, hown, hts, ⟨hK, hKr⟩, hz, hlk, hr, hnm, hR⟩ := F
  intro H locs ls hG hS hL
  refine g_mono E ?_
  refine W.widen hc hs ?_
  exact W.aret hx hb hr (Or.inl ⟨_, rfl⟩) (by cases r; exact Or.inl rfl; exact Or.inr ⟨_, rfl⟩) (fun t ht hW => ⟨⟨_, h, rfl, hp, by rw [ht]; exact hG⟩, hS.F ht⟩) hS.2.2 d hlk
theorem v_vret {post : Option Value → gH → Prop} (F : gF G z0 X cc nL own Ts (none) nm fr lo mc ms)  (E : gE G z0 X post mc ms) (hc : cells ≤ mc) (hs : slots ≤ ms)  (d : decode cc pc = .ok (.return_, 1)) (hp : post (none) h) : gV G z0 X cells slots h pc L [] := by
  obtain ⟨p, l, e, R, s, m, args, below, meth, c, Q⟩ := X
  obtain ⟨hx, hb, hml, hown, hts, ⟨hK, hKr⟩, hz, hlk, hr, hnm, hR⟩ := F
  intro H locs ls hG hS hL
  refine g_mono E ?_
  refine W.widen hc hs ?_
  exact W.vret hx hb hr  (fun t ht hW => ⟨⟨_, h, rfl, hp, by rw [ht]; exact hG⟩, hS.F ht⟩) hS.2.2 d hlk
theorem g_call {p : Program} {l : Launch} {e : Env} {R : Room} {s : State} {m : MethodId} {args : Array Value} {below : List Frame} {meth : Method} {c : Code} {H : Heap} {locs : List Loc} {Q : State → Prop} {mcc msc pc : Nat} {ls : Array Slot} {stk rest : List Value} {a : Array Value} {H0 : Heap} {postc : Option Value → gH → Prop} (hr : va_Run p l e R s m args below meth c H locs cells slots mcc msc (F0 m pc ls stk) rest (gQ G z0 postc a) (fun q => z0 ≤ q)) (hS : va_S (fun q => z0 ≤ q) H0 H locs)
    (kk : ∀ (v : Option Value) (h' : gH) (H1 : Heap) (locs1 : List Loc), postc v h' → gOk G z0 h' H1 → va_S (fun q => z0 ≤ q) H0 H1 locs1 → W p l e R s m args below meth c H1 locs1 (cells + mcc) (slots + msc) Q (F0 m (pc + 3) ls (v.toList ++ rest))) : W p l e R s m args below meth c H locs cells slots Q (F0 m pc ls stk) := by
  intro T hT X
  obtain ⟨v, st₀, t, T', L, h0, X', hL, e1, e2, ⟨⟨w, h', hv, hp, hb⟩, hz, hk⟩, st⟩ := hr T hT X
  cases hv
  rw [h0] at hz hk
  obtain ⟨t2, a1, b1⟩ := kk v h' T'.heap (locs ++ L) hp (by rw [e1]; exact hb)
    ⟨Nat.le_trans hS.1 (by rw [e1]; exact hz), fun q h1 h2 => by rw [e1, hk q (Nat.lt_of_lt_of_le h1 hS.1) h2]; exact hS.2.1 q h1 h2, fun q hq => by
      rcases List.mem_append.mp hq with h | h
      · exact hS.2.2 q h
      · exact hL q h⟩ T' rfl X'
  exact ⟨t2, st t2 a1, b1⟩
theorem v_callV (F : gF G z0 X cc nL own Ts ret nm fr lo mc ms) {y : MethodName} {ws ws' : List Cond} {frc loc mcc msc maxL n index : Nat} {bytes : ByteArray} {postc : Option Value → gH → Prop} {As stk : List Value} {b ci : Nat} {rt : Option FieldType} {fs : List Value} {C : String} {T : u_T} {N : Nat} (hC : ∀ l : Launch, gC G z0 l y ws frc loc (.ref b :: As) h postc mcc msc) (hG1 : GoodIn Ts (wsV own index C y ws)) (hw : ws = Cond.code y bytes maxL rt :: ws') (hd : y.cls = C ∧ y.cls ≠ "java/lang/invoke/MethodHandle" ∧ y.cls ≠ "java/lang/invoke/VarHandle" ∧ (parseMethodDescriptor y.desc).map (fun d => d.parameters.length) = some n) (hR1 : frc + 1 ≤ fr) (hR2 : 8 + (maxL + 11) + loc ≤ lo) (ha : h b = some (.inr (ci, fs))) (hcl : vwCl[ci]? = some (C, T, N)) (hn : As.length = n) (hsk : stk = As.reverse ++ .ref b :: st) (hst : (st.map fun v => v.category).sum ≤ 8) (hcc : cells + mcc ≤ mc) (hcs : slots + msc ≤ ms) (d : decode cc pc = .ok (.invokevirtual index, 3)) (hp : pc + 3 = pc') (kk : ∀ (v : Option Value) (h' : gH), postc v h' → gV G z0 X (cells + mcc) (slots + msc) h' pc' L (v.toList ++ st)) : gV G z0 X cells slots h pc L stk := by
  obtain ⟨p, l, e, R, s, m, args, below, meth, c, Q⟩ := X
  obtain ⟨hx, hb, hml, hown, hts, ⟨hK, hKr⟩, hz, hlk, hr, hnm, hR⟩ := F
  subst hp
  subst hsk
  subst hR
  intro H locs ls hG hS hL
  obtain ⟨ws1, hP, hD, hI⟩ := id hG
  obtain ⟨q0, hq⟩ := (hI _ _).mp ha
  have hpre : PreS s H (gP G z0 (.ref b :: As) h) (.ref b :: As) := ⟨gP_blind G z0 _ h, fun U hU hW => ⟨rfl, by rw [hU]; exact Nat.le_trans hz hS.1, by rw [hU]; exact hG, gK.to ⟨hK, hKr⟩ hS.2.1 hU hW⟩⟩
  exact g_call (va_runV (rest := st) ⟨hx, hb, hml, hown, hts⟩ (hC l) (cwV n hts hG1 hw rfl rfl hd ⟨hR1, hR2⟩) ⟨hpre.1, va_recv hK hP hcl hq, hpre.2⟩ rfl hn (by rw [← hml]; exact hL.1) rfl (lv_room hst) d ⟨hcc, hcs⟩) hS (fun v h' H1 locs1 hpc hG1 hS1 => kk v h' hpc H1 locs1 ls hG1 hS1 hL)
theorem v_callS (F : gF G z0 X cc nL own Ts ret nm fr lo mc ms) {y : MethodName} {ws ws' : List Cond} {frc loc mcc msc maxL n index : Nat} {bytes : ByteArray} {postc : Option Value → gH → Prop} {As stk : List Value} {rt : Option FieldType} (hC : ∀ l : Launch, gC G z0 l y ws frc loc As h postc mcc msc) (hG1 : GoodIn Ts (va_wsS own index y ws)) (hw : ws = Cond.code y bytes maxL rt :: ws') (hd : y.cls ≠ "java/lang/invoke/MethodHandle" ∧ y.cls ≠ "java/lang/invoke/VarHandle" ∧ (parseMethodDescriptor y.desc).map (fun d => d.parameters.length) = some n) (hR1 : frc + 1 ≤ fr) (hR2 : 8 + (maxL + 11) + loc ≤ lo) (hn : As.length = n) (hsk : stk = As.reverse ++ st) (hst : (st.map fun v => v.category).sum ≤ 8) (hcc : cells + mcc ≤ mc) (hcs : slots + msc ≤ ms) (d : decode cc pc = .ok (.invokestatic index, 3)) (hp : pc + 3 = pc') (kk : ∀ (v : Option Value) (h' : gH), postc v h' → gV G z0 X (cells + mcc) (slots + msc) h' pc' L (v.toList ++ st)) : gV G z0 X cells slots h pc L stk := by
  obtain ⟨p, l, e, R, s, m, args, below, meth, c, Q⟩ := X
  obtain ⟨hx, hb, hml, hown, hts, ⟨hK, hKr⟩, hz, hlk, hr, hnm, hR⟩ := F
  subst hp
  subst hsk
  subst hR
  intro H locs ls hG hS hL
  have hpre : PreS s H (gP G z0 As h) As := ⟨gP_blind G z0 _ h, fun U hU hW => ⟨rfl, by rw [hU]; exact Nat.le_trans hz hS.1, by rw [hU]; exact hG, gK.to ⟨hK, hKr⟩ hS.2.1 hU hW⟩⟩
  have ok : ∀ w ∈ va_wsS own index y ws, w.before args s = true := fun w h => hts w (hG1 w h).1
  exact g_call (va_runS (rest := st) ⟨hx, hb, hml, hown, hts⟩ (hC l) ⟨callB_of n hts (fun w h => hG1 w (by unfold va_wsS; exact List.mem_append_right _ h)) hw rfl rfl (ok _ (by simp [va_wsS])) (ok _ (by simp [va_wsS])) hd ⟨hR1, hR2⟩, ok _ (by simp [va_wsS])⟩ hpre rfl hn (by rw [← hml]; exact hL.1) rfl (lv_room hst) d ⟨hcc, hcs⟩) hS (fun v h' H1 locs1 hpc hG1 hS1 => kk v h' hpc H1 locs1 ls hG1 hS1 hL)
theorem v_callI (F : gF G z0 X cc nL own Ts ret nm fr lo mc ms) {y : MethodName} {ws ws' : List Cond} {frc loc mcc msc maxL n index : Nat} {bytes : ByteArray} {postc : Option Value → gH → Prop} {As stk : List Value} {b : Nat} (hC : ∀ l : Launch, gC G z0 l y ws frc loc (.ref b :: As) h postc mcc msc) (hG1 : GoodIn Ts ws) (hw : ws = Cond.code y bytes maxL none :: ws') (hm1 : Cond.initialized y.cls ∈ Ts) (hm2 : Cond.methodLink own index y ∈ Ts) (hm3 : Cond.instanceMethod y ∈ Ts) (hy1 : y.name = "<init>") (hd : y.cls ≠ "java/lang/invoke/MethodHandle" ∧ y.cls ≠ "java/lang/invoke/VarHandle" ∧ (parseMethodDescriptor y.desc).map (fun d => d.parameters.length) = some n) (hR1 : frc + 1 ≤ fr) (hR2 : 8 + (maxL + 11) + loc ≤ lo) (hn : As.length = n) (hsk : stk = As.reverse ++ .ref b :: st) (hst : (st.map fun v => v.category).sum ≤ 8) (hcc : cells + mcc ≤ mc) (hcs : slots + msc ≤ ms) (d : decode cc pc = .ok (.invokespecial index, 3)) (hp : pc + 3 = pc') (kk : ∀ (v : Option Value) (h' : gH), postc v h' → gV G z0 X (cells + mcc) (slots + msc) h' pc' L (v.toList ++ st)) : gV G z0 X cells slots h pc L stk := by
  obtain ⟨p, l, e, R, s, m, args, below, meth, c, Q⟩ := X
  obtain ⟨hx, hb, hml, hown, hts, ⟨hK, hKr⟩, hz, hlk, hr, hnm, hR⟩ := F
  subst hp
  subst hsk
  subst hR
  intro H locs ls hG hS hL
  have hpre : PreS s H (gP G z0 (.ref b :: As) h) (.ref b :: As) := ⟨gP_blind G z0 _ h, fun U hU hW => ⟨rfl, by rw [hU]; exact Nat.le_trans hz hS.1, by rw [hU]; exact hG, gK.to ⟨hK, hKr⟩ hS.2.1 hU hW⟩⟩
  exact g_call (va_runI (rest := st) ⟨hx, hb, hml, hown, hts⟩ (hC l) (cwI n hts hG1 hw rfl rfl (hts _ hm1) (hts _ hm2) (hts _ hm3) hy1 hd ⟨hR1, hR2⟩) hpre rfl hn (by rw [← hml]; exact hL.1) rfl (lv_room hst) d ⟨hcc, hcs⟩) hS (fun v h' H1 locs1 hpc hG1 hS1 => kk v h' hpc H1 locs1 ls hG1 hS1 hL)
theorem v_callIN (F : gF G z0 X cc nL own Ts ret nm fr lo mc ms) {y : MethodName} {ws ws' : List Cond} {frc loc mcc msc maxL n index : Nat} {bytes : ByteArray} {postc : Option Value → gH → Prop} {As stk : List Value} {b : Nat} (hC : ∀ l : Launch, gC G z0 l y ws frc loc (.ref b :: As) h postc mcc msc) (hG1 : GoodIn Ts ws) (hw : ws = Cond.code y bytes maxL none :: ws') (hm1 : Cond.initialized y.cls ∈ Ts) (hm2 : ∀ U : State, gN U → va_Nw (.methodLinkNest own index y RX6) U) (hm3 : Cond.instanceMethod y ∈ Ts) (hy1 : y.name = "<init>") (hd : y.cls ≠ "java/lang/invoke/MethodHandle" ∧ y.cls ≠ "java/lang/invoke/VarHandle" ∧ (parseMethodDescriptor y.desc).map (fun d => d.parameters.length) = some n) (hR1 : frc + 1 ≤ fr) (hR2 : 8 + (maxL + 11) + loc ≤ lo) (hn : As.length = n) (hsk : stk = As.reverse ++ .ref b :: st) (hst : (st.map fun v => v.category).sum ≤ 8) (hcc : cells + mcc ≤ mc) (hcs : slots + msc ≤ ms) (d : decode cc pc = .ok (.invokespecial index, 3)) (hp : pc + 3 = pc') (kk : ∀ (v : Option Value) (h' : gH), postc v h' → gV G z0 X (cells + mcc) (slots + msc) h' pc' L (v.toList ++ st)) : gV G z0 X cells slots h pc L stk := by
  obtain ⟨p, l, e, R, s, m, args, below, meth, c, Q⟩ := X
  obtain ⟨hx, hb, hml, hown, hts, ⟨hK, hKr⟩, hz, hlk, hr, hnm, hR⟩ := F
  subst hp
  subst hsk
  subst hR
  intro H locs ls hG hS hL
  have hpre : PreS s H (gP G z0 (.ref b :: As) h) (.ref b :: As) := ⟨gP_blind G z0 _ h, fun U hU hW => ⟨rfl, by rw [hU]; exact Nat.le_trans hz hS.1, by rw [hU]; exact hG, gK.to ⟨hK, hKr⟩ hS.2.1 hU hW⟩⟩
  exact g_call (va_runIN (rest := st) ⟨hx, hb, hml, hown, hts⟩ (hC l) ⟨va_cnB n hts hG1 hw rfl rfl (hm2 s hKr.2.2.2.2.2) (hts _ hm1) hd ⟨hR1, hR2⟩, hy1, hts _ hm3⟩ hpre rfl hn (by rw [← hml]; exact hL.1) rfl (lv_room hst) d ⟨hcc, hcs⟩) hS (fun v h' H1 locs1 hpc hG1 hS1 => kk v h' hpc H1 locs1 ls hG1 hS1 hL)
theorem v_objInit (F : gF G z0 X cc nL own Ts ret nm fr lo mc ms) {a idx : Nat} (hm1 : Cond.methodLink own idx Lib.objectInit ∈ Ts) (hm2 : Cond.instanceMethod Lib.objectInit ∈ Ts) (hm3 : Cond.code Lib.objectInit ⟨#[0xb1]⟩ 1 none ∈ Ts) (hR1 : 1 ≤ fr) (hR2 : (st.map fun v => v.category).sum + 12 ≤ lo) (d : decode cc pc = .ok (.invokespecial idx, 3)) (hp : pc + 3 = pc') (k : gV G z0 X cells slots h pc' L st) : gV G z0 X cells slots h pc L (.ref a :: st) := by
  obtain ⟨p, l, e, R, s, m, args, below, meth, c, Q⟩ := X
  obtain ⟨hx, hb, hml, hown, hts, ⟨hK, hKr⟩, hz, hlk, hr, hnm, hR⟩ := F
  subst hp
  subst hR
  intro H locs ls hG hS hL
  exact W.objInit hx hb hown (hts _ hm1) (hts _ hm2) (hts _ hm3) rfl hL.1 rfl d hR1 (by show 2 * 0 + (st.map fun v => v.category).sum + 12 ≤ lo; omega) (k H locs ls hG hS hL)
theorem v_mmax (F : gF G z0 X cc nL own Ts ret nm fr lo mc ms) {x y v : Int32} {index : Nat} (hm1 : Cond.methodLink own index Lib.Math.max.name ∈ Ts) (hm2 : Cond.static Lib.Math.max.name ∈ Ts) (hm3 : Cond.initialized "java/lang/Math" ∈ Ts) (hm4 : Cond.code Lib.Math.max.name Lib.Math.max.code 2 (some .int) ∈ Ts) (hR1 : 1 ≤ fr) (hR2 : (st.map fun v => v.category).sum + 13 ≤ lo) (hcc : cells ≤ mc) (hcs : slots ≤ ms) (hv : (if x < y then y else x) = v) (d : decode cc pc = .ok (.invokestatic index, 3)) (hp : pc + 3 = pc') (k : gV G z0 X cells slots h pc' L (.int v :: st)) : gV G z0 X cells slots h pc L (.int y :: .int x :: st) := by
  obtain ⟨p, l, e, R, s, m, args, below, meth, c, Q⟩ := X
  obtain ⟨hx, hb, hml, hown, hts, ⟨hK, hKr⟩, hz, hlk, hr, hnm, hR⟩ := F
  subst hp
  subst hR
  subst hv
  intro H locs ls hG hS hL
  exact va_mmax hx hb hL.1.symm hown (hts _ hm1) (hts _ hm2) (hts _ hm3) (hts _ hm4) hR1 hR2 hcc hcs d (k H locs ls hG hS hL)
theorem v_mmin (F : gF G z0 X cc nL own Ts ret nm fr lo mc ms) {x y v : Int32} {index : Nat} (hm1 : Cond.methodLink own index Lib.Math.min.name ∈ Ts) (hm2 : Cond.static Lib.Math.min.name ∈ Ts) (hm3 : Cond.initialized "java/lang/Math" ∈ Ts) (hm4 : Cond.code Lib.Math.min.name Lib.Math.min.code 2 (some .int) ∈ Ts) (hR1 : 1 ≤ fr) (hR2 : (st.map fun v => v.category).sum + 13 ≤ lo) (hcc : cells ≤ mc) (hcs : slots ≤ ms) (hv : (if y < x then y else x) = v) (d : decode cc pc = .ok (.invokestatic index, 3)) (hp : pc + 3 = pc') (k : gV G z0 X cells slots h pc' L (.int v :: st)) : gV G z0 X cells slots h pc L (.int y :: .int x :: st) := by
  obtain ⟨p, l, e, R, s, m, args, below, meth, c, Q⟩ := X
  obtain ⟨hx, hb, hml, hown, hts, ⟨hK, hKr⟩, hz, hlk, hr, hnm, hR⟩ := F
  subst hp
  subst hR
  subst hv
  intro H locs ls hG hS hL
  exact va_mmin hx hb hL.1.symm hown (hts _ hm1) (hts _ hm2) (hts _ hm3) (hts _ hm4) hR1 hR2 hcc hcs d (k H locs ls hG hS hL)
theorem v_new (F : gF G z0 X cc nL own Ts ret nm fr lo mc ms) {ci N index : Nat} {C : String} {T : u_T} {fs : List Value} {ty0 : Nat → FieldType} (hC : gCl Ts ci C T N) (hty : ∀ k, k < N → parseFieldDescriptor (T k).2.2.1 = some (ty0 k)) (hm1 : Cond.classLink own index C ∈ Ts) (hm2 : Cond.instantiable C N ∈ Ts) (hm3 : Cond.initialized C ∈ Ts) (hfs : ∀ j, j < N → defaultValue (ty0 j) = vp_V fs j) (hcc : cells + 1 ≤ mc) (hcs : slots + N ≤ ms) (d : decode cc pc = .ok (.new index, 3)) (hp : pc + 3 = pc') (kk : ∀ q : Nat, h q = none → gV G z0 X (cells + 1) (slots + N) (gu h q (.inr (ci, fs))) pc' L (.ref q :: st)) : gV G z0 X cells slots h pc L st := by
  obtain ⟨p, l, e, R, s, m, args, below, meth, c, Q⟩ := X
  obtain ⟨hx, hb, hml, hown, hts, ⟨hK, hKr⟩, hz, hlk, hr, hnm, hR⟩ := F
  subst hp
  subst hR
  intro H locs ls hG hS hL
  obtain ⟨ws, hP, hD, hI⟩ := id hG
  exact va_new hx hb hts hC.1 ty0 hty hown (hts _ hm1) (hts _ hm2) (hts _ hm3) hK hP hD hS (fun q hq => Nat.le_trans hz hq) hC.2 hfs hcc hcs d (fun q H1 hP1 hD1 hS1 => kk q (g_fresh hD1 hI) H1 locs ls ⟨_, hP1, hD1, g_push hD1 hI⟩ hS1 hL)
theorem g_arr {D : va_G} {cl : List vw_C} {tys : List (ClassId × FieldType)} {s : State} {cA cB : ClassId} {ty : FieldType} {t0 : Nat} (h : va_K D cl (tys ++ [(cA, ty)]) s) (ht : tys[t0]? = some (cB, ty)) : cA = cB := by
  have hl : t0 < tys.length := (List.getElem?_eq_some_iff.mp ht).1
  have h1 := (h.2 t0 (cB, ty) (by rw [List.getElem?_append_left hl]; exact ht)).2
  have h2 := (h.2 tys.length (cA, ty) (by rw [List.getElem?_append_right (Nat.le_refl _), Nat.sub_self]; rfl)).2
  cases ty with
  | object C =>
    obtain ⟨_, _, _, _, _, e1⟩ := h1
    obtain ⟨_, _, _, _, _, e2⟩ := h2
    exact Option.some.inj (e2.symm.trans e1)
  | _ => exact Option.some.inj (Eq.trans (Eq.symm h2) h1)
theorem v_newaI (F : gF G z0 X cc nL own Ts ret nm fr lo mc ms) {N' : Nat} {n : Int32} (hm1 : Cond.arrayClass .int ∈ Ts) (hn : ¬ n < 0) (hN : n.toNatClampNeg = N') (hby : N' * componentBytes .int ≤ 536870912) (hcc : cells + 1 ≤ mc) (hcs : slots + N' ≤ ms) (d : decode cc pc = .ok (.newarray .int, 2)) (hp : pc + 2 = pc') (kk : ∀ q : Nat, h q = none → gV G z0 X (cells + 1) (slots + N') (gu h q (oI G N' (fun _ => 0))) pc' L (.ref q :: st)) : gV G z0 X cells slots h pc L (.int n :: st) := by
  obtain ⟨p, l, e, R, s, m, args, below, meth, c, Q⟩ := X
  obtain ⟨hx, hb, hml, hown, hts, ⟨hK, hKr⟩, hz, hlk, hr, hnm, hR⟩ := F
  subst hp
  subst hR
  intro H locs ls hG hS hL
  obtain ⟨ws, hP, hD, hI⟩ := id hG
  refine va_newa (atype := .int) hx hb (hts _ hm1) (ty := .int) rfl hK hP hD hS (fun q hq => Nat.le_trans hz hq) (a0 := (N', (.inl (fun _ => 0)))) (fun cA => rfl) hn hN hby hcc hcs d (fun q cA H1 hK1 hP1 hD1 hS1 => ?_)
  have hc := g_arr (t0 := 0) hK1 rfl
  subst hc
  exact kk q (g_fresh hD1 hI) H1 locs ls ⟨_, hP1, hD1, g_push hD1 hI⟩ hS1 hL
theorem v_newaB (F : gF G z0 X cc nL own Ts ret nm fr lo mc ms) {N' : Nat} {n : Int32} (hm1 : Cond.arrayClass .byte ∈ Ts) (hn : ¬ n < 0) (hN : n.toNatClampNeg = N') (hby : N' * componentBytes .byte ≤ 536870912) (hcc : cells + 1 ≤ mc) (hcs : slots + N' ≤ ms) (d : decode cc pc = .ok (.newarray .byte, 2)) (hp : pc + 2 = pc') (kk : ∀ q : Nat, h q = none → gV G z0 X (cells + 1) (slots + N') (gu h q (oB G N' (fun _ => 0))) pc' L (.ref q :: st)) : gV G z0 X cells slots h pc L (.int n :: st) := by
  obtain ⟨p, l, e, R, s, m, args, below, meth, c, Q⟩ := X
  obtain ⟨hx, hb, hml, hown, hts, ⟨hK, hKr⟩, hz, hlk, hr, hnm, hR⟩ := F
  subst hp
  subst hR
  intro H locs ls hG hS hL
  obtain ⟨ws, hP, hD, hI⟩ := id hG
  refine va_newa (atype := .byte) hx hb (hts _ hm1) (ty := .byte) rfl hK hP hD hS (fun q hq => Nat.le_trans hz hq) (a0 := (N', (.inl (fun _ => 0)))) (fun cA => rfl) hn hN hby hcc hcs d (fun q cA H1 hK1 hP1 hD1 hS1 => ?_)
  have hc := g_arr (t0 := 1) hK1 rfl
  subst hc
  exact kk q (g_fresh hD1 hI) H1 locs ls ⟨_, hP1, hD1, g_push hD1 hI⟩ hS1 hL
theorem v_newaL (F : gF G z0 X cc nL own Ts ret nm fr lo mc ms) {N' : Nat} {n : Int32} (hm1 : Cond.arrayClass .long ∈ Ts) (hn : ¬ n < 0) (hN : n.toNatClampNeg = N') (hby : N' * componentBytes .long ≤ 536870912) (hcc : cells + 1 ≤ mc) (hcs : slots + N' ≤ ms) (d : decode cc pc = .ok (.newarray .long, 2)) (hp : pc + 2 = pc') (kk : ∀ q : Nat, h q = none → gV G z0 X (cells + 1) (slots + N') (gu h q (oL G N' (fun _ => 0))) pc' L (.ref q :: st)) : gV G z0 X cells slots h pc L (.int n :: st) := by
  obtain ⟨p, l, e, R, s, m, args, below, meth, c, Q⟩ := X
  obtain ⟨hx, hb, hml, hown, hts, ⟨hK, hKr⟩, hz, hlk, hr, hnm, hR⟩ := F
  subst hp
  subst hR
  intro H locs ls hG hS hL
  obtain ⟨ws, hP, hD, hI⟩ := id hG
  refine va_newa (atype := .long) hx hb (hts _ hm1) (ty := .long) rfl hK hP hD hS (fun q hq => Nat.le_trans hz hq) (a0 := (N', (.inr (.inl (fun _ => 0))))) (fun cA => rfl) hn hN hby hcc hcs d (fun q cA H1 hK1 hP1 hD1 hS1 => ?_)
  have hc := g_arr (t0 := 2) hK1 rfl
  subst hc
  exact kk q (g_fresh hD1 hI) H1 locs ls ⟨_, hP1, hD1, g_push hD1 hI⟩ hS1 hL
theorem v_newrQ (F : gF G z0 X cc nL own Ts ret nm fr lo mc ms) {N' index : Nat} {n : Int32} (hm1 : Cond.classLink own index RX0 ∈ Ts) (hn : ¬ n < 0) (hN : n.toNatClampNeg = N') (hby : N' * 4 ≤ 536870912) (hcc : cells + 1 ≤ mc) (hcs : slots + N' ≤ ms) (d : decode cc pc = .ok (.anewarray index, 3)) (hp : pc + 3 = pc') (kk : ∀ q : Nat, h q = none → gV G z0 X (cells + 1) (slots + N') (gu h q (oQ G N' (fun _ => none))) pc' L (.ref q :: st)) : gV G z0 X cells slots h pc L (.int n :: st) := by
  obtain ⟨p, l, e, R, s, m, args, below, meth, c, Q⟩ := X
  obtain ⟨hx, hb, hml, hown, hts, ⟨hK, hKr⟩, hz, hlk, hr, hnm, hR⟩ := F
  subst hp
  subst hR
  intro H locs ls hG hS hL
  obtain ⟨ws, hP, hD, hI⟩ := id hG
  refine va_newq hx hb hown (hts _ hm1) (C := RX0) hKr.1 hK hP hD hS (fun q hq => Nat.le_trans hz hq) hn hN hby hcc hcs d (fun q cA H1 hK1 hP1 hD1 hS1 => ?_)
  have hc := g_arr (t0 := 3) hK1 rfl
  subst hc
  exact kk q (g_fresh hD1 hI) H1 locs ls ⟨_, hP1, hD1, g_push hD1 hI⟩ hS1 hL
theorem v_newrV (F : gF G z0 X cc nL own Ts ret nm fr lo mc ms) {N' index : Nat} {n : Int32} (hm1 : Cond.classLink own index RX5 ∈ Ts) (hn : ¬ n < 0) (hN : n.toNatClampNeg = N') (hby : N' * 4 ≤ 536870912) (hcc : cells + 1 ≤ mc) (hcs : slots + N' ≤ ms) (d : decode cc pc = .ok (.anewarray index, 3)) (hp : pc + 3 = pc') (kk : ∀ q : Nat, h q = none → gV G z0 X (cells + 1) (slots + N') (gu h q (oV G N' (fun _ => none))) pc' L (.ref q :: st)) : gV G z0 X cells slots h pc L (.int n :: st) := by
  obtain ⟨p, l, e, R, s, m, args, below, meth, c, Q⟩ := X
  obtain ⟨hx, hb, hml, hown, hts, ⟨hK, hKr⟩, hz, hlk, hr, hnm, hR⟩ := F
  subst hp
  subst hR
  intro H locs ls hG hS hL
  obtain ⟨ws, hP, hD, hI⟩ := id hG
  refine va_newq hx hb hown (hts _ hm1) (C := RX5) hKr.2.1 hK hP hD hS (fun q hq => Nat.le_trans hz hq) hn hN hby hcc hcs d (fun q cA H1 hK1 hP1 hD1 hS1 => ?_)
  have hc := g_arr (t0 := 4) hK1 rfl
  subst hc
  exact kk q (g_fresh hD1 hI) H1 locs ls ⟨_, hP1, hD1, g_push hD1 hI⟩ hS1 hL
end GC
