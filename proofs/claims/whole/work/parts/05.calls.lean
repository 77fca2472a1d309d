/-! The rows of calls: what a method comes to, as a contract of the kit; and how a caller goes on. -/
theorem ab_K.moved {G : ab_G} {s U : State} {locs : List Loc} (hK : ab_K G s) (hW : s.WarmedH U.vm) (hS : va_S (ab_A G) s.heap U.heap locs) : ab_K G U := by
  obtain ⟨h1, h2, h3, h4, h5, h6, h7⟩ := hK
  refine ⟨va_K.moved hW.alike h1, h2, (h3.kept (hS.2.1 _ (by omega) (by show ¬ g_B G < g_b G; omega))).moved hW.alike, h4, Nat.lt_of_lt_of_le h5 hS.1, fun q hq => (h6 q hq).warmM hW, fun C hC => (h7 C hC).moved hW.alike⟩
def ab_P (G : ab_G) (w : ab_W) (U : State) : Prop := ab_K G U ∧ U.heap.size = g_B G + w.2.1 ∧ ab_dom w ∧ va_P (g_D G) vwCl (ab_w G w.1 w.2.1) U.heap
def ab_Q (G : ab_G) (r : Option Value) (w : ab_W) : Array Value → State → Outcome → State → Prop := fun _ st o t => o = .returned (r.map (ab_v G)) ∧ ab_dom w ∧ va_P (g_D G) vwCl (ab_w G w.1 w.2.1) t.heap ∧ va_F (ab_A G) st t
theorem ab_blind {G : ab_G} {w : ab_W} {av : List Value} : FrameBlind (va_Pc av (ab_P G w)) := by
  intro a U g mk q
  obtain ⟨q0, ⟨h1, h2, h3, h4, h5, h6, h7⟩, q2, q3, q4⟩ := q
  exact ⟨q0, ⟨va_K.moved (u := U) (U := U.calling g mk a) (Vm.Alike.refl U.vm) h1, h2, va_X.moved (u := U) (U := U.calling g mk a) (Vm.Alike.refl U.vm) h3, h4, h5, fun q hq => va_Nw.same (u := U) (U := U.calling g mk a) rfl rfl (h6 q hq), fun C hC => va_AO.moved (u := U) (U := U.calling g mk a) (Vm.Alike.refl U.vm) (h7 C hC)⟩, q2, q3, q4⟩
def ab_ws (M : ab_M) : List Cond := Cond.code M.1 M.2.1 M.2.2.1 M.2.2.2 :: ab_T
def ab_room (d : Nat × Nat) (mc ms : Nat) : Room := { frames := d.1, cells := mc, slots := ms, locals := d.2 }
theorem ab_good {M : ab_M} (h : Cond.code M.1 M.2.1 M.2.2.1 M.2.2.2 ∈ ab_T) : GoodIn ab_T (ab_ws M) := by
  intro c hc
  have hm : c ∈ ab_T := by
    rcases List.mem_cons.mp hc with rfl | h1
    · exact h
    · exact h1
  exact ⟨hm, good_of_word (List.mem_filter.mp hm).2⟩
theorem ab_met {G : ab_G} {M : ab_M} {d : Nat × Nat} {w w2 : ab_W} {r : Option Value} {As : List Value} {lv : List (Nat × Value)} (hy : plainName M.1.cls = true) (hlen : As.length ≤ M.2.2.1) (hcat : ∀ v ∈ As, v.category = 1) (hlv : lv_args 0 As = lv) (hR : ab_R G M d 0 lv [] w r w2) (hr : ab_rt M.2.2.2 r) :
    Met (g_l G) M.1 (ab_ws M) (ab_room d (w2.2.1 - w.2.1) (w2.2.2 - w.2.2)) (va_Pc (As.map (ab_v G)) (ab_P G w)) (ab_Q G r w2) (w2.2.1 - w.2.1) (w2.2.2 - w.2.2) (ab_A G) := by
  refine Met.ofW (cc := M.2.1) (maxL := M.2.2.1) (ret := M.2.2.2) hy rfl ?_
  intro p e s m args below meth c s₁ B hml hv
  obtain ⟨rfl, hK, hsz, hdom, hP⟩ := hv
  have hx := B.exec
  have hb := B.bytes
  have hret := B.returns
  have hts := atoms_spec (ws := ab_ws M) B.pre
  have hown : s.vm.findClass M.1.cls = some m.cls := findClass_of_methodNamed B.named
  have hlocks := B.notSynchronized
  have hin : meth.name = M.1.name := (name_of_methodNamed B.named B.method).1
  have hS : va_S (ab_A G) s.heap s.heap [] := va_S.rf
  have hsl : ∀ (l : List Value), (∀ v ∈ l, v.category = 1) → (lg_sl (l.map (ab_v G))).length = l.length := by
    intro l
    induction l with
    | nil => intro _; rfl
    | cons v t ih =>
      intro h
      have h1 : (ab_v G v).category = 1 := (ab_cat G v).trans (h v List.mem_cons_self)
      have h2 := ih (fun u hu => h u (List.mem_cons_of_mem _ hu))
      have e1 : lg_sl (ab_v G v :: t.map (ab_v G)) = .val (ab_v G v) :: lg_sl (t.map (ab_v G)) := by
        simp only [lg_sl, List.flatMap_cons, h1]
        rfl
      rw [List.map_cons, e1, List.length_cons, List.length_cons, h2]
  have hl := lv_entry (As.map (ab_v G)) (n := M.2.2.1) (by rw [hsl As hcat]; exact hlen)
  rw [lg_entry_eq]
  generalize (lg_sl (As.map (ab_v G)) ++ List.replicate (M.2.2.1 - (lg_sl (As.map (ab_v G))).length) Slot.unset).toArray = ls at hl ⊢
  have hla : ∀ (l : List Value) (k : Nat), (∀ v ∈ l, v.category = 1) → lv_args k (l.map (ab_v G)) = ab_l G (lv_args k l) ∧ ∀ q ∈ lv_args k l, q.2.category = 1 := by
    intro l
    induction l with
    | nil => intro k _; exact ⟨rfl, fun q hq => by cases hq⟩
    | cons v t ih =>
      intro k h
      have h0 := h v List.mem_cons_self
      have h1 : (ab_v G v).category = 1 := (ab_cat G v).trans h0
      obtain ⟨i1, i2⟩ := ih (k + 1) (fun u hu => h u (List.mem_cons_of_mem _ hu))
      refine ⟨?_, fun q hq => ?_⟩
      · simp only [List.map_cons, lv_args, h0, h1]
        show (k, ab_v G v) :: lv_args (k + 1) (t.map (ab_v G)) = _
        rw [i1]
        rfl
      · simp only [lv_args, h0] at hq
        rcases List.mem_cons.mp hq with rfl | hq
        · exact h0
        · exact i2 q hq
  obtain ⟨j1, j2⟩ := hla As 0 hcat
  rw [j1, hlv] at hl
  rw [hlv] at j2
  obtain ⟨b1, b2, b3⟩ := hR
  refine b3 p e _ s m _ below meth c s.heap [] 0 0 ls _ ⟨hx, hb, hret, hml, hown, fun w hw => hts w (List.mem_cons_of_mem _ hw), hlocks, hin, Nat.le_refl _, Nat.le_refl _, hK⟩ ⟨hdom, hP, hS⟩ (by omega) (by show 0 + _ ≤ (ab_room d _ _).cells; rw [Nat.zero_add]; exact Nat.le_refl _) (by show 0 + _ ≤ (ab_room d _ _).slots; rw [Nat.zero_add]; exact Nat.le_refl _) ⟨hl, j2⟩ (fun H1 locs1 pc1 ls1 I1 t1 => ?_)
  rw [Nat.zero_add, Nat.zero_add]
  have hq : ∀ t : State, t.heap = H1 → s.WarmedH t.vm → ab_Q G r w2 (As.map (ab_v G)).toArray s (.returned (r.map (ab_v G))) t := fun t ht _ => ⟨rfl, I1.1, by rw [ht]; exact I1.2.1, I1.2.2.F ht⟩
  rcases t1 with ⟨rfl, hd⟩ | ⟨x, rfl, hd⟩ | ⟨a, rfl, hd⟩
  · exact W.vret hx hb (hret.trans hr) hq I1.2.2.2.2 hd
  · obtain ⟨ty, h1, h2⟩ := hr
    exact W.zret hx hb (hret.trans h1) h2 hq I1.2.2.2.2 hd
  · obtain ⟨ty, h1, h2⟩ := hr
    exact W.aret hx hb (hret.trans h1) h2 (Or.inr ⟨_, rfl⟩) hq I1.2.2.2.2 hd
/-- what a call needs of the tables -/
def ab_kB (own : String) (idx : Nat) (M : ab_M) (n : Nat) : Prop := plainName M.1.cls = true ∧ Cond.code M.1 M.2.1 M.2.2.1 M.2.2.2 ∈ ab_T ∧ Cond.methodLink own idx M.1 ∈ ab_T ∧ Cond.initialized M.1.cls ∈ ab_T ∧ (M.1.cls ≠ "java/lang/invoke/MethodHandle" ∧ M.1.cls ≠ "java/lang/invoke/VarHandle" ∧ (parseMethodDescriptor M.1.desc).map (fun d => d.parameters.length) = some n)
def ab_kV (own : String) (idx : Nat) (M : ab_M) (n : Nat) : Prop := ab_kB own idx M n ∧ Cond.instanceMethod M.1 ∈ ab_T ∧ Cond.selects M.1.cls M.1 M.1 ∈ ab_T
def ab_kS (own : String) (idx : Nat) (M : ab_M) (n : Nat) : Prop := ab_kB own idx M n ∧ Cond.static M.1 ∈ ab_T
def ab_kI (own : String) (idx : Nat) (M : ab_M) (n : Nat) : Prop := ab_kB own idx M n ∧ M.1.name = "<init>" ∧ Cond.instanceMethod M.1 ∈ ab_T
/-- of a nest mate's private static method -/
def ab_kN (own : String) (idx : Nat) (M : ab_M) (n : Nat) (host : String) : Prop := plainName M.1.cls = true ∧ Cond.code M.1 M.2.1 M.2.2.1 M.2.2.2 ∈ ab_T ∧ (own, idx, M.1, host) ∈ ab_nestM ∧ Cond.initialized M.1.cls ∈ ab_T ∧ (M.1.cls ≠ "java/lang/invoke/MethodHandle" ∧ M.1.cls ≠ "java/lang/invoke/VarHandle" ∧ (parseMethodDescriptor M.1.desc).map (fun d => d.parameters.length) = some n) ∧ Cond.static M.1 ∈ ab_T
section AB
variable {G : ab_G} {M M1 : ab_M} {d d1 : Nat × Nat} {pc idx : Nat} {lv lv1 : List (Nat × Value)} {st stk As : List Value} {w : ab_W} {P P1 : Option Value → ab_W → Prop}
theorem ab_toList (G : ab_G) (r : Option Value) (st : List Value) : (r.map (ab_v G)).toList ++ st.map (ab_v G) = (r.toList ++ st).map (ab_v G) := by cases r <;> simp
theorem ab_pre {p : Program} {R : Room} {s : State} {m : MethodId} {args : Array Value} {meth : Method} {c : Code} {H : Heap} {locs : List Loc} {cells : Nat} (C : ab_C G M d p R s m args meth c) (I : ab_I G w s H locs) (hsz : H.size = g_B G + w.2.1) (av : List Value) : PreS s H (va_Pc (av.map (ab_v G)) (ab_P G w)) (av.map (ab_v G)) :=
  ⟨ab_blind, fun U hU hW => ⟨rfl, C.kk.moved hW (by rw [hU]; exact I.2.2), by rw [hU]; exact hsz, I.1, by rw [hU]; exact I.2.1⟩⟩
theorem ab_size {p : Program} {e : Env} {R : Room} {s : State} {m : MethodId} {args : Array Value} {below : List Frame} {meth : Method} {c : Code} {H : Heap} {locs : List Loc} {cells slots : Nat} {T : State} (hT : T.heap = H) (X : Stand p (g_l G) e R s m args below meth c T locs cells slots) (C : ab_C G M d p R s m args meth c) (I : ab_I G w s H locs) (hz : s.heap.size + cells = g_B G + w.2.1) : H.size = g_B G + w.2.1 := by
  have h1 := X.heapSize
  rw [hT] at h1
  have h2 := I.2.2.1
  have h3 := C.kk.2.2.2.2.1
  have h4 := I.1.1
  by_cases h5 : s.heap.size = g_B G + w.2.1
  · omega
  · have h6 : 1 < w.2.1 := by omega
    obtain ⟨x, hx⟩ := Option.isSome_iff_exists.mp ((I.1.2 (w.2.1 - 1)).mpr ⟨by omega, by omega⟩)
    have h7 := (I.2.1 _ _ (ab_w_get G hx (by omega) (by omega))).lt
    rw [ab_ad_pos G (by omega)] at h7
    omega
/-- a caller goes on behind a call -/
theorem ab_on {r1 : Option Value} {w1 w2 : ab_W} {r : Option Value} (hn1 : w.2.1 ≤ w1.2.1) (hn2 : w.2.2 ≤ w1.2.2)
    (run : ∀ (p : Program) (e : Env) (R : Room) (s : State) (m : MethodId) (args : Array Value) (below : List Frame) (meth : Method) (c : Code) (H : Heap) (locs : List Loc) (cells slots : Nat) (ls : Array Slot), ab_C G M d p R s m args meth c → ab_I G w s H locs → H.size = g_B G + w.2.1 → cells + (w1.2.1 - w.2.1) ≤ R.cells → slots + (w1.2.2 - w.2.2) ≤ R.slots → ab_L G M lv ls → ∃ as : Array Value, va_Run p (g_l G) e R s m args below meth c H locs cells slots (w1.2.1 - w.2.1) (w1.2.2 - w.2.2) (F0 m pc ls (stk.map (ab_v G))) (st.map (ab_v G)) (ab_Q G r1 w1 as) (ab_A G))
    (kk : ab_R G M d (pc + 3) lv (r1.toList ++ st) w1 r w2) : ab_R G M d pc lv stk w r w2 := by
  obtain ⟨b1, b2, b3⟩ := kk
  refine ⟨Nat.le_trans hn1 b1, Nat.le_trans hn2 b2, fun p e R s m args below meth c H locs cells slots ls Q C I hz hc hs hl hret T hT X => ?_⟩
  obtain ⟨as, hrun⟩ := run p e R s m args below meth c H locs cells slots ls C I (ab_size hT X C I hz) (by omega) (by omega) hl
  obtain ⟨v, st₀, t, T2, L, h0, X2, hL, e1, e2, ⟨hv, hdom, hP, hF1, hF2⟩, go⟩ := hrun T hT X
  have hv : v = r1.map (ab_v G) := Outcome.returned.inj hv
  subst hv
  rw [h0] at hF1 hF2
  have I2 : ab_I G w1 s T2.heap (locs ++ L) := by
    refine ⟨hdom, by rw [e1]; exact hP, by rw [e1]; exact Nat.le_trans I.2.2.1 hF1, fun q h1 h2 => ?_, fun q hq => ?_⟩
    · rw [e1, hF2 q (Nat.lt_of_lt_of_le h1 I.2.2.1) h2]
      exact I.2.2.2.1 q h1 h2
    · rcases List.mem_append.mp hq with h | h
      · exact I.2.2.2.2 q h
      · exact hL q h
  have e3 : cells + (w1.2.1 - w.2.1) + (w2.2.1 - w1.2.1) = cells + (w2.2.1 - w.2.1) := by omega
  have e4 : slots + (w1.2.2 - w.2.2) + (w2.2.2 - w1.2.2) = slots + (w2.2.2 - w.2.2) := by omega
  obtain ⟨t2, a1, a2⟩ := b3 p e R s m args below meth c T2.heap (locs ++ L) (cells + (w1.2.1 - w.2.1)) (slots + (w1.2.2 - w.2.2)) ls Q C I2 (by omega) (by omega) (by omega) hl (fun H3 locs3 pc3 ls3 I3 t3 => by
    rw [e3, e4]
    exact hret H3 locs3 pc3 ls3 I3 t3) T2 rfl X2
  rw [← ab_toList] at a1
  exact ⟨t2, go t2 a1, a2⟩
theorem ab_cb {p : Program} {R : Room} {s : State} {m : MethodId} {args : Array Value} {meth : Method} {c : Code} {n mc ms : Nat} (C : ab_C G M d p R s m args meth c) (hk : ab_kB M.1.cls idx M1 n) (hd1 : d1.1 + 1 ≤ d.1 ∧ 8 + (M1.2.2.1 + 11) + d1.2 ≤ d.2) : CallB R s args M.1.cls idx M1.1 M1.2.1 M1.2.2.1 M1.2.2.2 (ab_ws M1) (ab_room d1 mc ms) mc ms n :=
  callB_of n C.wd (ab_good hk.2.1) rfl rfl rfl (C.wd _ hk.2.2.2.1) (C.wd _ hk.2.2.1) hk.2.2.2.2 ⟨Nat.le_trans hd1.1 C.fr.1, Nat.le_trans hd1.2 C.fr.2⟩
theorem e_callS (hd : decode M.2.1 pc = .ok (.invokestatic idx, 3)) (hk : ab_kS M.1.cls idx M1 As.length) (hd1 : d1.1 + 1 ≤ d.1 ∧ 8 + (M1.2.2.1 + 11) + d1.2 ≤ d.2) (hstk : stk = As.reverse ++ st) (hst : (st.map fun v => v.category).sum ≤ 8) (hlen : As.length ≤ M1.2.2.1) (hcat : ∀ v ∈ As, v.category = 1) (hlv : lv_args 0 As = lv1) (hs : ab_E G M1 d1 0 lv1 [] w P1) (kk : ∀ r1 w1, P1 r1 w1 → ab_E G M d (pc + 3) lv (r1.toList ++ st) w1 P) : ab_E G M d pc lv stk w P := by
  obtain ⟨r1, w1, hR, hrt, hP1⟩ := hs
  obtain ⟨r, w2, hR2, hrt2, hP2⟩ := kk r1 w1 hP1
  refine ⟨r, w2, ab_on hR.1 hR.2.1 (fun p e R s m args below meth c H locs cells slots ls C I hsz hc hs hl => ⟨(As.map (ab_v G)).toArray, ?_⟩) hR2, hrt2, hP2⟩
  exact va_runS (As := As.map (ab_v G)) (n := As.length) (rest := st.map (ab_v G)) ⟨C.1, C.2.1, C.2.2.2.1, C.own, C.wd⟩ (ab_met hk.1.1 hlen hcat hlv hR hrt) ⟨ab_cb C hk.1 hd1, C.wd _ hk.2⟩ (ab_pre (cells := cells) C I hsz As) rfl (by simp) hl.1.1 (by show stk.map (ab_v G) = _; rw [hstk, List.map_append, List.map_reverse]) (by show 2 * 0 + _ ≤ 8; rw [ab_cats]; omega) hd ⟨hc, hs⟩
theorem e_callI {a : Nat} (hd : decode M.2.1 pc = .ok (.invokespecial idx, 3)) (hk : ab_kI M.1.cls idx M1 As.length) (hret : M1.2.2.2 = none) (hd1 : d1.1 + 1 ≤ d.1 ∧ 8 + (M1.2.2.1 + 11) + d1.2 ≤ d.2) (hstk : stk = As.reverse ++ .ref a :: st) (hst : (st.map fun v => v.category).sum ≤ 8) (hlen : As.length + 1 ≤ M1.2.2.1) (hcat : ∀ v ∈ As, v.category = 1) (hlv : lv_args 0 (.ref a :: As) = lv1) (hs : ab_E G M1 d1 0 lv1 [] w P1) (kk : ∀ r1 w1, P1 r1 w1 → ab_E G M d (pc + 3) lv (r1.toList ++ st) w1 P) : ab_E G M d pc lv stk w P := by
  obtain ⟨r1, w1, hR, hrt, hP1⟩ := hs
  obtain ⟨r, w2, hR2, hrt2, hP2⟩ := kk r1 w1 hP1
  refine ⟨r, w2, ab_on hR.1 hR.2.1 (fun p e R s m args below meth c H locs cells slots ls C I hsz hc hs hl => ⟨(Value.ref (ab_ad G a) :: As.map (ab_v G)).toArray, ?_⟩) hR2, hrt2, hP2⟩
  have hcb := ab_cb (mc := w1.2.1 - w.2.1) (ms := w1.2.2 - w.2.2) C hk.1 hd1
  rw [hret] at hcb
  exact va_runI (b := ab_ad G a) (As := As.map (ab_v G)) (n := As.length) (rest := st.map (ab_v G)) ⟨C.1, C.2.1, C.2.2.2.1, C.own, C.wd⟩ (ab_met (As := .ref a :: As) hk.1.1 (by simpa using hlen) (fun v hv => by
    rcases List.mem_cons.mp hv with rfl | h
    · rfl
    · exact hcat v h) hlv hR hrt) ⟨hcb, hk.2.1, C.wd _ hk.2.2⟩ (ab_pre (cells := cells) C I hsz (.ref a :: As)) rfl (by simp) hl.1.1 (by show stk.map (ab_v G) = _; rw [hstk, List.map_append, List.map_reverse]; rfl) (by show 2 * 0 + _ ≤ 8; rw [ab_cats]; omega) hd ⟨hc, hs⟩
theorem e_callV {a ci : Nat} {fs : List Value} (hd : decode M.2.1 pc = .ok (.invokevirtual idx, 3)) (hk : ab_kV M.1.cls idx M1 As.length) (ha : w.1 a = some (.inr (ci, fs))) (hci : (vwCl[ci]?).map (fun q => q.1) = some M1.1.cls) (hd1 : d1.1 + 1 ≤ d.1 ∧ 8 + (M1.2.2.1 + 11) + d1.2 ≤ d.2) (hstk : stk = As.reverse ++ .ref a :: st) (hst : (st.map fun v => v.category).sum ≤ 8) (hlen : As.length + 1 ≤ M1.2.2.1) (hcat : ∀ v ∈ As, v.category = 1) (hlv : lv_args 0 (.ref a :: As) = lv1) (hs : ab_E G M1 d1 0 lv1 [] w P1) (kk : ∀ r1 w1, P1 r1 w1 → ab_E G M d (pc + 3) lv (r1.toList ++ st) w1 P) : ab_E G M d pc lv stk w P := by
  obtain ⟨r1, w1, hR, hrt, hP1⟩ := hs
  obtain ⟨r, w2, hR2, hrt2, hP2⟩ := kk r1 w1 hP1
  refine ⟨r, w2, ab_on hR.1 hR.2.1 (fun p e R s m args below meth c H locs cells slots ls C I hsz hc hs hl => ⟨(Value.ref (ab_ad G a) :: As.map (ab_v G)).toArray, ?_⟩) hR2, hrt2, hP2⟩
  obtain ⟨p1, p2⟩ := I.1.pos ha
  obtain ⟨q, hq1, hq2⟩ := Option.map_eq_some_iff.mp hci
  have hrec := va_recv C.kk.1 I.2.1 hq1 (ab_w_get G ha p1 p2)
  rw [hq2] at hrec
  have hpre := ab_pre (cells := cells) C I hsz (.ref a :: As)
  exact va_runV (b := ab_ad G a) (C := M1.1.cls) (As := As.map (ab_v G)) (n := As.length) (rest := st.map (ab_v G)) ⟨C.1, C.2.1, C.2.2.2.1, C.own, C.wd⟩ (ab_met (As := .ref a :: As) hk.1.1 (by simpa using hlen) (fun v hv => by
    rcases List.mem_cons.mp hv with rfl | h
    · rfl
    · exact hcat v h) hlv hR hrt) ⟨ab_cb C hk.1 hd1, C.wd _ hk.2.1, C.wd _ hk.2.2⟩ ⟨hpre.1, hrec, hpre.2⟩ rfl (by simp) hl.1.1 (by show stk.map (ab_v G) = _; rw [hstk, List.map_append, List.map_reverse]; rfl) (by show 2 * 0 + _ ≤ 8; rw [ab_cats]; omega) hd ⟨hc, hs⟩
theorem e_callN {host : String} (hd : decode M.2.1 pc = .ok (.invokestatic idx, 3)) (hk : ab_kN M.1.cls idx M1 As.length host) (hd1 : d1.1 + 1 ≤ d.1 ∧ 8 + (M1.2.2.1 + 11) + d1.2 ≤ d.2) (hstk : stk = As.reverse ++ st) (hst : (st.map fun v => v.category).sum ≤ 8) (hlen : As.length ≤ M1.2.2.1) (hcat : ∀ v ∈ As, v.category = 1) (hlv : lv_args 0 As = lv1) (hs : ab_E G M1 d1 0 lv1 [] w P1) (kk : ∀ r1 w1, P1 r1 w1 → ab_E G M d (pc + 3) lv (r1.toList ++ st) w1 P) : ab_E G M d pc lv stk w P := by
  obtain ⟨r1, w1, hR, hrt, hP1⟩ := hs
  obtain ⟨r, w2, hR2, hrt2, hP2⟩ := kk r1 w1 hP1
  refine ⟨r, w2, ab_on hR.1 hR.2.1 (fun p e R s m args below meth c H locs cells slots ls C I hsz hc hs hl => ⟨(As.map (ab_v G)).toArray, ?_⟩) hR2, hrt2, hP2⟩
  exact va_runSN (As := As.map (ab_v G)) (n := As.length) (rest := st.map (ab_v G)) (host := host) ⟨C.1, C.2.1, C.2.2.2.1, C.own, C.wd⟩ (ab_met hk.1 hlen hcat hlv hR hrt) ⟨va_cnB As.length C.wd (ab_good hk.2.1) rfl rfl rfl (C.kk.2.2.2.2.2.1 _ hk.2.2.1) (C.wd _ hk.2.2.2.1) hk.2.2.2.2.1 ⟨Nat.le_trans hd1.1 C.fr.1, Nat.le_trans hd1.2 C.fr.2⟩, C.wd _ hk.2.2.2.2.2, trivial⟩ (ab_pre (cells := cells) C I hsz As) rfl (by simp) hl.1.1 (by show stk.map (ab_v G) = _; rw [hstk, List.map_append, List.map_reverse]) (by show 2 * 0 + _ ≤ 8; rw [ab_cats]; omega) hd ⟨hc, hs⟩
end AB
