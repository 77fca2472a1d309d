/-! ArchiveBench$Archive: squeezed bytes and zeros, entries, the tail. -/
abbrev FO : Type := List Nat × Nat × Nat × Nat × Nat × Nat
def rEn (im : List Nat) (li d c : Nat) : Rd FO := match rMN im li c with
  | .inl e => .inl e
  | .inr q => match rNum im li (c + 2 + q.2.length) with
    | .inl e => .inl e
    | .inr at_ => match rB im li (c + 4 + q.2.length) with
      | .inl e => .inl e
      | .inr sl => if at_ < 1 ∨ d < at_ + sl then .inl (-4, c + 2 + q.2.length) else match rLC im li (c + 5 + q.2.length) with
        | .inl e => .inl e
        | .inr p => .inr (q.2, q.1, at_, sl, p.1, p.2)
def nm2 (im : List Nat) (c : Nat) : Nat := im.getD c 0 * 256 + im.getD (c + 1) 0
def tTl (im : List Nat) (t : Nat) : Rd Nat := if im.getD t 0 ≠ 88 then .inl (-4, t) else if 6 < im.getD (t + 1) 0 then .inl (-4, t + 1) else if nm2 im (t + 2) < 1 ∨ t < nm2 im (t + 2) then .inl (-4, t + 2) else if crc ((im.drop (nm2 im (t + 2))).take (t - nm2 im (t + 2))) ≠ nm2 im (t + 4) then .inl (-4, t + 4) else .inr 0
theorem pS_F {im : List Nat} {li c sl : Nat} {e : Int32 × Nat} (h : pS im li c sl = .inl e) : e.1 < 0 := by
  unfold pS at h
  split at h
  · cases h; exact neg3
  · split at h
    · cases h; exact neg4
    · cases h
theorem pS_S {im : List Nat} {li c sl b : Nat} (h : pS im li c sl = .inr b) : b = nx4 (c + sl) ∧ b ≤ li ∧ c + sl ≤ b := by
  unfold pS at h
  split at h
  · cases h
  · split at h
    · cases h
    · cases h
      exact ⟨rfl, by omega, by unfold nx4; omega⟩
theorem rEn_F {im : List Nat} {li d c : Nat} {e : Int32 × Nat} (h : rEn im li d c = .inl e) : e.1 < 0 := by
  unfold rEn at h
  split at h
  · rename_i e1 h1; cases h; exact rMN_F h1
  · split at h
    · rename_i e1 h1; cases h; exact rNum_F h1
    · split at h
      · rename_i e1 h1; cases h; exact rB_Fl h1
      · split at h
        · cases h; exact neg4
        · split at h
          · rename_i e1 h1; cases h; exact rLC_F h1
          · cases h
def foOK (len : Nat) (q : FO) : Prop := 1 ≤ q.1.length ∧ q.1.length ≤ 8 ∧ (∀ x ∈ q.1, nch x = true) ∧ q.2.1 ≤ 2 ∧ q.2.2.1 + q.2.2.2.1 ≤ len ∧ q.2.2.2.2.1 ≤ 60 ∧ q.2.2.2.2.2 < 65536 ∧ q.2.2.2.1 < 256
theorem rEn_S {im : List Nat} {li d c : Nat} {q : FO} (hby : ∀ x ∈ im, x < 256) (hli : li ≤ im.length) (hd : d ≤ im.length) (h : rEn im li d c = .inr q) : foOK im.length q ∧ c + 8 + q.1.length ≤ li := by
  unfold rEn at h
  split at h
  · cases h
  · rename_i q1 h1
    split at h
    · cases h
    · rename_i at_ h2
      split at h
      · cases h
      · rename_i sl h3
        split at h
        · cases h
        · rename_i h4
          split at h
          · cases h
          · rename_i p h5
            cases h
            obtain ⟨a1, a2, a3, a4, a5, -, -⟩ := rMN_S h1
            obtain ⟨b1, b2, b3⟩ := rNum_S hby hli h2
            obtain ⟨c1, c2⟩ := rB_S h3
            obtain ⟨d1, d2, d3, -, -⟩ := rLC_S hby hli h5
            have g := getD_lt hby (j := c + 4 + q1.2.length) (by omega)
            exact ⟨⟨a2, a3, a4, a1, by dsimp only; omega, d2, d3, by dsimp only; omega⟩, by dsimp only; omega⟩
section AR
variable {G : ab_G} {w : ab_W} {o cu li i : Nat} {en : Int32} {im : List Nat}
set_option maxRecDepth 100000 in
set_option maxHeartbeats 4000000 in
theorem l_Ar_zeros (h40 : aO w o en cu li) (him : cR w 41 42 600 im) {e x : Nat} (hx : x ≤ im.length) {m a s n k : Int32} {nm : List Nat} (hf : fO w i m a s n k) (hn : nmR w i nm) : ∀ r j, j + r = x → ab_E G mm_Ar_passSqueezed rr_Ar_passSqueezed 47 [(0, .ref 40), (1, .ref (44 + 3 * i)), (2, .int (nI e)), (3, .int (nI x)), (4, .int (nI j))] [] w (rdP (match zF im r j with
    | some y => (.inl (-4, y) : Rd Nat)
    | none => .inr x) (fun _ => 0) (fun pl w2 => rX w w2 i ∧ aF w2 pl ∧ fE w2 i) (fun y w2 => rX w w2 i ∧ aO w2 o en y li ∧ fO w2 i m a s n k ∧ nmR w2 i nm)) := by
  have hlt := him.lt
  have hby := him.2.2.2.2.1
  have h40o : w.1 40 = _ := h40
  have hr := him.obj
  intro r
  induction r with
  | zero =>
    intro j hj
    unfold zF
    dsimp only
    refine e_iload dd_Ar_passSqueezed_47 rfl ?_
    refine e_iload_n dd_Ar_passSqueezed_49 rfl ?_
    refine e_icmp_ge_n (tgt := 80) dd_Ar_passSqueezed_50 (by decide) (by omega) (by omega) (fun _ => ?_) (fun h9 => absurd h9 (by omega))
    refine e_aload_n dd_Ar_passSqueezed_80 rfl ?_
    refine e_iload_n dd_Ar_passSqueezed_81 rfl ?_
    refine e_putx (fs1 := [.ref 41, .ref 43, .int (nI o), .int en, .int (nI x), .int (nI li)]) dd_Ar_passSqueezed_82 kf_Ar_41 h40o (Nat.le_of_ble_eq_true rfl) rfl rfl rfl (fun w21 h22n h22v h22f => ?_)
    refine e_iconst_n 0 dd_Ar_passSqueezed_85 (by decide) ?_
    exact e_iret dd_Ar_passSqueezed_86 rfl ⟨rfl, ⟨h22n, fun z h8 h9 => h22f z h8⟩, h22v, (h22f _ (by omega)).trans hf, cR.keep hn (h22f _ (by omega)) (h22f _ (by omega))⟩
  | succ r ih =>
    intro j hj
    have g1 := getD_lt hby (j := j) (by omega)
    unfold zF
    refine e_iload dd_Ar_passSqueezed_47 rfl ?_
    refine e_iload_n dd_Ar_passSqueezed_49 rfl ?_
    refine e_icmp_ge_n (tgt := 80) dd_Ar_passSqueezed_50 (by decide) (by omega) (by omega) (fun h9 => absurd h9 (by omega)) (fun _ => ?_)
    refine e_aload_n dd_Ar_passSqueezed_53 rfl ?_
    refine e_get dd_Ar_passSqueezed_54 kf_Ar_14 h40o rfl ?_
    refine e_iload dd_Ar_passSqueezed_57 rfl ?_
    refine e_callVp (d1 := rr_Row_at) (As := [.int (nI j)]) (st := []) dd_Ar_passSqueezed_59 km_Ar_94 hr rfl (by decide) rfl (Nat.le_of_ble_eq_true rfl) (Nat.le_of_ble_eq_true rfl) rfl rfl (c_Row_ati him (by omega)) ?_
    refine e_if_eq_n (tgt := 74) dd_Ar_passSqueezed_62 (by decide) (by omega) (fun c62 => ?_) (fun c62 => ?_)
    · refine e_iinc_n (a := j) (k := 1) (lv1 := [(0, .ref 40), (1, .ref (44 + 3 * i)), (2, .int (nI e)), (3, .int (nI x)), (4, .int (nI (j + 1)))]) dd_Ar_passSqueezed_74 rfl (by decide) (by decide) rfl ?_
      refine e_goto (tgt := 47) dd_Ar_passSqueezed_77 (by decide) ?_
      rw [if_pos c62]
      exact ih (j + 1) (by omega)
    · refine e_aload_n dd_Ar_passSqueezed_65 rfl ?_
      refine e_bipush (v := -4) dd_Ar_passSqueezed_66 (by decide) ?_
      refine e_iload dd_Ar_passSqueezed_68 rfl ?_
      refine e_callVi (d1 := rr_Ar_stop) (As := [.int (-4), .int (nI j)]) (st := []) dd_Ar_passSqueezed_70 km_Ar_58 h40o rfl (by decide) rfl (Nat.le_of_ble_eq_true rfl) (Nat.le_of_ble_eq_true rfl) rfl rfl (c_Ar_stopF h40 (-4)) (fun w2 k2 => ?_)
      rw [if_neg (by omega)]
      dsimp only
      exact e_iret dd_Ar_passSqueezed_73 rfl (rdF_of ⟨k2.1.X i, k2.2, ⟨_, _, _, _, _, hf.S k2.1⟩, nm, hn.S k2.1⟩)
set_option maxRecDepth 100000 in
set_option maxHeartbeats 4000000 in
theorem c_Ar_passSqueezed (h40 : aO w o en cu li) (him : cR w 41 42 600 im) (hli : li ≤ im.length) (hcu : cu ≤ li) {sl : Nat} (hsl : sl < 256) {m a n k : Int32} {nm : List Nat} (hf : fO w i m a (nI sl) n k) (hn : nmR w i nm) : ab_E G mm_Ar_passSqueezed rr_Ar_passSqueezed 0 [(0, .ref 40), (1, .ref (44 + 3 * i))] [] w (rdP (pS im li cu sl) (fun _ => 0) (fun pl w2 => rX w w2 i ∧ aF w2 pl ∧ fE w2 i) (fun x w2 => rX w w2 i ∧ aO w2 o en x li ∧ fO w2 i m (nI cu) (nI sl) n k ∧ nmR w2 i nm)) := by
  have hlt := him.lt
  have h600 := him.2.1
  have h40o : w.1 40 = _ := h40
  have hfo : w.1 (44 + 3 * i) = _ := hf
  refine e_aload_n dd_Ar_passSqueezed_0 rfl ?_
  refine e_aload_n dd_Ar_passSqueezed_1 rfl ?_
  refine e_get dd_Ar_passSqueezed_2 kf_Ar_41 h40o rfl ?_
  refine e_putx (fs1 := [.ref (45 + 3 * i), .int m, .int (nI cu), .int (nI sl), .int n, .int k]) dd_Ar_passSqueezed_5 kf_Ar_85 hfo (Nat.le_of_ble_eq_true rfl) rfl rfl rfl (fun w21 h22n h22v h22f => ?_)
  refine e_aload_n dd_Ar_passSqueezed_8 rfl ?_
  refine e_get dd_Ar_passSqueezed_9 kf_Ar_41 ((h22f _ (by omega)).trans h40o) rfl ?_
  refine e_aload_n dd_Ar_passSqueezed_12 rfl ?_
  refine e_get dd_Ar_passSqueezed_13 kf_Ar_73 h22v rfl ?_
  refine e_iadd_n dd_Ar_passSqueezed_16 ?_
  refine e_istore_n (lv1 := [(0, .ref 40), (1, .ref (44 + 3 * i)), (2, .int (nI (cu + sl)))]) dd_Ar_passSqueezed_17 (by decide) rfl ?_
  refine e_iload_n dd_Ar_passSqueezed_18 rfl ?_
  refine e_iload_n dd_Ar_passSqueezed_19 rfl ?_
  refine e_callSp (d1 := rr_Pk_zerosBehind) (As := [.int (nI (cu + sl))]) (st := [.int (nI (cu + sl))]) dd_Ar_passSqueezed_20 km_Ar_88 (by decide) rfl (Nat.le_of_ble_eq_true rfl) (Nat.le_of_ble_eq_true rfl) rfl rfl (c_Pk_zerosBehind (by omega)) ?_
  have hX1 : rX w w21 i := fO.set h22n h22f
  have h41 := h40.put h22f
  have hf1 : fO w21 i m (nI cu) (nI sl) n k := h22v
  have hn1 := hn.put h22f
  have him1 := imR.put him h22f
  unfold pS nx4
  refine e_iadd_n dd_Ar_passSqueezed_23 ?_
  refine e_istore_n (lv1 := [(0, .ref 40), (1, .ref (44 + 3 * i)), (2, .int (nI (cu + sl))), (3, .int (nI (cu + sl + ((4 - (cu + sl) % 4) % 4))))]) dd_Ar_passSqueezed_24 (by decide) rfl ?_
  refine e_iload_n dd_Ar_passSqueezed_25 rfl ?_
  refine e_aload_n dd_Ar_passSqueezed_26 rfl ?_
  refine e_get dd_Ar_passSqueezed_27 kf_Ar_44 ((h22f _ (by omega)).trans h40o) rfl ?_
  refine e_icmp_le_n (tgt := 44) dd_Ar_passSqueezed_30 (by decide) (by omega) (by omega) (fun c30 => ?_) (fun c30 => ?_)
  · rw [if_neg (by omega)]
    have L := l_Ar_zeros (G := G) h41 him1 (e := cu + sl) (x := cu + sl + (4 - (cu + sl) % 4) % 4) (by omega) hf1 hn1 (cu + sl + (4 - (cu + sl) % 4) % 4 - (cu + sl)) (cu + sl) (by omega)
    refine e_iload_n dd_Ar_passSqueezed_44 rfl ?_
    refine e_istore (lv1 := [(0, .ref 40), (1, .ref (44 + 3 * i)), (2, .int (nI (cu + sl))), (3, .int (nI (cu + sl + ((4 - (cu + sl) % 4) % 4)))), (4, .int (nI (cu + sl)))]) dd_Ar_passSqueezed_45 (by decide) rfl ?_
    refine L.mono (fun v w2 h9 => ?_)
    revert h9
    generalize zF im (cu + sl + (4 - (cu + sl) % 4) % 4 - (cu + sl)) (cu + sl) = z
    intro h9
    cases z with
    | some y => exact ⟨h9.1, hX1.tr h9.2.1, h9.2.2⟩
    | none => exact ⟨h9.1, hX1.tr h9.2.1, h9.2.2⟩
  · rw [if_pos c30]
    refine e_aload_n dd_Ar_passSqueezed_33 rfl ?_
    refine e_bipush (v := -3) dd_Ar_passSqueezed_34 (by decide) ?_
    refine e_aload_n dd_Ar_passSqueezed_36 rfl ?_
    refine e_get dd_Ar_passSqueezed_37 kf_Ar_44 ((h22f _ (by omega)).trans h40o) rfl ?_
    refine e_callVi (d1 := rr_Ar_stop) (As := [.int (-3), .int (nI li)]) (st := []) dd_Ar_passSqueezed_40 km_Ar_58 ((h22f _ (by omega)).trans h40o) rfl (by decide) rfl (Nat.le_of_ble_eq_true rfl) (Nat.le_of_ble_eq_true rfl) rfl rfl (c_Ar_stopF h41 (-3)) (fun w2 k2 => ?_)
    exact e_iret dd_Ar_passSqueezed_43 rfl (rdF_of ⟨hX1.tr (k2.1.X i), k2.2, ⟨_, _, _, _, _, hf1.S k2.1⟩, nm, hn1.S k2.1⟩)
set_option maxRecDepth 100000 in
set_option maxHeartbeats 4000000 in
theorem c_Ar_readEntry {d : Nat} (hi : i < 7) (h40 : aO w o en cu li) (him : cR w 41 42 600 im) (hli : li ≤ im.length) (hcu : cu ≤ li) (hd : d < 65536) {m a s n k : Int32} {nm0 : List Nat} (hf : fO w i m a s n k) (hn : nmR w i nm0) : ab_E G mm_Ar_readEntry rr_Ar_readEntry 0 [(0, .ref 40), (1, .ref (44 + 3 * i)), (2, .int (nI d))] [] w (rdP (rEn im li d cu) (fun q => q.2.2.2.2.2) (fun pl w2 => rX w w2 i ∧ aF w2 pl ∧ fE w2 i) (fun q w2 => rX w w2 i ∧ aO w2 o en (cu + 8 + q.1.length) li ∧ fO w2 i (nI q.2.1) (nI q.2.2.1) (nI q.2.2.2.1) (nI q.2.2.2.2.1) (nI q.2.2.2.2.2) ∧ nmR w2 i q.1)) := by
  have hlt := him.lt
  have h600 := him.2.1
  have hby := him.2.2.2.2.1
  have h40o : w.1 40 = _ := h40
  have k0 := c_Ar_readMethodAndName (G := G) hi h40 him hli (by omega) hf hn
  unfold rEn
  rcases h1 : rMN im li cu with e | q
  · rw [rdP_F h1] at k0
    have he := rMN_F h1
    refine e_aload_n dd_Ar_readEntry_0 rfl ?_
    refine e_aload_n dd_Ar_readEntry_1 rfl ?_
    refine e_callVi (d1 := rr_Ar_readMethodAndName) (As := [.ref (44 + 3 * i)]) (st := []) dd_Ar_readEntry_2 km_Ar_70 h40o rfl (by decide) rfl (Nat.le_of_ble_eq_true rfl) (Nat.le_of_ble_eq_true rfl) rfl rfl (k0) (fun w1 k1 => ?_)
    refine e_istore_n (lv1 := [(0, .ref 40), (1, .ref (44 + 3 * i)), (2, .int (nI d)), (3, .int e.1)]) dd_Ar_readEntry_5 (by decide) rfl ?_
    refine e_iload_n dd_Ar_readEntry_6 rfl ?_
    refine e_if_ge (tgt := 12) dd_Ar_readEntry_7 (by decide) (fun h9 => absurd h9 (Int32.not_le.mpr he)) (fun _ => ?_)
    refine e_iload_n dd_Ar_readEntry_10 rfl ?_
    exact e_iret dd_Ar_readEntry_11 rfl (rdF_of k1)
  · rw [rdP_S h1] at k0
    obtain ⟨a1, a2, a3, a4, a5, -, -⟩ := rMN_S h1
    refine e_aload_n dd_Ar_readEntry_0 rfl ?_
    refine e_aload_n dd_Ar_readEntry_1 rfl ?_
    refine e_callVi (d1 := rr_Ar_readMethodAndName) (As := [.ref (44 + 3 * i)]) (st := []) dd_Ar_readEntry_2 km_Ar_70 h40o rfl (by decide) rfl (Nat.le_of_ble_eq_true rfl) (Nat.le_of_ble_eq_true rfl) rfl rfl (k0) (fun w1 k1 => ?_)
    obtain ⟨m1, nm⟩ := q
    dsimp only at k1 a1 a2 a3 a4 a5 ⊢
    obtain ⟨x1, x2, x3, x4⟩ := k1
    have x4 : nmR w1 i nm := x4
    have h41 : w1.1 40 = _ := x2
    have him1 := imR.X him x1
    have k2 := c_Ar_readNumber (G := G) x2 him1 hli (by omega)
    refine e_istore_n (lv1 := [(0, .ref 40), (1, .ref (44 + 3 * i)), (2, .int (nI d)), (3, .int (nI nm.length))]) dd_Ar_readEntry_5 (by decide) rfl ?_
    refine e_iload_n dd_Ar_readEntry_6 rfl ?_
    refine e_if_ge_n (tgt := 12) dd_Ar_readEntry_7 (by decide) (by omega) ?_
    refine e_aload_n dd_Ar_readEntry_12 rfl ?_
    refine e_get dd_Ar_readEntry_13 kf_Ar_41 h41 rfl ?_
    refine e_istore (lv1 := [(0, .ref 40), (1, .ref (44 + 3 * i)), (2, .int (nI d)), (3, .int (nI nm.length)), (4, .int (nI (cu + 2 + nm.length)))]) dd_Ar_readEntry_16 (by decide) rfl ?_
    refine e_aload_n dd_Ar_readEntry_18 rfl ?_
    refine e_aload_n dd_Ar_readEntry_19 rfl ?_
    rcases h2 : rNum im li (cu + 2 + nm.length) with e | at_
    · rw [rdP_F h2] at k2
      have he := rNum_F h2
      refine e_callVi (d1 := rr_Ar_readNumber) (As := []) (st := [.ref (44 + 3 * i)]) dd_Ar_readEntry_20 km_Ar_109 h41 rfl (by decide) rfl (Nat.le_of_ble_eq_true rfl) (Nat.le_of_ble_eq_true rfl) rfl rfl (k2) (fun w2 k3 => ?_)
      have hfo : w2.1 (44 + 3 * i) = _ := x3.S k3.1
      refine e_putx (fs1 := [.ref (45 + 3 * i), .int (nI m1), .int e.1, .int s, .int n, .int k]) dd_Ar_readEntry_23 kf_Ar_85 hfo (Nat.le_of_ble_eq_true rfl) rfl rfl rfl (fun w21 h22n h22v h22f => ?_)
      refine e_aload_n dd_Ar_readEntry_26 rfl ?_
      refine e_get dd_Ar_readEntry_27 kf_Ar_85 h22v rfl ?_
      refine e_if_ge (tgt := 38) dd_Ar_readEntry_30 (by decide) (fun h9 => absurd h9 (Int32.not_le.mpr he)) (fun _ => ?_)
      refine e_aload_n dd_Ar_readEntry_33 rfl ?_
      refine e_get dd_Ar_readEntry_34 kf_Ar_85 h22v rfl ?_
      exact e_iret dd_Ar_readEntry_37 rfl (rdF_of ⟨(x1.tr (k3.1.X i)).tr (fO.set h22n h22f), k3.2.put h22f, ⟨_, _, _, _, _, h22v⟩, nm, (x4.S k3.1).put h22f⟩)
    · rw [rdP_S h2] at k2
      obtain ⟨b1, b2, b3⟩ := rNum_S hby hli h2
      refine e_callVi (d1 := rr_Ar_readNumber) (As := []) (st := [.ref (44 + 3 * i)]) dd_Ar_readEntry_20 km_Ar_109 h41 rfl (by decide) rfl (Nat.le_of_ble_eq_true rfl) (Nat.le_of_ble_eq_true rfl) rfl rfl (k2) (fun w2 k3 => ?_)
      have hfo : w2.1 (44 + 3 * i) = _ := x3.S k3.1
      have h42 : w2.1 40 = _ := k3.2
      refine e_putx (fs1 := [.ref (45 + 3 * i), .int (nI m1), .int (nI at_), .int s, .int n, .int k]) dd_Ar_readEntry_23 kf_Ar_85 hfo (Nat.le_of_ble_eq_true rfl) rfl rfl rfl (fun w23 h24n h24v h24f => ?_)
      have hX2 : rX w w23 i := (x1.tr (k3.1.X i)).tr (fO.set h24n h24f)
      have h43 : aO w23 o en (cu + 4 + nm.length) li := by
        have h9 := k3.2.put h24f
        rw [show cu + 2 + nm.length + 2 = cu + 4 + nm.length by omega] at h9
        exact h9
      have him2 := imR.put (him1.S40 k3.1 (by decide) (by decide)) h24f
      have hn2 := (x4.S k3.1).put h24f
      have k4 := c_Ar_readByte (G := G) h43 him2 hli (by omega)
      dsimp only
      refine e_aload_n dd_Ar_readEntry_26 rfl ?_
      refine e_get dd_Ar_readEntry_27 kf_Ar_85 h24v rfl ?_
      refine e_if_ge_n (tgt := 38) dd_Ar_readEntry_30 (by decide) (by omega) ?_
      refine e_aload_n dd_Ar_readEntry_38 rfl ?_
      refine e_aload_n dd_Ar_readEntry_39 rfl ?_
      rcases h3 : rB im li (cu + 4 + nm.length) with e | sl
      · rw [rdP_F h3] at k4
        have he := rB_Fl h3
        refine e_callVi (d1 := rr_Ar_readByte) (As := []) (st := [.ref (44 + 3 * i)]) dd_Ar_readEntry_40 km_Ar_54 ((h24f _ (by omega)).trans h42) rfl (by decide) rfl (Nat.le_of_ble_eq_true rfl) (Nat.le_of_ble_eq_true rfl) rfl rfl (k4) (fun w4 k5 => ?_)
        have hfo : w4.1 (44 + 3 * i) = _ := fO.S (show fO w23 i _ _ _ _ _ from h24v) k5.1
        refine e_putx (fs1 := [.ref (45 + 3 * i), .int (nI m1), .int (nI at_), .int e.1, .int n, .int k]) dd_Ar_readEntry_43 kf_Ar_73 hfo (Nat.le_of_ble_eq_true rfl) rfl rfl rfl (fun w25 h26n h26v h26f => ?_)
        refine e_aload_n dd_Ar_readEntry_46 rfl ?_
        refine e_get dd_Ar_readEntry_47 kf_Ar_73 h26v rfl ?_
        refine e_if_ge (tgt := 58) dd_Ar_readEntry_50 (by decide) (fun h9 => absurd h9 (Int32.not_le.mpr he)) (fun _ => ?_)
        refine e_aload_n dd_Ar_readEntry_53 rfl ?_
        refine e_get dd_Ar_readEntry_54 kf_Ar_73 h26v rfl ?_
        exact e_iret dd_Ar_readEntry_57 rfl (rdF_of ⟨(hX2.tr (k5.1.X i)).tr (fO.set h26n h26f), k5.2.put h26f, ⟨_, _, _, _, _, h26v⟩, nm, (hn2.S k5.1).put h26f⟩)
      · rw [rdP_S h3] at k4
        obtain ⟨c1, c2⟩ := rB_S h3
        have hsl : sl < 256 := by rw [c2]; exact getD_lt hby (by omega)
        refine e_callVi (d1 := rr_Ar_readByte) (As := []) (st := [.ref (44 + 3 * i)]) dd_Ar_readEntry_40 km_Ar_54 ((h24f _ (by omega)).trans h42) rfl (by decide) rfl (Nat.le_of_ble_eq_true rfl) (Nat.le_of_ble_eq_true rfl) rfl rfl (k4) (fun w4 k5 => ?_)
        have hfo : w4.1 (44 + 3 * i) = _ := fO.S (show fO w23 i _ _ _ _ _ from h24v) k5.1
        have h44 : w4.1 40 = _ := k5.2
        refine e_putx (fs1 := [.ref (45 + 3 * i), .int (nI m1), .int (nI at_), .int (nI sl), .int n, .int k]) dd_Ar_readEntry_43 kf_Ar_73 hfo (Nat.le_of_ble_eq_true rfl) rfl rfl rfl (fun w27 h28n h28v h28f => ?_)
        have hX3 : rX w w27 i := (hX2.tr (k5.1.X i)).tr (fO.set h28n h28f)
        have h45 : aO w27 o en (cu + 5 + nm.length) li := by
          have h9 := k5.2.put h28f
          rw [show cu + 4 + nm.length + 1 = cu + 5 + nm.length by omega] at h9
          exact h9
        have him3 := imR.put (him2.S40 k5.1 (by decide) (by decide)) h28f
        have hn3 := (hn2.S k5.1).put h28f
        have hf3 : fO w27 i (nI m1) (nI at_) (nI sl) n k := h28v
        dsimp only
        refine e_aload_n dd_Ar_readEntry_46 rfl ?_
        refine e_get dd_Ar_readEntry_47 kf_Ar_73 h28v rfl ?_
        refine e_if_ge_n (tgt := 58) dd_Ar_readEntry_50 (by decide) (by omega) ?_
        refine e_aload_n dd_Ar_readEntry_58 rfl ?_
        refine e_get dd_Ar_readEntry_59 kf_Ar_85 h28v rfl ?_
        refine e_iconst_n 1 dd_Ar_readEntry_62 (by decide) ?_
        refine e_icmp_lt_n (tgt := 79) dd_Ar_readEntry_63 (by decide) (by omega) (by omega) (fun c63 => ?_) (fun c63 => ?_)
        · rw [if_pos (Or.inl c63)]
          refine e_aload_n dd_Ar_readEntry_79 rfl ?_
          refine e_bipush (v := -4) dd_Ar_readEntry_80 (by decide) ?_
          refine e_iload dd_Ar_readEntry_82 rfl ?_
          refine e_callVi (d1 := rr_Ar_stop) (As := [.int (-4), .int (nI (cu + 2 + nm.length))]) (st := []) dd_Ar_readEntry_84 km_Ar_58 ((h28f _ (by omega)).trans h44) rfl (by decide) rfl (Nat.le_of_ble_eq_true rfl) (Nat.le_of_ble_eq_true rfl) rfl rfl (c_Ar_stopF h45 (-4)) (fun w6 k8 => ?_)
          exact e_iret dd_Ar_readEntry_87 rfl (rdF_of ⟨hX3.tr (k8.1.X i), k8.2, ⟨_, _, _, _, _, hf3.S k8.1⟩, nm, hn3.S k8.1⟩)
        · refine e_aload_n dd_Ar_readEntry_66 rfl ?_
          refine e_get dd_Ar_readEntry_67 kf_Ar_85 h28v rfl ?_
          refine e_aload_n dd_Ar_readEntry_70 rfl ?_
          refine e_get dd_Ar_readEntry_71 kf_Ar_73 h28v rfl ?_
          refine e_iadd_n dd_Ar_readEntry_74 ?_
          refine e_iload_n dd_Ar_readEntry_75 rfl ?_
          refine e_icmp_le_n (tgt := 88) dd_Ar_readEntry_76 (by decide) (by omega) (by omega) (fun c76 => ?_) (fun c76 => ?_)
          · rw [if_neg (by omega)]
            have k6 := c_Ar_readLengthAndCheck (G := G) h45 him3 hli (by omega) hf3 hn3
            refine e_aload_n dd_Ar_readEntry_88 rfl ?_
            refine e_aload_n dd_Ar_readEntry_89 rfl ?_
            rcases h5 : rLC im li (cu + 5 + nm.length) with e | pr
            · rw [rdP_F h5] at k6
              refine e_callVi (d1 := rr_Ar_readLengthAndCheck) (As := [.ref (44 + 3 * i)]) (st := []) dd_Ar_readEntry_90 km_Ar_76 ((h28f _ (by omega)).trans h44) rfl (by decide) rfl (Nat.le_of_ble_eq_true rfl) (Nat.le_of_ble_eq_true rfl) rfl rfl (k6) (fun w5 k7 => ?_)
              exact e_iret dd_Ar_readEntry_93 rfl (rdF_of ⟨hX3.tr k7.1, k7.2⟩)
            · rw [rdP_S h5] at k6
              refine e_callVi (d1 := rr_Ar_readLengthAndCheck) (As := [.ref (44 + 3 * i)]) (st := []) dd_Ar_readEntry_90 km_Ar_76 ((h28f _ (by omega)).trans h44) rfl (by decide) rfl (Nat.le_of_ble_eq_true rfl) (Nat.le_of_ble_eq_true rfl) rfl rfl (k6) (fun w5 k7 => ?_)
              have k9 := k7.2.1
              rw [show cu + 5 + nm.length + 3 = cu + 8 + nm.length by omega] at k9
              exact e_iret dd_Ar_readEntry_93 rfl ⟨rfl, hX3.tr k7.1, k9, k7.2.2⟩
          · rw [if_pos (Or.inr c76)]
            refine e_aload_n dd_Ar_readEntry_79 rfl ?_
            refine e_bipush (v := -4) dd_Ar_readEntry_80 (by decide) ?_
            refine e_iload dd_Ar_readEntry_82 rfl ?_
            refine e_callVi (d1 := rr_Ar_stop) (As := [.int (-4), .int (nI (cu + 2 + nm.length))]) (st := []) dd_Ar_readEntry_84 km_Ar_58 ((h28f _ (by omega)).trans h44) rfl (by decide) rfl (Nat.le_of_ble_eq_true rfl) (Nat.le_of_ble_eq_true rfl) rfl rfl (c_Ar_stopF h45 (-4)) (fun w6 k8 => ?_)
            exact e_iret dd_Ar_readEntry_87 rfl (rdF_of ⟨hX3.tr (k8.1.X i), k8.2, ⟨_, _, _, _, _, hf3.S k8.1⟩, nm, hn3.S k8.1⟩)
theorem sub6_lt {n : Nat} (h : n < 7) : nI n - nI 6 < nI 1 := by
  rw [Int32.lt_iff_toInt_lt, pk_sub_toInt (by omega) (by decide), nI_toInt (by decide)]
  omega
set_option maxRecDepth 100000 in
set_option maxHeartbeats 4000000 in
theorem c_Ar_testTail_short (h40 : aO w o en cu li) (him : cR w 41 42 600 im) (hs : im.length < 7) : ab_E G mm_Ar_testTail rr_Ar_testTail 0 [(0, .ref 40), (1, .int (nI im.length - nI 6))] [] w (pI (-3) fun w2 => rS w w2 40 40 ∧ aF w2 im.length) := by
  have h40o : w.1 40 = _ := h40
  have hr := him.obj
  refine e_iload_n dd_Ar_testTail_0 rfl ?_
  refine e_iconst_n 1 dd_Ar_testTail_1 (by decide) ?_
  refine e_icmp_ge (tgt := 19) dd_Ar_testTail_2 (by decide) (fun h9 => absurd h9 (Int32.not_le.mpr (sub6_lt hs))) (fun _ => ?_)
  refine e_aload_n dd_Ar_testTail_5 rfl ?_
  refine e_bipush (v := -3) dd_Ar_testTail_6 (by decide) ?_
  refine e_aload_n dd_Ar_testTail_8 rfl ?_
  refine e_get dd_Ar_testTail_9 kf_Ar_14 h40o rfl ?_
  refine e_get dd_Ar_testTail_12 kf_Ar_47 hr rfl ?_
  refine e_callVi (d1 := rr_Ar_stop) (As := [.int (-3), .int (nI im.length)]) (st := []) dd_Ar_testTail_15 km_Ar_58 h40o rfl (by decide) rfl (Nat.le_of_ble_eq_true rfl) (Nat.le_of_ble_eq_true rfl) rfl rfl (c_Ar_stopF h40 (-3)) (fun w1 k1 => ?_)
  exact e_iret dd_Ar_testTail_18 rfl (pI_of rfl k1)
set_option maxRecDepth 100000 in
set_option maxHeartbeats 4000000 in
theorem c_Ar_testTail {t : Nat} (h40 : aO w o en cu li) (him : cR w 41 42 600 im) (ht : t + 6 = im.length) (h1 : 1 ≤ t) : ab_E G mm_Ar_testTail rr_Ar_testTail 0 [(0, .ref 40), (1, .int (nI t))] [] w (rdP (tTl im t) id (fun pl w2 => rS w w2 40 40 ∧ aF w2 pl) (fun _ w2 => w2 = w)) := by
  have h600 := him.2.1
  have hby := him.2.2.2.2.1
  have h40o : w.1 40 = _ := h40
  have hr := him.obj
  have hlt := him.lt
  have g0 := getD_lt hby (j := t) (by omega)
  have g1 := getD_lt hby (j := t + 1) (by omega)
  have g2 := getD_lt hby (j := t + 2) (by omega)
  have g3 := getD_lt hby (j := t + 2 + 1) (by omega)
  have g4 := getD_lt hby (j := t + 4) (by omega)
  have g5 := getD_lt hby (j := t + 4 + 1) (by omega)
  have kn2 := c_Row_numberAt (G := G) him (j := t + 2) (by omega)
  have kn4 := c_Row_numberAt (G := G) him (j := t + 4) (by omega)
  rw [show im.getD (t + 2) 0 * 256 + im.getD (t + 2 + 1) 0 = nm2 im (t + 2) from rfl] at kn2
  rw [show im.getD (t + 4) 0 * 256 + im.getD (t + 4 + 1) 0 = nm2 im (t + 4) from rfl] at kn4
  have b2 : nm2 im (t + 2) < 65536 := by unfold nm2; omega
  have b4 : nm2 im (t + 4) < 65536 := by unfold nm2; omega
  unfold tTl
  refine e_iload_n dd_Ar_testTail_0 rfl ?_
  refine e_iconst_n 1 dd_Ar_testTail_1 (by decide) ?_
  refine e_icmp_ge_n (tgt := 19) dd_Ar_testTail_2 (by decide) (by omega) (by omega) (fun _ => ?_) (fun h9 => absurd h9 (by omega))
  refine e_aload_n dd_Ar_testTail_19 rfl ?_
  refine e_get dd_Ar_testTail_20 kf_Ar_14 h40o rfl ?_
  refine e_iload_n dd_Ar_testTail_23 rfl ?_
  refine e_callVp (d1 := rr_Row_at) (As := [.int (nI t)]) (st := []) dd_Ar_testTail_24 km_Ar_94 hr rfl (by decide) rfl (Nat.le_of_ble_eq_true rfl) (Nat.le_of_ble_eq_true rfl) rfl rfl (c_Row_ati him (by omega)) ?_
  refine e_bipush_n 88 dd_Ar_testTail_27 (by decide) ?_
  refine e_icmp_eq_n (tgt := 40) dd_Ar_testTail_29 (by decide) (by omega) (by omega) (fun c29 => ?_) (fun c29 => ?_)
  · rw [if_neg (fun h9 => h9 c29)]
    refine e_aload_n dd_Ar_testTail_40 rfl ?_
    refine e_get dd_Ar_testTail_41 kf_Ar_14 h40o rfl ?_
    refine e_iload_n dd_Ar_testTail_44 rfl ?_
    refine e_iconst_n 1 dd_Ar_testTail_45 (by decide) ?_
    refine e_iadd_n dd_Ar_testTail_46 ?_
    refine e_callVp (d1 := rr_Row_at) (As := [.int (nI (t + 1))]) (st := []) dd_Ar_testTail_47 km_Ar_94 hr rfl (by decide) rfl (Nat.le_of_ble_eq_true rfl) (Nat.le_of_ble_eq_true rfl) rfl rfl (c_Row_ati him (by omega)) ?_
    refine e_bipush_n 6 dd_Ar_testTail_50 (by decide) ?_
    refine e_icmp_le_n (tgt := 65) dd_Ar_testTail_52 (by decide) (by omega) (by omega) (fun c52 => ?_) (fun c52 => ?_)
    · rw [if_neg (by omega)]
      refine e_aload_n dd_Ar_testTail_65 rfl ?_
      refine e_get dd_Ar_testTail_66 kf_Ar_14 h40o rfl ?_
      refine e_iload_n dd_Ar_testTail_69 rfl ?_
      refine e_iconst_n 2 dd_Ar_testTail_70 (by decide) ?_
      refine e_iadd_n dd_Ar_testTail_71 ?_
      refine e_callVp (d1 := rr_Row_numberAt) (As := [.int (nI (t + 2))]) (st := []) dd_Ar_testTail_72 km_Ar_100 hr rfl (by decide) rfl (Nat.le_of_ble_eq_true rfl) (Nat.le_of_ble_eq_true rfl) rfl rfl (kn2) ?_
      generalize nm2 im (t + 2) = dd at b2 ⊢
      refine e_istore_n (lv1 := [(0, .ref 40), (1, .int (nI t)), (2, .int (nI dd))]) dd_Ar_testTail_75 (by decide) rfl ?_
      refine e_iload_n dd_Ar_testTail_76 rfl ?_
      refine e_iconst_n 1 dd_Ar_testTail_77 (by decide) ?_
      refine e_icmp_lt_n (tgt := 86) dd_Ar_testTail_78 (by decide) (by omega) (by omega) (fun c78 => ?_) (fun c78 => ?_)
      · rw [if_pos (Or.inl c78)]
        refine e_aload_n dd_Ar_testTail_86 rfl ?_
        refine e_bipush (v := -4) dd_Ar_testTail_87 (by decide) ?_
        refine e_iload_n dd_Ar_testTail_89 rfl ?_
        refine e_iconst_n 2 dd_Ar_testTail_90 (by decide) ?_
        refine e_iadd_n dd_Ar_testTail_91 ?_
        refine e_callVi (d1 := rr_Ar_stop) (As := [.int (-4), .int (nI (t + 2))]) (st := []) dd_Ar_testTail_92 km_Ar_58 h40o rfl (by decide) rfl (Nat.le_of_ble_eq_true rfl) (Nat.le_of_ble_eq_true rfl) rfl rfl (c_Ar_stopF h40 (-4)) (fun w1 k1 => ?_)
        exact e_iret dd_Ar_testTail_95 rfl (rdF_of k1)
      · refine e_iload_n dd_Ar_testTail_81 rfl ?_
        refine e_iload_n dd_Ar_testTail_82 rfl ?_
        refine e_icmp_le_n (tgt := 96) dd_Ar_testTail_83 (by decide) (by omega) (by omega) (fun c83 => ?_) (fun c83 => ?_)
        · rw [if_neg (by omega)]
          have kc := c_Row_check (G := G) him (b := dd) (e := t) (by omega) (by omega)
          have bc := crc_lt ((im.drop dd).take (t - dd))
          refine e_aload_n dd_Ar_testTail_96 rfl ?_
          refine e_get dd_Ar_testTail_97 kf_Ar_14 h40o rfl ?_
          refine e_iload_n dd_Ar_testTail_100 rfl ?_
          refine e_iload_n dd_Ar_testTail_101 rfl ?_
          refine e_callVp (d1 := rr_Row_check) (As := [.int (nI dd), .int (nI t)]) (st := []) dd_Ar_testTail_102 km_Ar_106 hr rfl (by decide) rfl (Nat.le_of_ble_eq_true rfl) (Nat.le_of_ble_eq_true rfl) rfl rfl (kc) ?_
          refine e_aload_n dd_Ar_testTail_105 rfl ?_
          refine e_get dd_Ar_testTail_106 kf_Ar_14 h40o rfl ?_
          refine e_iload_n dd_Ar_testTail_109 rfl ?_
          refine e_iconst_n 4 dd_Ar_testTail_110 (by decide) ?_
          refine e_iadd_n dd_Ar_testTail_111 ?_
          refine e_callVp (d1 := rr_Row_numberAt) (As := [.int (nI (t + 4))]) (st := [.int (nI (crc ((im.drop dd).take (t - dd))))]) dd_Ar_testTail_112 km_Ar_100 hr rfl (by decide) rfl (Nat.le_of_ble_eq_true rfl) (Nat.le_of_ble_eq_true rfl) rfl rfl (kn4) ?_
          refine e_icmp_eq_n (tgt := 128) dd_Ar_testTail_115 (by decide) (by omega) (by omega) (fun c115 => ?_) (fun c115 => ?_)
          · rw [if_neg (fun h9 => h9 c115)]
            refine e_iconst_n 0 dd_Ar_testTail_128 (by decide) ?_
            exact e_iret dd_Ar_testTail_129 rfl (rdS_of rfl)
          · rw [if_pos c115]
            refine e_aload_n dd_Ar_testTail_118 rfl ?_
            refine e_bipush (v := -4) dd_Ar_testTail_119 (by decide) ?_
            refine e_iload_n dd_Ar_testTail_121 rfl ?_
            refine e_iconst_n 4 dd_Ar_testTail_122 (by decide) ?_
            refine e_iadd_n dd_Ar_testTail_123 ?_
            refine e_callVi (d1 := rr_Ar_stop) (As := [.int (-4), .int (nI (t + 4))]) (st := []) dd_Ar_testTail_124 km_Ar_58 h40o rfl (by decide) rfl (Nat.le_of_ble_eq_true rfl) (Nat.le_of_ble_eq_true rfl) rfl rfl (c_Ar_stopF h40 (-4)) (fun w1 k1 => ?_)
            exact e_iret dd_Ar_testTail_127 rfl (rdF_of k1)
        · rw [if_pos (Or.inr c83)]
          refine e_aload_n dd_Ar_testTail_86 rfl ?_
          refine e_bipush (v := -4) dd_Ar_testTail_87 (by decide) ?_
          refine e_iload_n dd_Ar_testTail_89 rfl ?_
          refine e_iconst_n 2 dd_Ar_testTail_90 (by decide) ?_
          refine e_iadd_n dd_Ar_testTail_91 ?_
          refine e_callVi (d1 := rr_Ar_stop) (As := [.int (-4), .int (nI (t + 2))]) (st := []) dd_Ar_testTail_92 km_Ar_58 h40o rfl (by decide) rfl (Nat.le_of_ble_eq_true rfl) (Nat.le_of_ble_eq_true rfl) rfl rfl (c_Ar_stopF h40 (-4)) (fun w1 k1 => ?_)
          exact e_iret dd_Ar_testTail_95 rfl (rdF_of k1)
    · rw [if_pos c52]
      refine e_aload_n dd_Ar_testTail_55 rfl ?_
      refine e_bipush (v := -4) dd_Ar_testTail_56 (by decide) ?_
      refine e_iload_n dd_Ar_testTail_58 rfl ?_
      refine e_iconst_n 1 dd_Ar_testTail_59 (by decide) ?_
      refine e_iadd_n dd_Ar_testTail_60 ?_
      refine e_callVi (d1 := rr_Ar_stop) (As := [.int (-4), .int (nI (t + 1))]) (st := []) dd_Ar_testTail_61 km_Ar_58 h40o rfl (by decide) rfl (Nat.le_of_ble_eq_true rfl) (Nat.le_of_ble_eq_true rfl) rfl rfl (c_Ar_stopF h40 (-4)) (fun w1 k1 => ?_)
      exact e_iret dd_Ar_testTail_64 rfl (rdF_of k1)
  · rw [if_pos c29]
    refine e_aload_n dd_Ar_testTail_32 rfl ?_
    refine e_bipush (v := -4) dd_Ar_testTail_33 (by decide) ?_
    refine e_iload_n dd_Ar_testTail_35 rfl ?_
    refine e_callVi (d1 := rr_Ar_stop) (As := [.int (-4), .int (nI t)]) (st := []) dd_Ar_testTail_36 km_Ar_58 h40o rfl (by decide) rfl (Nat.le_of_ble_eq_true rfl) (Nat.le_of_ble_eq_true rfl) rfl rfl (c_Ar_stopF h40 (-4)) (fun w1 k1 => ?_)
    exact e_iret dd_Ar_testTail_39 rfl (rdF_of k1)
end AR
