/-! ArchiveBench$Archive: a record's head, squeezed bytes and zeros, a directory's entry. -/
theorem fE.X {w w2 : ab_W} {i : Nat} (h : fE w i) (hS : rS w w2 40 40) : fE w2 i := by
  obtain ⟨⟨m, a, s, n, k, h1⟩, nm, h2⟩ := h
  exact ⟨⟨m, a, s, n, k, h1.S hS⟩, nm, h2.S40 hS (by omega) (by omega)⟩
/-- a file's cell is written, its name and the archive stay -/
theorem aF.put {w w2 : ab_W} {i pl : Nat} (h : aF w pl) (hf : ∀ j, j ≠ 44 + 3 * i → w2.1 j = w.1 j) : aF w2 pl := by
  obtain ⟨cu, li, h⟩ := h
  exact ⟨cu, li, (hf 40 (by omega)).trans h⟩
def nmR (w : ab_W) (i : Nat) (nm : List Nat) : Prop := cR w (45 + 3 * i) (46 + 3 * i) 8 nm
theorem nmR.S {w w2 : ab_W} {i : Nat} {nm : List Nat} (h : nmR w i nm) (hS : rS w w2 40 40) : nmR w2 i nm := cR.S40 h hS (by omega) (by omega)
theorem nmR.put {w w2 : ab_W} {i : Nat} {nm : List Nat} (h : nmR w i nm) (hf : ∀ j, j ≠ 44 + 3 * i → w2.1 j = w.1 j) : nmR w2 i nm := cR.keep h (hf _ (by omega)) (hf _ (by omega))
theorem imR.put {w w2 : ab_W} {i : Nat} {im : List Nat} (h : cR w 41 42 600 im) (hf : ∀ j, j ≠ 44 + 3 * i → w2.1 j = w.1 j) : cR w2 41 42 600 im := h.keep (hf _ (by omega)) (hf _ (by omega))
theorem imR.X {w w2 : ab_W} {i : Nat} {im : List Nat} (h : cR w 41 42 600 im) (hX : rX w w2 i) : cR w2 41 42 600 im := h.X hX (by decide) (by decide) (by omega) (by omega)
theorem aO.put {w w2 : ab_W} {i o cu li : Nat} {en : Int32} (h : aO w o en cu li) (hf : ∀ j, j ≠ 44 + 3 * i → w2.1 j = w.1 j) : aO w2 o en cu li := (hf 40 (by omega)).trans h
abbrev HD : Type := List Nat × Nat × Nat × Nat × Nat
def sumT (im : List Nat) (b k : Nat) : Nat := ((im.drop b).take k).sum % 256
def rRH (im : List Nat) (li b : Nat) : Rd HD := match rMN im li (b + 1) with
  | .inl e => .inl e
  | .inr q => match rB im li (b + 3 + q.2.length) with
    | .inl e => .inl e
    | .inr sl => match rLC im li (b + 4 + q.2.length) with
      | .inl e => .inl e
      | .inr p => match rBt im li (b + 7 + q.2.length) (sumT im b (7 + q.2.length)) (sumT im b (7 + q.2.length)) with
        | .inl e => .inl e
        | .inr _ => .inr (q.2, q.1, sl, p.1, p.2)
/-- the first byte that is not 0 among n from j on -/
def zF (im : List Nat) : Nat → Nat → Option Nat
  | 0, _ => none
  | n + 1, j => if im.getD j 0 = 0 then zF im n (j + 1) else some j
def nx4 (e : Nat) : Nat := e + (4 - e % 4) % 4
def pS (im : List Nat) (li c sl : Nat) : Rd Nat := if li < nx4 (c + sl) then .inl (-3, li) else match zF im (nx4 (c + sl) - (c + sl)) (c + sl) with
  | some j => .inl (-4, j)
  | none => .inr (nx4 (c + sl))
theorem rLC_S {im : List Nat} {li c : Nat} {p : Nat × Nat} (hby : ∀ x ∈ im, x < 256) (hli : li ≤ im.length) (h : rLC im li c = .inr p) : c + 2 < li ∧ p.1 ≤ 60 ∧ p.2 < 65536 ∧ p.1 = im.getD c 0 ∧ p.2 = im.getD (c + 1) 0 * 256 + im.getD (c + 2) 0 := by
  unfold rLC at h
  split at h
  · cases h
  · rename_i n h1
    split at h
    · cases h
    · rename_i ck h2
      cases h
      obtain ⟨a1, a2, a3, a4⟩ := rBt_S h1
      obtain ⟨b1, b2, b3⟩ := rNum_S hby hli h2
      exact ⟨by omega, a4, b3, a2, b2⟩
theorem rRH_F {im : List Nat} {li b : Nat} {e : Int32 × Nat} (h : rRH im li b = .inl e) : e.1 < 0 := by
  unfold rRH at h
  split at h
  · rename_i e1 h1; cases h; exact rMN_F h1
  · split at h
    · rename_i e1 h1; cases h; exact rB_Fl h1
    · split at h
      · rename_i e1 h1; cases h; exact rLC_F h1
      · split at h
        · rename_i e1 h1; cases h; exact rBt_F h1
        · cases h
theorem rRH_S {im : List Nat} {li b : Nat} {q : HD} (hby : ∀ x ∈ im, x < 256) (hli : li ≤ im.length) (h : rRH im li b = .inr q) : 1 ≤ q.1.length ∧ q.1.length ≤ 8 ∧ (∀ x ∈ q.1, nch x = true) ∧ q.2.1 ≤ 2 ∧ q.2.2.1 < 256 ∧ q.2.2.2.1 ≤ 60 ∧ q.2.2.2.2 < 65536 ∧ b + 8 + q.1.length ≤ li := by
  unfold rRH at h
  split at h
  · cases h
  · rename_i q1 h1
    split at h
    · cases h
    · rename_i sl h2
      split at h
      · cases h
      · rename_i p h3
        split at h
        · cases h
        · rename_i z h4
          cases h
          obtain ⟨a1, a2, a3, a4, a5, -, -⟩ := rMN_S h1
          obtain ⟨b1, b2⟩ := rB_S h2
          obtain ⟨c1, c2, c3, -, -⟩ := rLC_S hby hli h3
          obtain ⟨d1, d2, d3, d4⟩ := rBt_S h4
          have g := getD_lt hby (j := b + 3 + q1.2.length) (by omega)
          exact ⟨a2, a3, a4, a1, by dsimp only; omega, c2, c3, by dsimp only; omega⟩
section AR
variable {G : ab_G} {w : ab_W} {o cu li i : Nat} {en : Int32} {im : List Nat}
set_option maxRecDepth 100000 in
set_option maxHeartbeats 4000000 in
theorem c_Ar_readLengthAndCheck (h40 : aO w o en cu li) (him : cR w 41 42 600 im) (hli : li ≤ im.length) (hcu : cu < 80000) {m a s n k : Int32} {nm : List Nat} (hf : fO w i m a s n k) (hn : nmR w i nm) : ab_E G mm_Ar_readLengthAndCheck rr_Ar_readLengthAndCheck 0 [(0, .ref 40), (1, .ref (44 + 3 * i))] [] w (rdP (rLC im li cu) (fun q => q.2) (fun pl w2 => rX w w2 i ∧ aF w2 pl ∧ fE w2 i) (fun q w2 => rX w w2 i ∧ aO w2 o en (cu + 3) li ∧ fO w2 i m a s (nI q.1) (nI q.2) ∧ nmR w2 i nm)) := by
  have hlt := him.lt
  have hby := him.2.2.2.2.1
  have h40o : w.1 40 = _ := h40
  have hfo : w.1 (44 + 3 * i) = _ := hf
  have k0 := c_Ar_readBetween (G := G) h40 him hli (by omega) (lo := 0) (hi := 60) (by decide) (by decide)
  unfold rLC
  rcases h1 : rBt im li cu 0 60 with e | b1
  · rw [rdP_F h1] at k0
    have he := rBt_F h1
    refine e_aload_n dd_Ar_readLengthAndCheck_0 rfl ?_
    refine e_aload_n dd_Ar_readLengthAndCheck_1 rfl ?_
    refine e_iconst_n 0 dd_Ar_readLengthAndCheck_2 (by decide) ?_
    refine e_bipush_n 60 dd_Ar_readLengthAndCheck_3 (by decide) ?_
    refine e_callVi (d1 := rr_Ar_readBetween) (As := [.int (nI 0), .int (nI 60)]) (st := [.ref (44 + 3 * i)]) dd_Ar_readLengthAndCheck_5 km_Ar_82 h40o rfl (by decide) rfl (Nat.le_of_ble_eq_true rfl) (Nat.le_of_ble_eq_true rfl) rfl rfl (k0) (fun w1 k1 => ?_)
    have hfo := (k1.1.2 (44 + 3 * i) (by omega) (by omega)).trans hfo
    refine e_putx (fs1 := [.ref (45 + 3 * i), .int m, .int a, .int s, .int e.1, .int k]) dd_Ar_readLengthAndCheck_8 kf_Ar_125 hfo (Nat.le_of_ble_eq_true rfl) rfl rfl rfl (fun w21 h22n h22v h22f => ?_)
    refine e_aload_n dd_Ar_readLengthAndCheck_11 rfl ?_
    refine e_get dd_Ar_readLengthAndCheck_12 kf_Ar_125 h22v rfl ?_
    refine e_if_ge (tgt := 23) dd_Ar_readLengthAndCheck_15 (by decide) (fun h9 => absurd h9 (Int32.not_le.mpr he)) (fun _ => ?_)
    refine e_aload_n dd_Ar_readLengthAndCheck_18 rfl ?_
    refine e_get dd_Ar_readLengthAndCheck_19 kf_Ar_125 h22v rfl ?_
    exact e_iret dd_Ar_readLengthAndCheck_22 rfl (rdF_of ⟨(k1.1.X i).tr (fO.set h22n h22f), k1.2.put h22f, ⟨_, _, _, _, _, h22v⟩, nm, (hn.S k1.1).put h22f⟩)
  · rw [rdP_S h1] at k0
    obtain ⟨a1, a2, a3, a4⟩ := rBt_S h1
    refine e_aload_n dd_Ar_readLengthAndCheck_0 rfl ?_
    refine e_aload_n dd_Ar_readLengthAndCheck_1 rfl ?_
    refine e_iconst_n 0 dd_Ar_readLengthAndCheck_2 (by decide) ?_
    refine e_bipush_n 60 dd_Ar_readLengthAndCheck_3 (by decide) ?_
    refine e_callVi (d1 := rr_Ar_readBetween) (As := [.int (nI 0), .int (nI 60)]) (st := [.ref (44 + 3 * i)]) dd_Ar_readLengthAndCheck_5 km_Ar_82 h40o rfl (by decide) rfl (Nat.le_of_ble_eq_true rfl) (Nat.le_of_ble_eq_true rfl) rfl rfl (k0) (fun w1 k1 => ?_)
    have hfo := (k1.1.2 (44 + 3 * i) (by omega) (by omega)).trans hfo
    have h41 : w1.1 40 = _ := k1.2
    refine e_putx (fs1 := [.ref (45 + 3 * i), .int m, .int a, .int s, .int (nI b1), .int k]) dd_Ar_readLengthAndCheck_8 kf_Ar_125 hfo (Nat.le_of_ble_eq_true rfl) rfl rfl rfl (fun w23 h24n h24v h24f => ?_)
    have hX2 : rX w w23 i := (k1.1.X i).tr (fO.set h24n h24f)
    have h42 : aO w23 o en (cu + 1) li := k1.2.put h24f
    have him2 := imR.put (him.S40 k1.1 (by decide) (by decide)) h24f
    have hn2 := (hn.S k1.1).put h24f
    have k2 := c_Ar_readNumber (G := G) h42 him2 hli (by omega)
    dsimp only
    refine e_aload_n dd_Ar_readLengthAndCheck_11 rfl ?_
    refine e_get dd_Ar_readLengthAndCheck_12 kf_Ar_125 h24v rfl ?_
    refine e_if_ge_n (tgt := 23) dd_Ar_readLengthAndCheck_15 (by decide) (by omega) ?_
    refine e_aload_n dd_Ar_readLengthAndCheck_23 rfl ?_
    refine e_aload_n dd_Ar_readLengthAndCheck_24 rfl ?_
    rcases h2 : rNum im li (cu + 1) with e | b2
    · rw [rdP_F h2] at k2
      have he := rNum_F h2
      refine e_callVi (d1 := rr_Ar_readNumber) (As := []) (st := [.ref (44 + 3 * i)]) dd_Ar_readLengthAndCheck_25 km_Ar_109 ((h24f _ (by omega)).trans h41) rfl (by decide) rfl (Nat.le_of_ble_eq_true rfl) (Nat.le_of_ble_eq_true rfl) rfl rfl (k2) (fun w3 k3 => ?_)
      have hfo := (k3.1.2 (44 + 3 * i) (by omega) (by omega)).trans h24v
      refine e_putx (fs1 := [.ref (45 + 3 * i), .int m, .int a, .int s, .int (nI b1), .int e.1]) dd_Ar_readLengthAndCheck_28 kf_Ar_126 hfo (Nat.le_of_ble_eq_true rfl) rfl rfl rfl (fun w25 h26n h26v h26f => ?_)
      refine e_aload_n dd_Ar_readLengthAndCheck_31 rfl ?_
      refine e_get dd_Ar_readLengthAndCheck_32 kf_Ar_126 h26v rfl ?_
      exact e_iret dd_Ar_readLengthAndCheck_35 rfl (rdF_of ⟨(hX2.tr (k3.1.X i)).tr (fO.set h26n h26f), k3.2.put h26f, ⟨_, _, _, _, _, h26v⟩, nm, (hn2.S k3.1).put h26f⟩)
    · rw [rdP_S h2] at k2
      refine e_callVi (d1 := rr_Ar_readNumber) (As := []) (st := [.ref (44 + 3 * i)]) dd_Ar_readLengthAndCheck_25 km_Ar_109 ((h24f _ (by omega)).trans h41) rfl (by decide) rfl (Nat.le_of_ble_eq_true rfl) (Nat.le_of_ble_eq_true rfl) rfl rfl (k2) (fun w3 k3 => ?_)
      have hfo := (k3.1.2 (44 + 3 * i) (by omega) (by omega)).trans h24v
      refine e_putx (fs1 := [.ref (45 + 3 * i), .int m, .int a, .int s, .int (nI b1), .int (nI b2)]) dd_Ar_readLengthAndCheck_28 kf_Ar_126 hfo (Nat.le_of_ble_eq_true rfl) rfl rfl rfl (fun w27 h28n h28v h28f => ?_)
      refine e_aload_n dd_Ar_readLengthAndCheck_31 rfl ?_
      refine e_get dd_Ar_readLengthAndCheck_32 kf_Ar_126 h28v rfl ?_
      exact e_iret dd_Ar_readLengthAndCheck_35 rfl (rdS_of ⟨(hX2.tr (k3.1.X i)).tr (fO.set h28n h28f), k3.2.put h28f, h28v, (hn2.S k3.1).put h28f⟩)
set_option maxRecDepth 100000 in
set_option maxHeartbeats 4000000 in
theorem c_Ar_readRecordHead {b : Nat} (hi : i < 7) (h40 : aO w o en (b + 1) li) (him : cR w 41 42 600 im) (hli : li ≤ im.length) (hb : b < li) {m a s n k : Int32} {nm0 : List Nat} (hf : fO w i m a s n k) (hn : nmR w i nm0) : ab_E G mm_Ar_readRecordHead rr_Ar_readRecordHead 0 [(0, .ref 40), (1, .ref (44 + 3 * i)), (2, .int (nI b))] [] w (rdP (rRH im li b) (fun q => sumT im b (7 + q.1.length)) (fun pl w2 => rX w w2 i ∧ aF w2 pl ∧ fE w2 i) (fun q w2 => rX w w2 i ∧ aO w2 o en (b + 8 + q.1.length) li ∧ fO w2 i (nI q.2.1) a (nI q.2.2.1) (nI q.2.2.2.1) (nI q.2.2.2.2) ∧ nmR w2 i q.1)) := by
  have hlt := him.lt
  have h600 := him.2.1
  have hby := him.2.2.2.2.1
  have h40o : w.1 40 = _ := h40
  have k0 := c_Ar_readMethodAndName (G := G) hi h40 him hli (by omega) hf hn
  unfold rRH
  rcases h1 : rMN im li (b + 1) with e | q
  · rw [rdP_F h1] at k0
    have he := rMN_F h1
    refine e_aload_n dd_Ar_readRecordHead_0 rfl ?_
    refine e_aload_n dd_Ar_readRecordHead_1 rfl ?_
    refine e_callVi (d1 := rr_Ar_readMethodAndName) (As := [.ref (44 + 3 * i)]) (st := []) dd_Ar_readRecordHead_2 km_Ar_70 h40o rfl (by decide) rfl (Nat.le_of_ble_eq_true rfl) (Nat.le_of_ble_eq_true rfl) rfl rfl (k0) (fun w1 k1 => ?_)
    refine e_istore_n (lv1 := [(0, .ref 40), (1, .ref (44 + 3 * i)), (2, .int (nI b)), (3, .int e.1)]) dd_Ar_readRecordHead_5 (by decide) rfl ?_
    refine e_iload_n dd_Ar_readRecordHead_6 rfl ?_
    refine e_if_ge (tgt := 12) dd_Ar_readRecordHead_7 (by decide) (fun h9 => absurd h9 (Int32.not_le.mpr he)) (fun _ => ?_)
    refine e_iload_n dd_Ar_readRecordHead_10 rfl ?_
    exact e_iret dd_Ar_readRecordHead_11 rfl (rdF_of k1)
  · rw [rdP_S h1] at k0
    obtain ⟨a1, a2, a3, a4, a5, -, -⟩ := rMN_S h1
    refine e_aload_n dd_Ar_readRecordHead_0 rfl ?_
    refine e_aload_n dd_Ar_readRecordHead_1 rfl ?_
    refine e_callVi (d1 := rr_Ar_readMethodAndName) (As := [.ref (44 + 3 * i)]) (st := []) dd_Ar_readRecordHead_2 km_Ar_70 h40o rfl (by decide) rfl (Nat.le_of_ble_eq_true rfl) (Nat.le_of_ble_eq_true rfl) rfl rfl (k0) (fun w1 k1 => ?_)
    obtain ⟨m1, nm⟩ := q
    dsimp only at k1 a1 a2 a3 a4 a5 ⊢
    obtain ⟨x1, x2, x3, x4⟩ := k1
    have x4 : nmR w1 i nm := x4
    have h41 : w1.1 40 = _ := x2
    have him1 := imR.X him x1
    have k2 := c_Ar_readByte (G := G) x2 him1 hli (by omega)
    rw [show b + 1 + 2 + nm.length = b + 3 + nm.length by omega] at k2
    refine e_istore_n (lv1 := [(0, .ref 40), (1, .ref (44 + 3 * i)), (2, .int (nI b)), (3, .int (nI nm.length))]) dd_Ar_readRecordHead_5 (by decide) rfl ?_
    refine e_iload_n dd_Ar_readRecordHead_6 rfl ?_
    refine e_if_ge_n (tgt := 12) dd_Ar_readRecordHead_7 (by decide) (by omega) ?_
    refine e_aload_n dd_Ar_readRecordHead_12 rfl ?_
    refine e_aload_n dd_Ar_readRecordHead_13 rfl ?_
    rcases h2 : rB im li (b + 3 + nm.length) with e | sl
    · rw [rdP_F h2] at k2
      have he := rB_Fl h2
      refine e_callVi (d1 := rr_Ar_readByte) (As := []) (st := [.ref (44 + 3 * i)]) dd_Ar_readRecordHead_14 km_Ar_54 h41 rfl (by decide) rfl (Nat.le_of_ble_eq_true rfl) (Nat.le_of_ble_eq_true rfl) rfl rfl (k2) (fun w2 k3 => ?_)
      have hfo : w2.1 (44 + 3 * i) = _ := x3.S k3.1
      refine e_putx (fs1 := [.ref (45 + 3 * i), .int (nI m1), .int a, .int e.1, .int n, .int k]) dd_Ar_readRecordHead_17 kf_Ar_73 hfo (Nat.le_of_ble_eq_true rfl) rfl rfl rfl (fun w21 h22n h22v h22f => ?_)
      refine e_aload_n dd_Ar_readRecordHead_20 rfl ?_
      refine e_get dd_Ar_readRecordHead_21 kf_Ar_73 h22v rfl ?_
      refine e_if_ge (tgt := 32) dd_Ar_readRecordHead_24 (by decide) (fun h9 => absurd h9 (Int32.not_le.mpr he)) (fun _ => ?_)
      refine e_aload_n dd_Ar_readRecordHead_27 rfl ?_
      refine e_get dd_Ar_readRecordHead_28 kf_Ar_73 h22v rfl ?_
      exact e_iret dd_Ar_readRecordHead_31 rfl (rdF_of ⟨(x1.tr (k3.1.X i)).tr (fO.set h22n h22f), k3.2.put h22f, ⟨_, _, _, _, _, h22v⟩, nm, (x4.S k3.1).put h22f⟩)
    · rw [rdP_S h2] at k2
      obtain ⟨b1, b2⟩ := rB_S h2
      have hsl : sl < 256 := by rw [b2]; exact getD_lt hby (by omega)
      refine e_callVi (d1 := rr_Ar_readByte) (As := []) (st := [.ref (44 + 3 * i)]) dd_Ar_readRecordHead_14 km_Ar_54 h41 rfl (by decide) rfl (Nat.le_of_ble_eq_true rfl) (Nat.le_of_ble_eq_true rfl) rfl rfl (k2) (fun w2 k3 => ?_)
      have hfo : w2.1 (44 + 3 * i) = _ := x3.S k3.1
      have h42 : w2.1 40 = _ := k3.2
      refine e_putx (fs1 := [.ref (45 + 3 * i), .int (nI m1), .int a, .int (nI sl), .int n, .int k]) dd_Ar_readRecordHead_17 kf_Ar_73 hfo (Nat.le_of_ble_eq_true rfl) rfl rfl rfl (fun w23 h24n h24v h24f => ?_)
      have hX2 : rX w w23 i := (x1.tr (k3.1.X i)).tr (fO.set h24n h24f)
      have h43 : aO w23 o en (b + 4 + nm.length) li := by
        have h9 := k3.2.put h24f
        rw [show b + 1 + 2 + nm.length + 1 = b + 4 + nm.length by omega] at h9
        exact h9
      have him2 := imR.put (him1.S40 k3.1 (by decide) (by decide)) h24f
      have hn2 := (x4.S k3.1).put h24f
      have k4 := c_Ar_readLengthAndCheck (G := G) h43 him2 hli (by omega) (show fO w23 i _ _ _ _ _ from h24v) hn2
      dsimp only
      refine e_aload_n dd_Ar_readRecordHead_20 rfl ?_
      refine e_get dd_Ar_readRecordHead_21 kf_Ar_73 h24v rfl ?_
      refine e_if_ge_n (tgt := 32) dd_Ar_readRecordHead_24 (by decide) (by omega) ?_
      refine e_aload_n dd_Ar_readRecordHead_32 rfl ?_
      refine e_aload_n dd_Ar_readRecordHead_33 rfl ?_
      rcases h3 : rLC im li (b + 4 + nm.length) with e | pr
      · rw [rdP_F h3] at k4
        have he := rLC_F h3
        refine e_callVi (d1 := rr_Ar_readLengthAndCheck) (As := [.ref (44 + 3 * i)]) (st := []) dd_Ar_readRecordHead_34 km_Ar_76 ((h24f _ (by omega)).trans h42) rfl (by decide) rfl (Nat.le_of_ble_eq_true rfl) (Nat.le_of_ble_eq_true rfl) rfl rfl (k4) (fun w4 k5 => ?_)
        refine e_istore_n (lv1 := [(0, .ref 40), (1, .ref (44 + 3 * i)), (2, .int (nI b)), (3, .int e.1)]) dd_Ar_readRecordHead_37 (by decide) rfl ?_
        refine e_iload_n dd_Ar_readRecordHead_38 rfl ?_
        refine e_if_ge (tgt := 44) dd_Ar_readRecordHead_39 (by decide) (fun h9 => absurd h9 (Int32.not_le.mpr he)) (fun _ => ?_)
        refine e_iload_n dd_Ar_readRecordHead_42 rfl ?_
        exact e_iret dd_Ar_readRecordHead_43 rfl (rdF_of ⟨hX2.tr k5.1, k5.2⟩)
      · rw [rdP_S h3] at k4
        obtain ⟨c1, c2, c3, -, -⟩ := rLC_S hby hli h3
        obtain ⟨nn, ck⟩ := pr
        dsimp only at k4 c2 c3
        refine e_callVi (d1 := rr_Ar_readLengthAndCheck) (As := [.ref (44 + 3 * i)]) (st := []) dd_Ar_readRecordHead_34 km_Ar_76 ((h24f _ (by omega)).trans h42) rfl (by decide) rfl (Nat.le_of_ble_eq_true rfl) (Nat.le_of_ble_eq_true rfl) rfl rfl (k4) (fun w4 k5 => ?_)
        obtain ⟨y1, y2, y3, y4⟩ := k5
        have h44 : w4.1 40 = _ := y2
        have him4 := imR.X him2 y1
        have hr4 := him4.obj
        have k6 := c_Row_sum (G := G) him4 (b := b) (e := b + 4 + nm.length + 3) (by omega) (by omega)
        rw [show b + 4 + nm.length + 3 - b = 7 + nm.length by omega] at k6
        have k7 := c_Ar_readBetween (G := G) y2 him4 hli (by omega) (lo := sumT im b (7 + nm.length)) (hi := sumT im b (7 + nm.length)) (by unfold sumT; omega) (by unfold sumT; omega)
        rw [show b + 4 + nm.length + 3 = b + 7 + nm.length by omega] at k7
        dsimp only
        refine e_istore_n (lv1 := [(0, .ref 40), (1, .ref (44 + 3 * i)), (2, .int (nI b)), (3, .int (nI ck))]) dd_Ar_readRecordHead_37 (by decide) rfl ?_
        refine e_iload_n dd_Ar_readRecordHead_38 rfl ?_
        refine e_if_ge_n (tgt := 44) dd_Ar_readRecordHead_39 (by decide) (by omega) ?_
        refine e_aload_n dd_Ar_readRecordHead_44 rfl ?_
        refine e_get dd_Ar_readRecordHead_45 kf_Ar_14 h44 rfl ?_
        refine e_iload_n dd_Ar_readRecordHead_48 rfl ?_
        refine e_aload_n dd_Ar_readRecordHead_49 rfl ?_
        refine e_get dd_Ar_readRecordHead_50 kf_Ar_41 h44 rfl ?_
        refine e_callVp (d1 := rr_Row_sum) (As := [.int (nI b), .int (nI (b + 4 + nm.length + 3))]) (st := []) dd_Ar_readRecordHead_53 km_Ar_79 hr4 rfl (by decide) rfl (Nat.le_of_ble_eq_true rfl) (Nat.le_of_ble_eq_true rfl) rfl rfl (k6) ?_
        refine e_istore (lv1 := [(0, .ref 40), (1, .ref (44 + 3 * i)), (2, .int (nI b)), (3, .int (nI ck)), (4, .int (nI (sumT im b (7 + nm.length))))]) dd_Ar_readRecordHead_56 (by decide) rfl ?_
        refine e_aload_n dd_Ar_readRecordHead_58 rfl ?_
        refine e_iload dd_Ar_readRecordHead_59 rfl ?_
        refine e_iload dd_Ar_readRecordHead_61 rfl ?_
        rcases h4 : rBt im li (b + 7 + nm.length) (sumT im b (7 + nm.length)) (sumT im b (7 + nm.length)) with e | z
        · rw [rdP_F h4] at k7
          have he := rBt_F h4
          refine e_callVi (d1 := rr_Ar_readBetween) (As := [.int (nI (sumT im b (7 + nm.length))), .int (nI (sumT im b (7 + nm.length)))]) (st := []) dd_Ar_readRecordHead_63 km_Ar_82 h44 rfl (by decide) rfl (Nat.le_of_ble_eq_true rfl) (Nat.le_of_ble_eq_true rfl) rfl rfl (k7) (fun w5 k8 => ?_)
          exact e_iret dd_Ar_readRecordHead_66 rfl (rdF_of ⟨(hX2.tr y1).tr (k8.1.X i), k8.2, ⟨_, _, _, _, _, y3.S k8.1⟩, nm, y4.S k8.1⟩)
        · rw [rdP_S h4] at k7
          obtain ⟨-, -, d3, d4⟩ := rBt_S h4
          have ez : z = sumT im b (7 + nm.length) := by omega
          subst ez
          refine e_callVi (d1 := rr_Ar_readBetween) (As := [.int (nI (sumT im b (7 + nm.length))), .int (nI (sumT im b (7 + nm.length)))]) (st := []) dd_Ar_readRecordHead_63 km_Ar_82 h44 rfl (by decide) rfl (Nat.le_of_ble_eq_true rfl) (Nat.le_of_ble_eq_true rfl) rfl rfl (k7) (fun w5 k8 => ?_)
          have k9 := k8.2
          rw [show b + 7 + nm.length + 1 = b + 8 + nm.length by omega] at k9
          exact e_iret dd_Ar_readRecordHead_66 rfl ⟨rfl, (hX2.tr y1).tr (k8.1.X i), k9, y3.S k8.1, y4.S k8.1⟩
end AR
