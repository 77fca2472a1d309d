/-! ArchiveBench$Archive: reading heads. -/
def fO (w : ab_W) (i : Nat) (m at_ sl n ck : Int32) : Prop := w.1 (44 + 3 * i) = some (.inr (5, [.ref (45 + 3 * i), .int m, .int at_, .int sl, .int n, .int ck]))
/-- open file i is there, in whatever state -/
def fE (w : ab_W) (i : Nat) : Prop := (∃ m a s n k, fO w i m a s n k) ∧ ∃ nm, cR w (45 + 3 * i) (46 + 3 * i) 8 nm
theorem fO.S {w w2 : ab_W} {i : Nat} {m a s n k : Int32} (h : fO w i m a s n k) (hS : rS w w2 40 40) : fO w2 i m a s n k := (hS.2 _ (by omega) (by omega)).trans h
theorem cR.S40 {w w2 : ab_W} {r a cap : Nat} {xs : List Nat} (h : cR w r a cap xs) (hS : rS w w2 40 40) (h1 : r ≠ 40) (h2 : a ≠ 40) : cR w2 r a cap xs := h.keep (hS.2 r h1 h1) (hS.2 a h2 h2)
theorem neg4 : (-4 : Int32) < 0 := by decide
theorem neg3 : (-3 : Int32) < 0 := by decide
theorem rBt_F {im : List Nat} {li c lo hi : Nat} {e : Int32 × Nat} (h : rBt im li c lo hi = .inl e) : e.1 < 0 := by
  unfold rBt at h
  split at h
  · split at h
    · cases h; first | exact neg4 | exact neg3
    · cases h
  · cases h; first | exact neg4 | exact neg3
theorem rBt_S {im : List Nat} {li c lo hi b : Nat} (h : rBt im li c lo hi = .inr b) : c < li ∧ b = im.getD c 0 ∧ lo ≤ b ∧ b ≤ hi := by
  unfold rBt at h
  split at h
  · split at h
    · cases h
    · cases h
      exact ⟨by assumption, rfl, by omega, by omega⟩
  · cases h
theorem rNum_F {im : List Nat} {li c : Nat} {e : Int32 × Nat} (h : rNum im li c = .inl e) : e.1 < 0 := by
  unfold rNum at h
  split at h
  · cases h
  · cases h; first | exact neg4 | exact neg3
theorem rNum_S {im : List Nat} {li c b : Nat} (hby : ∀ x ∈ im, x < 256) (hli : li ≤ im.length) (h : rNum im li c = .inr b) : c + 1 < li ∧ b = im.getD c 0 * 256 + im.getD (c + 1) 0 ∧ b < 65536 := by
  unfold rNum at h
  split at h
  · rename_i h1
    cases h
    have g1 := getD_lt hby (j := c) (by omega)
    have g2 := getD_lt hby (j := c + 1) (by omega)
    exact ⟨h1, rfl, by omega⟩
  · cases h
theorem rB_Fl {im : List Nat} {li c : Nat} {e : Int32 × Nat} (h : rB im li c = .inl e) : e.1 < 0 := by
  rw [(rB_F h).2]; exact neg3
/-- the characters of a name; method and name; bytes and CHECK; a record's head -/
def rNm (im : List Nat) (li : Nat) : Nat → Nat → List Nat → Rd (List Nat)
  | 0, _, acc => .inr acc
  | k + 1, c, acc => if c < li then (if nch (im.getD c 0) = true then rNm im li k (c + 1) (acc ++ [im.getD c 0]) else .inl (-4, c)) else .inl (-3, li)
def rMN (im : List Nat) (li c : Nat) : Rd (Nat × List Nat) := match rBt im li c 0 2 with
  | .inl e => .inl e
  | .inr m => match rBt im li (c + 1) 1 8 with
    | .inl e => .inl e
    | .inr k => match rNm im li k (c + 2) [] with
      | .inl e => .inl e
      | .inr nm => .inr (m, nm)
def rLC (im : List Nat) (li c : Nat) : Rd (Nat × Nat) := match rBt im li c 0 60 with
  | .inl e => .inl e
  | .inr n => match rNum im li (c + 1) with
    | .inl e => .inl e
    | .inr ck => .inr (n, ck)
theorem rNm_F {im : List Nat} {li : Nat} {e : Int32 × Nat} : ∀ k c acc, rNm im li k c acc = .inl e → e.1 < 0
  | 0, c, acc, h => by cases h
  | k + 1, c, acc, h => by
    unfold rNm at h
    split at h
    · split at h
      · exact rNm_F k _ _ h
      · cases h; first | exact neg4 | exact neg3
    · cases h; first | exact neg4 | exact neg3
theorem rNm_S {im : List Nat} {li : Nat} {nm : List Nat} : ∀ k c acc, rNm im li k c acc = .inr nm → nm.length = acc.length + k ∧ ((∀ x ∈ acc, nch x = true) → ∀ x ∈ nm, nch x = true) ∧ (k = 0 ∨ c + k ≤ li)
  | 0, c, acc, h => by
    cases h
    exact ⟨rfl, id, Or.inl rfl⟩
  | k + 1, c, acc, h => by
    unfold rNm at h
    split at h
    · split at h
      · rename_i h1 h2
        obtain ⟨g1, g2, g3⟩ := rNm_S k _ _ h
        refine ⟨by rw [g1, List.length_append]; simp; omega, fun ha => g2 (fun x hx => ?_), by omega⟩
        rcases List.mem_append.mp hx with h3 | h3
        · exact ha x h3
        · rw [List.mem_singleton.mp h3]; exact h2
      · cases h
    · cases h
theorem rMN_F {im : List Nat} {li c : Nat} {e : Int32 × Nat} (h : rMN im li c = .inl e) : e.1 < 0 := by
  unfold rMN at h
  split at h
  · rename_i e1 h1
    cases h
    exact rBt_F h1
  · split at h
    · rename_i e1 h1
      cases h
      exact rBt_F h1
    · split at h
      · rename_i e1 h1
        cases h
        exact rNm_F _ _ _ h1
      · cases h
theorem rMN_S {im : List Nat} {li c : Nat} {q : Nat × List Nat} (h : rMN im li c = .inr q) : q.1 ≤ 2 ∧ 1 ≤ q.2.length ∧ q.2.length ≤ 8 ∧ (∀ x ∈ q.2, nch x = true) ∧ c + 2 + q.2.length ≤ li ∧ q.1 = im.getD c 0 ∧ q.2.length = im.getD (c + 1) 0 := by
  unfold rMN at h
  split at h
  · cases h
  · rename_i m h1
    split at h
    · cases h
    · rename_i k h2
      split at h
      · cases h
      · rename_i nm h3
        cases h
        obtain ⟨a1, a2, a3, a4⟩ := rBt_S h1
        obtain ⟨b1, b2, b3, b4⟩ := rBt_S h2
        obtain ⟨c1, c2, c3⟩ := rNm_S _ _ _ h3
        simp only [List.length_nil, Nat.zero_add] at c1
        exact ⟨a4, by dsimp only; omega, by dsimp only; omega, c2 (fun x hx => by cases hx), by dsimp only; omega, a2, by dsimp only; omega⟩
theorem rLC_F {im : List Nat} {li c : Nat} {e : Int32 × Nat} (h : rLC im li c = .inl e) : e.1 < 0 := by
  unfold rLC at h
  split at h
  · rename_i e1 h1
    cases h
    exact rBt_F h1
  · split at h
    · rename_i e1 h1
      cases h
      exact rNum_F h1
    · cases h
section AR
variable {G : ab_G} {w : ab_W} {o cu li i : Nat} {en : Int32} {im : List Nat}
theorem nch_lt {b : Nat} (h : nch b = true) : b < 256 := by
  have := of_decide_eq_true h
  omega
set_option maxRecDepth 100000 in
set_option maxHeartbeats 4000000 in
theorem l_Ar_name (hi : i < 7) (hli : li ≤ im.length) {m a s n k : Int32} {K : Nat} (hK : K ≤ 8) : ∀ (r j c : Nat) (w1 : ab_W) (acc : List Nat), j + r = K → acc.length = j → c < 90000 → rX w w1 i → aO w1 o en c li → cR w1 41 42 600 im → fO w1 i m a s n k → cR w1 (45 + 3 * i) (46 + 3 * i) 8 acc → ab_E G mm_Ar_readMethodAndName rr_Ar_readMethodAndName 40 [(0, .ref 40), (1, .ref (44 + 3 * i)), (2, .int (nI K)), (3, .int (nI j))] [] w1 (rdP (rNm im li r c acc) (fun _ => K) (fun pl w2 => rX w w2 i ∧ aF w2 pl ∧ fE w2 i) (fun nm w2 => rX w w2 i ∧ aO w2 o en (c + r) li ∧ fO w2 i m a s n k ∧ cR w2 (45 + 3 * i) (46 + 3 * i) 8 nm)) := by
  intro r
  induction r with
  | zero =>
    intro j c w1 acc hj hl hc hX h40 him hf hn
    refine e_iload_n dd_Ar_readMethodAndName_40 rfl ?_
    refine e_iload_n dd_Ar_readMethodAndName_41 rfl ?_
    refine e_icmp_ge_n (tgt := 96) dd_Ar_readMethodAndName_42 (by decide) (by omega) (by omega) (fun _ => ?_) (fun h9 => absurd h9 (by omega))
    refine e_iload_n dd_Ar_readMethodAndName_96 rfl ?_
    exact e_iret dd_Ar_readMethodAndName_97 rfl (rdS_of ⟨hX, h40, hf, hn⟩)
  | succ r ih =>
    intro j c w1 acc hj hl hc hX h40 him hf hn
    have hlt := him.lt
    have h600 := him.2.1
    have hby := him.2.2.2.2.1
    have h40o : w1.1 40 = _ := h40
    have k0 := c_Ar_readByte (G := G) h40 him hli (by omega)
    unfold rB at k0
    unfold rNm
    by_cases c1 : c < li
    · rw [if_pos c1] at k0 ⊢
      have g1 := getD_lt hby (j := c) (by omega)
      refine e_iload_n dd_Ar_readMethodAndName_40 rfl ?_
      refine e_iload_n dd_Ar_readMethodAndName_41 rfl ?_
      refine e_icmp_ge_n (tgt := 96) dd_Ar_readMethodAndName_42 (by decide) (by omega) (by omega) (fun h9 => absurd h9 (by omega)) (fun _ => ?_)
      refine e_aload_n dd_Ar_readMethodAndName_45 rfl ?_
      refine e_callVi (d1 := rr_Ar_readByte) (As := []) (st := []) dd_Ar_readMethodAndName_46 km_Ar_54 h40o rfl (by decide) rfl (Nat.le_of_ble_eq_true rfl) (Nat.le_of_ble_eq_true rfl) rfl rfl (k0) (fun w2 k1 => ?_)
      have h41 : w2.1 40 = _ := k1.2
      have hn2 := hn.S40 k1.1 (by omega) (by omega)
      have hf2 := hf.S k1.1
      have hf2o : w2.1 (44 + 3 * i) = _ := hf2
      have hr := hn2.obj
      have him2 := him.S40 k1.1 (by decide) (by decide)
      generalize im.getD c 0 = b at g1 ⊢
      refine e_istore (lv1 := [(0, .ref 40), (1, .ref (44 + 3 * i)), (2, .int (nI K)), (3, .int (nI j)), (4, .int (nI b))]) dd_Ar_readMethodAndName_49 (by decide) rfl ?_
      refine e_iload dd_Ar_readMethodAndName_51 rfl ?_
      refine e_if_ge_n (tgt := 59) dd_Ar_readMethodAndName_53 (by decide) (by omega) ?_
      refine e_iload dd_Ar_readMethodAndName_59 rfl ?_
      refine e_callNp (d1 := rr_AB_isNameCharacter) (As := [.int (nI b)]) (st := []) dd_Ar_readMethodAndName_61 km_Ar_118 (by decide) rfl (Nat.le_of_ble_eq_true rfl) (Nat.le_of_ble_eq_true rfl) rfl rfl (c_AB_isNameCharacter (nI b)) ?_
      rw [nchI_n (show b < 2 ^ 31 by omega)]
      refine e_if_ne_b (tgt := 80) dd_Ar_readMethodAndName_64 (by decide) (fun c64 => ?_) (fun c64 => ?_)
      · rw [if_pos c64]
        refine e_aload_n dd_Ar_readMethodAndName_80 rfl ?_
        refine e_get dd_Ar_readMethodAndName_81 kf_Ar_34 hf2o rfl ?_
        refine e_iload dd_Ar_readMethodAndName_84 rfl ?_
        refine e_callVi (d1 := rr_Row_append) (As := [.int (nI b)]) (st := []) dd_Ar_readMethodAndName_86 km_Ar_122 hr rfl (by decide) rfl (Nat.le_of_ble_eq_true rfl) (Nat.le_of_ble_eq_true rfl) rfl rfl (c_Row_app hn2 g1 (by omega)) (fun w3 k2 => ?_)
        refine e_pop dd_Ar_readMethodAndName_89 rfl ?_
        refine e_iinc_n (a := j) (k := 1) (lv1 := [(0, .ref 40), (1, .ref (44 + 3 * i)), (2, .int (nI K)), (3, .int (nI (j + 1))), (4, .int (nI b))]) dd_Ar_readMethodAndName_90 rfl (by decide) (by decide) rfl ?_
        refine e_goto (tgt := 40) dd_Ar_readMethodAndName_93 (by decide) ?_
        refine e_rm (lv1 := [(0, .ref 40), (1, .ref (44 + 3 * i)), (2, .int (nI K)), (3, .int (nI (j + 1)))]) 4 rfl ?_
        have hX3 : rX w2 w3 i := ⟨k2.1.1, fun j h8 h9 => k2.1.2 j (by omega) (by omega)⟩
        have K := ih (j + 1) (c + 1) w3 (acc ++ [b]) (by omega) (by simp; omega) (by omega) ((hX.tr (k1.1.X i)).tr hX3) ((k2.1.2 40 (by omega) (by omega)).trans k1.2) (him2.keep (k2.1.2 41 (by omega) (by omega)) (k2.1.2 42 (by omega) (by omega))) ((k2.1.2 _ (by omega) (by omega)).trans hf2) k2.2
        rw [show c + 1 + r = c + (r + 1) by omega] at K
        exact K
      · rw [if_neg (by rw [c64]; decide)]
        refine e_aload_n dd_Ar_readMethodAndName_67 rfl ?_
        refine e_bipush (v := -4) dd_Ar_readMethodAndName_68 (by decide) ?_
        refine e_aload_n dd_Ar_readMethodAndName_70 rfl ?_
        refine e_get dd_Ar_readMethodAndName_71 kf_Ar_41 h41 rfl ?_
        refine e_iconst_n 1 dd_Ar_readMethodAndName_74 (by decide) ?_
        refine e_isub_n dd_Ar_readMethodAndName_75 (by omega) ?_
        refine e_top (y := nI c) (by congr 1) ?_
        refine e_callVi (d1 := rr_Ar_stop) (As := [.int (-4), .int (nI c)]) (st := []) dd_Ar_readMethodAndName_76 km_Ar_58 h41 rfl (by decide) rfl (Nat.le_of_ble_eq_true rfl) (Nat.le_of_ble_eq_true rfl) rfl rfl (c_Ar_stopF k1.2 (-4)) (fun w3 k2 => ?_)
        exact e_iret dd_Ar_readMethodAndName_79 rfl (rdF_of ⟨(hX.tr (k1.1.X i)).tr (k2.1.X i), k2.2, ⟨_, _, _, _, _, hf2.S k2.1⟩, acc, hn2.S40 k2.1 (by omega) (by omega)⟩)
    · rw [if_neg c1] at k0 ⊢
      refine e_iload_n dd_Ar_readMethodAndName_40 rfl ?_
      refine e_iload_n dd_Ar_readMethodAndName_41 rfl ?_
      refine e_icmp_ge_n (tgt := 96) dd_Ar_readMethodAndName_42 (by decide) (by omega) (by omega) (fun h9 => absurd h9 (by omega)) (fun _ => ?_)
      refine e_aload_n dd_Ar_readMethodAndName_45 rfl ?_
      refine e_callVi (d1 := rr_Ar_readByte) (As := []) (st := []) dd_Ar_readMethodAndName_46 km_Ar_54 h40o rfl (by decide) rfl (Nat.le_of_ble_eq_true rfl) (Nat.le_of_ble_eq_true rfl) rfl rfl (k0) (fun w2 k1 => ?_)
      refine e_istore (lv1 := [(0, .ref 40), (1, .ref (44 + 3 * i)), (2, .int (nI K)), (3, .int (nI j)), (4, .int (-3))]) dd_Ar_readMethodAndName_49 (by decide) rfl ?_
      refine e_iload dd_Ar_readMethodAndName_51 rfl ?_
      refine e_if_ge (tgt := 59) dd_Ar_readMethodAndName_53 (by decide) (fun h9 => absurd h9 (by decide)) (fun _ => ?_)
      refine e_iload dd_Ar_readMethodAndName_56 rfl ?_
      exact e_iret dd_Ar_readMethodAndName_58 rfl (rdF_of ⟨hX.tr (k1.1.X i), k1.2, ⟨_, _, _, _, _, hf.S k1.1⟩, acc, hn.S40 k1.1 (by omega) (by omega)⟩)
theorem fO.set {w w2 : ab_W} {i : Nat} (hv : w2.2 = w.2) (hf : ∀ j, j ≠ 44 + 3 * i → w2.1 j = w.1 j) : rX w w2 i := ⟨hv, fun j _ h2 => hf j (by omega)⟩
set_option maxRecDepth 100000 in
set_option maxHeartbeats 4000000 in
theorem c_Ar_readMethodAndName (hi : i < 7) (h40 : aO w o en cu li) (him : cR w 41 42 600 im) (hli : li ≤ im.length) (hcu : cu < 80000) {m a s n k : Int32} {nm0 : List Nat} (hf : fO w i m a s n k) (hn : cR w (45 + 3 * i) (46 + 3 * i) 8 nm0) : ab_E G mm_Ar_readMethodAndName rr_Ar_readMethodAndName 0 [(0, .ref 40), (1, .ref (44 + 3 * i))] [] w (rdP (rMN im li cu) (fun q => q.2.length) (fun pl w2 => rX w w2 i ∧ aF w2 pl ∧ fE w2 i) (fun q w2 => rX w w2 i ∧ aO w2 o en (cu + 2 + q.2.length) li ∧ fO w2 i (nI q.1) a s n k ∧ cR w2 (45 + 3 * i) (46 + 3 * i) 8 q.2)) := by
  have hlt := him.lt
  have h40o : w.1 40 = _ := h40
  have hfo : w.1 (44 + 3 * i) = _ := hf
  have k0 := c_Ar_readBetween (G := G) h40 him hli (by omega) (lo := 0) (hi := 2) (by decide) (by decide)
  unfold rMN
  rcases h1 : rBt im li cu 0 2 with e | b1
  · rw [rdP_F h1] at k0
    have he := rBt_F h1
    refine e_aload_n dd_Ar_readMethodAndName_0 rfl ?_
    refine e_aload_n dd_Ar_readMethodAndName_1 rfl ?_
    refine e_iconst_n 0 dd_Ar_readMethodAndName_2 (by decide) ?_
    refine e_iconst_n 2 dd_Ar_readMethodAndName_3 (by decide) ?_
    refine e_callVi (d1 := rr_Ar_readBetween) (As := [.int (nI 0), .int (nI 2)]) (st := [.ref (44 + 3 * i)]) dd_Ar_readMethodAndName_4 km_Ar_82 h40o rfl (by decide) rfl (Nat.le_of_ble_eq_true rfl) (Nat.le_of_ble_eq_true rfl) rfl rfl (k0) (fun w1 k1 => ?_)
    have hfo := (k1.1.2 (44 + 3 * i) (by omega) (by omega)).trans hfo
    refine e_putx (fs1 := [.ref (45 + 3 * i), .int e.1, .int a, .int s, .int n, .int k]) dd_Ar_readMethodAndName_7 kf_Ar_112 hfo (Nat.le_of_ble_eq_true rfl) rfl rfl rfl (fun w21 h22n h22v h22f => ?_)
    refine e_aload_n dd_Ar_readMethodAndName_10 rfl ?_
    refine e_get dd_Ar_readMethodAndName_11 kf_Ar_112 h22v rfl ?_
    refine e_if_ge (tgt := 22) dd_Ar_readMethodAndName_14 (by decide) (fun h9 => absurd h9 (Int32.not_le.mpr he)) (fun _ => ?_)
    refine e_aload_n dd_Ar_readMethodAndName_17 rfl ?_
    refine e_get dd_Ar_readMethodAndName_18 kf_Ar_112 h22v rfl ?_
    exact e_iret dd_Ar_readMethodAndName_21 rfl (rdF_of ⟨(k1.1.X i).tr (fO.set h22n h22f), (by obtain ⟨q1, q2, q3⟩ := k1.2; exact ⟨q1, q2, (h22f 40 (by omega)).trans q3⟩), ⟨_, _, _, _, _, h22v⟩, nm0, (hn.S40 k1.1 (by omega) (by omega)).keep (h22f _ (by omega)) (h22f _ (by omega))⟩)
  · rw [rdP_S h1] at k0
    obtain ⟨a1, a2, a3, a4⟩ := rBt_S h1
    refine e_aload_n dd_Ar_readMethodAndName_0 rfl ?_
    refine e_aload_n dd_Ar_readMethodAndName_1 rfl ?_
    refine e_iconst_n 0 dd_Ar_readMethodAndName_2 (by decide) ?_
    refine e_iconst_n 2 dd_Ar_readMethodAndName_3 (by decide) ?_
    refine e_callVi (d1 := rr_Ar_readBetween) (As := [.int (nI 0), .int (nI 2)]) (st := [.ref (44 + 3 * i)]) dd_Ar_readMethodAndName_4 km_Ar_82 h40o rfl (by decide) rfl (Nat.le_of_ble_eq_true rfl) (Nat.le_of_ble_eq_true rfl) rfl rfl (k0) (fun w1 k1 => ?_)
    have hfo := (k1.1.2 (44 + 3 * i) (by omega) (by omega)).trans hfo
    have h41 : w1.1 40 = _ := k1.2
    refine e_putx (fs1 := [.ref (45 + 3 * i), .int (nI b1), .int a, .int s, .int n, .int k]) dd_Ar_readMethodAndName_7 kf_Ar_112 hfo (Nat.le_of_ble_eq_true rfl) rfl rfl rfl (fun w23 h24n h24v h24f => ?_)
    refine e_aload_n dd_Ar_readMethodAndName_10 rfl ?_
    refine e_get dd_Ar_readMethodAndName_11 kf_Ar_112 h24v rfl ?_
    refine e_if_ge_n (tgt := 22) dd_Ar_readMethodAndName_14 (by decide) (by omega) ?_
    refine e_aload_n dd_Ar_readMethodAndName_22 rfl ?_
    refine e_iconst_n 1 dd_Ar_readMethodAndName_23 (by decide) ?_
    refine e_bipush_n 8 dd_Ar_readMethodAndName_24 (by decide) ?_
    have hX2 : rX w w23 i := (k1.1.X i).tr (fO.set h24n h24f)
    have h42 : aO w23 o en (cu + 1) li := (h24f 40 (by omega)).trans k1.2
    have him2 := (him.S40 k1.1 (by decide) (by decide)).keep (h24f 41 (by omega)) (h24f 42 (by omega))
    have hn2 := (hn.S40 k1.1 (by omega) (by omega)).keep (h24f (45 + 3 * i) (by omega)) (h24f (46 + 3 * i) (by omega))
    have k2 := c_Ar_readBetween (G := G) h42 him2 hli (by omega) (lo := 1) (hi := 8) (by decide) (by decide)
    dsimp only
    rcases h2 : rBt im li (cu + 1) 1 8 with e | K
    · rw [rdP_F h2] at k2
      have he := rBt_F h2
      refine e_callVi (d1 := rr_Ar_readBetween) (As := [.int (nI 1), .int (nI 8)]) (st := []) dd_Ar_readMethodAndName_26 km_Ar_82 ((h24f _ (by omega)).trans h41) rfl (by decide) rfl (Nat.le_of_ble_eq_true rfl) (Nat.le_of_ble_eq_true rfl) rfl rfl (k2) (fun w3 k3 => ?_)
      refine e_istore_n (lv1 := [(0, .ref 40), (1, .ref (44 + 3 * i)), (2, .int e.1)]) dd_Ar_readMethodAndName_29 (by decide) rfl ?_
      refine e_aload_n dd_Ar_readMethodAndName_30 rfl ?_
      have hfo := (k3.1.2 (44 + 3 * i) (by omega) (by omega)).trans h24v
      have hn3 := hn2.S40 k3.1 (by omega) (by omega)
      have hr := hn3.obj
      refine e_get dd_Ar_readMethodAndName_31 kf_Ar_34 hfo rfl ?_
      refine e_iconst_n 0 dd_Ar_readMethodAndName_34 (by decide) ?_
      refine e_callVv (d1 := rr_Row_cutTo) (As := [.int (nI 0)]) (st := []) dd_Ar_readMethodAndName_35 km_Ar_115 hr rfl (by decide) rfl (Nat.le_of_ble_eq_true rfl) (Nat.le_of_ble_eq_true rfl) rfl rfl (c_Row_cutTo hn3 (k := 0) (by decide)) (fun w4 k4 => ?_)
      have k5 := k4.2
      rw [List.take_zero] at k5
      have hX4 : rX w3 w4 i := ⟨k4.1.1, fun j h8 h9 => k4.1.2 j (by omega) (by omega)⟩
      have hf4 : fO w4 i (nI b1) a s n k := (k4.1.2 (44 + 3 * i) (by omega) (by omega)).trans hfo
      refine e_iconst_n 0 dd_Ar_readMethodAndName_38 (by decide) ?_
      refine e_istore_n (lv1 := [(0, .ref 40), (1, .ref (44 + 3 * i)), (2, .int e.1), (3, .int (nI 0))]) dd_Ar_readMethodAndName_39 (by decide) rfl ?_
      refine e_iload_n dd_Ar_readMethodAndName_40 rfl ?_
      refine e_iload_n dd_Ar_readMethodAndName_41 rfl ?_
      refine e_icmp_ge (tgt := 96) dd_Ar_readMethodAndName_42 (by decide) (fun _ => ?_) (fun h9 => absurd h9 (fun h8 => absurd (Int32.le_of_lt he) h8))
      refine e_iload_n dd_Ar_readMethodAndName_96 rfl ?_
      exact e_iret dd_Ar_readMethodAndName_97 rfl (rdF_of ⟨(hX2.tr (k3.1.X i)).tr hX4, (by obtain ⟨q1, q2, q3⟩ := k3.2; exact ⟨q1, q2, (k4.1.2 40 (by omega) (by omega)).trans q3⟩), ⟨_, _, _, _, _, hf4⟩, [], k5⟩)
    · rw [rdP_S h2] at k2
      obtain ⟨b1_, b2_, b3_, b4_⟩ := rBt_S h2
      refine e_callVi (d1 := rr_Ar_readBetween) (As := [.int (nI 1), .int (nI 8)]) (st := []) dd_Ar_readMethodAndName_26 km_Ar_82 ((h24f _ (by omega)).trans h41) rfl (by decide) rfl (Nat.le_of_ble_eq_true rfl) (Nat.le_of_ble_eq_true rfl) rfl rfl (k2) (fun w3 k3 => ?_)
      refine e_istore_n (lv1 := [(0, .ref 40), (1, .ref (44 + 3 * i)), (2, .int (nI K))]) dd_Ar_readMethodAndName_29 (by decide) rfl ?_
      refine e_aload_n dd_Ar_readMethodAndName_30 rfl ?_
      have hfo := (k3.1.2 (44 + 3 * i) (by omega) (by omega)).trans h24v
      have hn3 := hn2.S40 k3.1 (by omega) (by omega)
      have hr := hn3.obj
      refine e_get dd_Ar_readMethodAndName_31 kf_Ar_34 hfo rfl ?_
      refine e_iconst_n 0 dd_Ar_readMethodAndName_34 (by decide) ?_
      refine e_callVv (d1 := rr_Row_cutTo) (As := [.int (nI 0)]) (st := []) dd_Ar_readMethodAndName_35 km_Ar_115 hr rfl (by decide) rfl (Nat.le_of_ble_eq_true rfl) (Nat.le_of_ble_eq_true rfl) rfl rfl (c_Row_cutTo hn3 (k := 0) (by decide)) (fun w4 k4 => ?_)
      have k5 := k4.2
      rw [List.take_zero] at k5
      have hX4 : rX w3 w4 i := ⟨k4.1.1, fun j h8 h9 => k4.1.2 j (by omega) (by omega)⟩
      have hf4 : fO w4 i (nI b1) a s n k := (k4.1.2 (44 + 3 * i) (by omega) (by omega)).trans hfo
      refine e_iconst_n 0 dd_Ar_readMethodAndName_38 (by decide) ?_
      refine e_istore_n (lv1 := [(0, .ref 40), (1, .ref (44 + 3 * i)), (2, .int (nI K)), (3, .int (nI 0))]) dd_Ar_readMethodAndName_39 (by decide) rfl ?_
      have h44 : aO w4 o en (cu + 2) li := (k4.1.2 40 (by omega) (by omega)).trans k3.2
      have him4 := (him2.S40 k3.1 (by decide) (by decide)).keep (k4.1.2 41 (by omega) (by omega)) (k4.1.2 42 (by omega) (by omega))
      have L := l_Ar_name (G := G) (w := w) hi hli (show K ≤ 8 from b4_) K 0 (cu + 2) w4 [] (by omega) rfl (by omega) ((hX2.tr (k3.1.X i)).tr hX4) h44 him4 hf4 k5
      dsimp only
      rcases h3 : rNm im li K (cu + 2) [] with e | nm
      · rw [rdP_F h3] at L
        exact L
      · rw [rdP_S h3] at L
        obtain ⟨n1, n2, n3⟩ := rNm_S _ _ _ h3
        simp only [List.length_nil, Nat.zero_add] at n1
        refine L.mono (fun v w5 h5 => ⟨?_, h5.2.1, ?_, h5.2.2.2.1, h5.2.2.2.2⟩)
        · rw [h5.1]
          dsimp only
          rw [n1]
        · dsimp only
          rw [n1]
          exact h5.2.2.1
end AR
