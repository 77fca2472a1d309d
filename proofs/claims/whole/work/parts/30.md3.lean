/-! The reference: copies, squeezing. -/
/-- the reference's copy length, its best distance -/
def cL (xs : List Nat) (p d : Nat) : Nat := if clen xs p d < 3 then 0 else clen xs p d
def cv (xs : List Nat) (p b : Nat) : Nat := if b = 0 then 0 else cL xs p b
def rB2 (xs : List Nat) (p : Nat) : Nat → Nat → Nat → Nat
  | 0, _, b => b
  | k + 1, d, b => rB2 xs p k (d + 1) (if cv xs p b < cL xs p d then d else b)
theorem clen_out {xs : List Nat} {p d : Nat} (h : p < d) : clen xs p d = 0 := by
  rw [clen, cl, if_neg (fun h9 => by omega)]
theorem rB2_out (xs : List Nat) (p : Nat) : ∀ k d b, p < d → rB2 xs p k d b = b
  | 0, _, _, _ => rfl
  | k + 1, d, b, h => by
    rw [rB2, if_neg (by rw [cL, clen_out h]; simp), rB2_out xs p k (d + 1) b (by omega)]
def rfix (b l : Nat) : Nat := if 3 ≤ l then b else 0
theorem rB2_bd (xs : List Nat) (p : Nat) : ∀ k d b l, 1 ≤ d → 1 ≤ b → l = clen xs p b → rB2 xs p k d (rfix b l) = rfix (bd xs p k d b l) (clen xs p (bd xs p k d b l))
  | 0, d, b, l, _, _, hl => by rw [rB2, bd, hl]
  | k + 1, d, b, l, hd, hb, hl => by
    have ecv : cv xs p (rfix b l) = if 3 ≤ l then l else 0 := by
      rw [cv, rfix]
      by_cases h3 : 3 ≤ l
      · rw [if_pos h3, if_neg (by omega), if_pos h3, cL, ← hl, if_neg (by omega)]
      · rw [if_neg h3, if_pos rfl, if_neg h3]
    rw [rB2, bd, ecv]
    by_cases hdp : d ≤ p
    · rw [if_pos hdp]
      by_cases h1 : l < clen xs p d
      · rw [if_pos h1, ← rB2_bd xs p k (d + 1) d (clen xs p d) (by omega) hd rfl]
        congr 1
        rw [cL, rfix, rfix]
        (repeat' split) <;> omega
      · rw [if_neg h1, ← rB2_bd xs p k (d + 1) b l (by omega) hb hl]
        congr 1
        rw [cL, rfix]
        (repeat' split) <;> omega
    · rw [if_neg hdp, ← hl]
      rw [if_neg (by rw [cL, clen_out (by omega)]; simp)]
      exact rB2_out xs p k (d + 1) _ (by omega)
theorem rB2_best (xs : List Nat) (p : Nat) : rB2 xs p 32 1 0 = rfix (best xs p) (clen xs p (best xs p)) := by
  by_cases hp : 1 ≤ p
  · by_cases h0 : clen xs p 1 = 0
    · have := rB2_bd xs p 32 1 1 0 (by decide) (by decide) h0.symm
      exact this
    · have e1 : best xs p = bd xs p 31 2 1 (clen xs p 1) := by
        rw [best, bd, if_pos hp, if_pos (by omega)]
      have e2 : rB2 xs p 32 1 0 = rB2 xs p 31 2 (rfix 1 (clen xs p 1)) := by
        rw [rB2, cv, if_pos rfl, cL, rfix]
        congr 1
        (repeat' split) <;> omega
      rw [e1, e2]
      exact rB2_bd xs p 31 2 1 _ (by decide) (by decide) rfl
  · have e1 : best xs p = 1 := by rw [best, bd, if_neg hp]
    rw [rB2_out xs p 32 1 0 (by omega), e1, clen_out (by omega)]
    rfl
/-- literals, a byte at a time -/
def lt2 (xs : List Nat) (f e : Nat) : Nat → Nat → List Nat
  | 0, _ => []
  | k + 1, i => (if (i - f) % 32 = 0 then [min 32 (e - i) - 1] else []) ++ (xs.getD i 0 :: lt2 xs f e k (i + 1))
theorem drop_cons {xs : List Nat} {i : Nat} (h : i < xs.length) : xs.drop i = xs.getD i 0 :: xs.drop (i + 1) := by
  rw [List.drop_eq_getElem_cons h, List.getD_eq_getElem?_getD, List.getElem?_eq_getElem h]
  rfl
theorem lt2_in (xs : List Nat) (f e : Nat) : ∀ n i k, (∀ t, t < n → (i + t - f) % 32 ≠ 0) → i + n ≤ xs.length → lt2 xs f e (n + k) i = (xs.drop i).take n ++ lt2 xs f e k (i + n)
  | 0, i, k, _, _ => by simp
  | n + 1, i, k, h, hl => by
    rw [show n + 1 + k = (n + k) + 1 by omega, lt2, if_neg (show ¬ (i - f) % 32 = 0 from h 0 (by omega)), List.nil_append, lt2_in xs f e n (i + 1) k (fun t ht => by have := h (t + 1) (by omega); rwa [show i + (t + 1) - f = i + 1 + t - f by omega] at this) (by omega), drop_cons (xs := xs) (i := i) (by omega), List.take_succ_cons, show i + 1 + n = i + (n + 1) by omega]
    rfl
theorem ltP_out (xs : List Nat) {e : Nat} : ∀ k i, e ≤ i → ltP xs e k i = []
  | 0, _, _ => rfl
  | k + 1, i, h => by rw [ltP, if_neg (by omega)]
theorem ltP_2 (xs : List Nat) {f e : Nat} (he : e ≤ xs.length) : ∀ k i, f ≤ i → (i - f) % 32 = 0 → e - i ≤ k → ltP xs e k i = lt2 xs f e (e - i) i
  | 0, i, _, _, h => by
    rw [show e - i = 0 by omega]; rfl
  | k + 1, i, hf, h0, h => by
    by_cases hi : i < e
    · rw [ltP, if_pos hi]
      have hm : 1 ≤ min 32 (e - i) ∧ min 32 (e - i) ≤ e - i ∧ min 32 (e - i) ≤ 32 := by omega
      have hm2 : min 32 (e - i) = 32 ∨ min 32 (e - i) = e - i := by omega
      have e3 : lt2 xs f e (e - i) i = (min 32 (e - i) - 1) :: xs.getD i 0 :: lt2 xs f e (e - i - 1) (i + 1) := by
        rw [show e - i = (e - i - 1) + 1 by omega, lt2, if_pos h0, show e - i - 1 + 1 = e - i by omega]
        rfl
      rw [e3]
      generalize min 32 (e - i) = m at hm hm2
      rw [show e - i - 1 = (m - 1) + (e - i - m) by omega, lt2_in xs f e (m - 1) (i + 1) (e - i - m) (fun t ht => by omega) (by omega), drop_cons (by omega : i < xs.length), show m = (m - 1) + 1 by omega, List.take_succ_cons, show m - 1 + 1 = m by omega, show i + 1 + (m - 1) = i + m by omega]
      congr 1
      rw [List.cons_append]
      congr 2
      rcases hm2 with h2 | h2
      · rw [h2, ltP_2 xs (f := f) he k (i + 32) (by omega) (by omega) (by omega), show e - i - 32 = e - (i + 32) by omega]
      · rw [show e - i - m = 0 by omega, ltP_out xs k (i + 32) (by omega)]
        rfl
    · rw [ltP, if_neg hi, show e - i = 0 by omega]; rfl
theorem lits_2 {xs : List Nat} {f e : Nat} (he : e ≤ xs.length) : lits xs f e = lt2 xs f e (e - f) f := ltP_2 xs he (e - f) f (by omega) (by simp) (by omega)
section MD
variable {G : ab_G} {w : ab_W} {nl dl fl ln md op pl tk rq : Int32} {xs ds : List Nat} {i : Nat} {f : FW}
set_option maxRecDepth 100000 in
set_option maxHeartbeats 4000000 in
theorem l_Md_copyLength {p d : Nat} (h : mO w nl dl fl ln md op pl tk rq) (hF : mFi w i f) (hp : p < 100000) (hd0 : d ≤ p) : ∀ k n, n + k = 34 → cl f.2.2 p d k n = clen f.2.2 p d → ab_E G mm_Md_copyLength rr_Md_copyLength 10 [(0, .ref 69), (1, .int (nI i)), (2, .int (nI p)), (3, .int (nI d)), (4, .int (nI n))] [] w (pP (nI (cL f.2.2 p d)) w) := by
  have h69 : w.1 69 = _ := h
  obtain ⟨hi6, hok, f72, f73, f74, f75, f76, ⟨h72, h73, h74, h75, h76⟩, hm, hn, hd, hnb, hdb⟩ := id hF
  have hl60 := hok.2.2.2.1
  have hby := hok.2.2.2.2.2
  intro k
  induction k with
  | zero =>
    intro n hn0 hR0
    refine e_iload dd_Md_copyLength_10 rfl ?_
    refine e_bipush_n 34 dd_Md_copyLength_12 (by decide) ?_
    refine e_icmp_ge_n (tgt := 59) dd_Md_copyLength_14 (by decide) (by omega) (by omega) (fun _ => ?_) (fun h9 => absurd h9 (by omega))
    have hR : n = clen f.2.2 p d := hR0
    refine e_iload dd_Md_copyLength_59 rfl ?_
    refine e_iconst_n 3 dd_Md_copyLength_61 (by decide) ?_
    refine e_icmp_ge_n (tgt := 69) dd_Md_copyLength_62 (by decide) (by omega) (by omega) (fun c62 => ?_) (fun c62 => ?_)
    · refine e_iload dd_Md_copyLength_69 rfl ?_
      exact e_iret dd_Md_copyLength_71 rfl (pP_of (by rw [cL, if_neg (by omega), hR]))
    · refine e_iconst_n 0 dd_Md_copyLength_65 (by decide) ?_
      refine e_goto (tgt := 71) dd_Md_copyLength_66 (by decide) ?_
      exact e_iret dd_Md_copyLength_71 rfl (pP_of (by rw [cL, if_pos (by omega)]))
  | succ k ih =>
    intro n hn0 hR0
    refine e_iload dd_Md_copyLength_10 rfl ?_
    refine e_bipush_n 34 dd_Md_copyLength_12 (by decide) ?_
    refine e_icmp_ge_n (tgt := 59) dd_Md_copyLength_14 (by decide) (by omega) (by omega) (fun h9 => absurd h9 (by omega)) (fun _ => ?_)
    refine e_iload_n dd_Md_copyLength_17 rfl ?_
    refine e_iload dd_Md_copyLength_18 rfl ?_
    refine e_iadd_n dd_Md_copyLength_20 ?_
    refine e_aload_n dd_Md_copyLength_21 rfl ?_
    refine e_get dd_Md_copyLength_22 kf_Md_25 h69 rfl ?_
    refine e_iload_n dd_Md_copyLength_25 rfl ?_
    refine e_iald dd_Md_copyLength_26 h75 rfl rfl (by omega) (by decide) ?_
    refine e_top (y := nI f.2.2.length) hd ?_
    refine e_icmp_ge_n (tgt := 59) dd_Md_copyLength_27 (by decide) (by omega) (by omega) (fun c27 => ?_) (fun c27 => ?_)
    · have hR : n = clen f.2.2 p d := by rw [cl, if_neg (fun h9 => by omega)] at hR0; exact hR0
      refine e_iload dd_Md_copyLength_59 rfl ?_
      refine e_iconst_n 3 dd_Md_copyLength_61 (by decide) ?_
      refine e_icmp_ge_n (tgt := 69) dd_Md_copyLength_62 (by decide) (by omega) (by omega) (fun c62 => ?_) (fun c62 => ?_)
      · refine e_iload dd_Md_copyLength_69 rfl ?_
        exact e_iret dd_Md_copyLength_71 rfl (pP_of (by rw [cL, if_neg (by omega), hR]))
      · refine e_iconst_n 0 dd_Md_copyLength_65 (by decide) ?_
        refine e_goto (tgt := 71) dd_Md_copyLength_66 (by decide) ?_
        exact e_iret dd_Md_copyLength_71 rfl (pP_of (by rw [cL, if_pos (by omega)]))
    · refine e_aload_n dd_Md_copyLength_30 rfl ?_
      refine e_iload_n dd_Md_copyLength_31 rfl ?_
      refine e_iload_n dd_Md_copyLength_32 rfl ?_
      refine e_iload dd_Md_copyLength_33 rfl ?_
      refine e_iadd_n dd_Md_copyLength_35 ?_
      refine e_callVp (d1 := rr_Md_byteOf) (As := [.int (nI i), .int (nI (p + n))]) (st := []) dd_Md_copyLength_36 km_Md_70 h69 rfl (by decide) rfl (Nat.le_of_ble_eq_true rfl) (Nat.le_of_ble_eq_true rfl) rfl rfl (c_Md_byteOfi h hF (by omega)) ?_
      refine e_aload_n dd_Md_copyLength_39 rfl ?_
      refine e_iload_n dd_Md_copyLength_40 rfl ?_
      refine e_iload_n dd_Md_copyLength_41 rfl ?_
      refine e_iload dd_Md_copyLength_42 rfl ?_
      refine e_iadd_n dd_Md_copyLength_44 ?_
      refine e_iload_n dd_Md_copyLength_45 rfl ?_
      refine e_isub_n dd_Md_copyLength_46 (by omega) ?_
      refine e_callVp (d1 := rr_Md_byteOf) (As := [.int (nI i), .int (nI (p + n - d))]) (st := [.int (nI (f.2.2.getD (p + n) 0))]) dd_Md_copyLength_47 km_Md_70 h69 rfl (by decide) rfl (Nat.le_of_ble_eq_true rfl) (Nat.le_of_ble_eq_true rfl) rfl rfl (c_Md_byteOfi h hF (by omega)) ?_
      have hb1 := getD_lt hby (j := p + n) (by omega)
      have hb2 := getD_lt hby (j := p + n - d) (by omega)
      refine e_icmp_ne_n (tgt := 59) dd_Md_copyLength_50 (by decide) (by omega) (by omega) (fun c50 => ?_) (fun c50 => ?_)
      · have hR : n = clen f.2.2 p d := by rw [cl, if_neg (fun h9 => c50 h9.2.2)] at hR0; exact hR0
        refine e_iload dd_Md_copyLength_59 rfl ?_
        refine e_iconst_n 3 dd_Md_copyLength_61 (by decide) ?_
        refine e_icmp_ge_n (tgt := 69) dd_Md_copyLength_62 (by decide) (by omega) (by omega) (fun c62 => ?_) (fun c62 => ?_)
        · refine e_iload dd_Md_copyLength_69 rfl ?_
          exact e_iret dd_Md_copyLength_71 rfl (pP_of (by rw [cL, if_neg (by omega), hR]))
        · refine e_iconst_n 0 dd_Md_copyLength_65 (by decide) ?_
          refine e_goto (tgt := 71) dd_Md_copyLength_66 (by decide) ?_
          exact e_iret dd_Md_copyLength_71 rfl (pP_of (by rw [cL, if_pos (by omega)]))
      · refine e_iinc_n (a := n) (k := 1) (lv1 := [(0, .ref 69), (1, .int (nI i)), (2, .int (nI p)), (3, .int (nI d)), (4, .int (nI (n + 1)))]) dd_Md_copyLength_53 rfl (by decide) (by decide) rfl ?_
        refine e_goto (tgt := 10) dd_Md_copyLength_56 (by decide) ?_
        rw [cl, if_pos ⟨by omega, by omega, c50⟩] at hR0
        exact ih (n + 1) (by omega) hR0
set_option maxRecDepth 100000 in
set_option maxHeartbeats 4000000 in
theorem c_Md_copyLength {p d : Nat} (h : mO w nl dl fl ln md op pl tk rq) (hF : mFi w i f) (hp : p < 100000) (hd0 : d < 100000) : ab_E G mm_Md_copyLength rr_Md_copyLength 0 [(0, .ref 69), (1, .int (nI i)), (2, .int (nI p)), (3, .int (nI d))] [] w (pP (nI (cL f.2.2 p d)) w) := by
  refine e_iconst_n 0 dd_Md_copyLength_0 (by decide) ?_
  refine e_istore (lv1 := [(0, .ref 69), (1, .int (nI i)), (2, .int (nI p)), (3, .int (nI d)), (4, .int (nI 0))]) dd_Md_copyLength_1 (by decide) rfl ?_
  refine e_iload_n dd_Md_copyLength_3 rfl ?_
  refine e_iload_n dd_Md_copyLength_4 rfl ?_
  refine e_icmp_le_n (tgt := 10) dd_Md_copyLength_5 (by decide) (by omega) (by omega) (fun c5 => ?_) (fun c5 => ?_)
  · exact l_Md_copyLength h hF hp c5 34 0 (by decide) rfl
  · refine e_iconst_n 0 dd_Md_copyLength_8 (by decide) ?_
    exact e_iret dd_Md_copyLength_9 rfl (pP_of (by rw [cL, clen_out c5]; rfl))
set_option maxRecDepth 100000 in
set_option maxHeartbeats 4000000 in
theorem l_Md_literals {a e : Nat} (hF : mFi w i f) (he : e ≤ f.2.2.length) (tot : List Nat) (htot : tot.length ≤ 400) : ∀ (k j : Nat) (w1 : ab_W) (acc : List Nat), j + k = e → a ≤ j → acc ++ lt2 f.2.2 a e k j = tot → rS w w1 69 81 → mO w1 nl dl fl ln md op pl tk (nI acc.length) → mA w1 81 400 acc → ab_E G mm_Md_literals rr_Md_literals 3 [(0, .ref 69), (1, .int (nI i)), (2, .int (nI a)), (3, .int (nI e)), (4, .int (nI j))] [] w1 (pV fun w2 => rS w w2 69 81 ∧ mO w2 nl dl fl ln md op pl tk (nI tot.length) ∧ mA w2 81 400 tot) := by
  intro k
  induction k with
  | zero =>
    intro j w1 acc hj ha ht hS h hA
    have hl60 := hF.2.1.2.2.2.1
    refine e_iload dd_Md_literals_3 rfl ?_
    refine e_iload_n dd_Md_literals_5 rfl ?_
    refine e_icmp_ge_n (tgt := 60) dd_Md_literals_6 (by decide) (by omega) (by omega) (fun _ => ?_) (fun h9 => absurd h9 (by omega))
    rw [lt2, List.append_nil] at ht
    subst ht
    exact e_vret dd_Md_literals_60 rfl (pV_of ⟨hS, h, hA⟩)
  | succ k ih =>
    intro j w1 acc hj ha ht hS h hA
    have hF := hF.fr hS (by decide)
    have h69 : w1.1 69 = _ := h
    obtain ⟨hi6, hok, f72, f73, f74, f75, f76, ⟨h72, h73, h74, h75, h76⟩, hm, hn, hd, hnb, hdb⟩ := id hF
    have hl60 := hok.2.2.2.1
    have hby := hok.2.2.2.2.2
    have hb := getD_lt hby (j := j) (by omega)
    rw [lt2] at ht
    refine e_iload dd_Md_literals_3 rfl ?_
    refine e_iload_n dd_Md_literals_5 rfl ?_
    refine e_icmp_ge_n (tgt := 60) dd_Md_literals_6 (by decide) (by omega) (by omega) (fun h9 => absurd h9 (by omega)) (fun _ => ?_)
    refine e_iload dd_Md_literals_9 rfl ?_
    refine e_iload_n dd_Md_literals_11 rfl ?_
    refine e_isub_n dd_Md_literals_12 (by omega) ?_
    refine e_bipush_n 32 dd_Md_literals_13 (by decide) ?_
    refine e_irem_n dd_Md_literals_15 (by omega) (by decide) (by decide) ?_
    refine e_if_ne_n (tgt := 43) dd_Md_literals_16 (by decide) (by omega) (fun c16 => ?_) (fun c16 => ?_)
    · rw [if_neg (by omega), List.nil_append] at ht
      have htl := congrArg List.length ht
      rw [List.length_append, List.length_cons] at htl
      refine e_aload_n dd_Md_literals_43 rfl ?_
      refine e_aload_n dd_Md_literals_44 rfl ?_
      refine e_iload_n dd_Md_literals_45 rfl ?_
      refine e_iload dd_Md_literals_46 rfl ?_
      refine e_callVp (d1 := rr_Md_byteOf) (As := [.int (nI i), .int (nI j)]) (st := [.ref 69]) dd_Md_literals_48 km_Md_70 h69 rfl (by decide) rfl (Nat.le_of_ble_eq_true rfl) (Nat.le_of_ble_eq_true rfl) rfl rfl (c_Md_byteOfi h hF (by omega)) ?_
      refine e_callVv (d1 := rr_Md_push) (As := [.int (nI (f.2.2.getD j 0))]) (st := []) dd_Md_literals_51 km_Md_74 h69 rfl (by decide) rfl (Nat.le_of_ble_eq_true rfl) (Nat.le_of_ble_eq_true rfl) rfl rfl (c_Md_push h hA hb (by omega)) (fun v2 k2 => ?_)
      refine e_iinc_n (a := j) (k := 1) (lv1 := [(0, .ref 69), (1, .int (nI i)), (2, .int (nI a)), (3, .int (nI e)), (4, .int (nI (j + 1)))]) dd_Md_literals_54 rfl (by decide) (by decide) rfl ?_
      refine e_goto (tgt := 3) dd_Md_literals_57 (by decide) ?_
      exact ih (j + 1) v2 (acc ++ [f.2.2.getD j 0]) (by omega) (by omega) (by rw [List.append_assoc]; exact ht) (hS.tr k2.1) k2.2.1 k2.2.2
    · rw [if_pos c16, ← List.append_assoc] at ht
      have htl := congrArg List.length ht
      simp only [List.length_append, List.length_cons, List.length_nil] at htl
      refine e_aload_n dd_Md_literals_19 rfl ?_
      refine e_iload_n dd_Md_literals_20 rfl ?_
      refine e_iload dd_Md_literals_21 rfl ?_
      refine e_isub_n dd_Md_literals_23 (by omega) ?_
      refine e_bipush_n 32 dd_Md_literals_24 (by decide) ?_
      refine e_icmp_ge_n (tgt := 38) dd_Md_literals_26 (by decide) (by omega) (by omega) (fun c26 => ?_) (fun c26 => ?_)
      · have em : min 32 (e - j) - 1 = 31 := by omega
        rw [em] at ht
        refine e_bipush_n 31 dd_Md_literals_38 (by decide) ?_
        refine e_callVv (d1 := rr_Md_push) (As := [.int (nI 31)]) (st := []) dd_Md_literals_40 km_Md_74 h69 rfl (by decide) rfl (Nat.le_of_ble_eq_true rfl) (Nat.le_of_ble_eq_true rfl) rfl rfl (c_Md_push h hA (by omega) (by omega)) (fun v1 k1 => ?_)
        obtain ⟨k0s, k0o, k0a⟩ := k1
        have h69b : v1.1 69 = _ := k0o
        have hla : (acc ++ [31]).length = acc.length + 1 := by simp
        refine e_aload_n dd_Md_literals_43 rfl ?_
        refine e_aload_n dd_Md_literals_44 rfl ?_
        refine e_iload_n dd_Md_literals_45 rfl ?_
        refine e_iload dd_Md_literals_46 rfl ?_
        refine e_callVp (d1 := rr_Md_byteOf) (As := [.int (nI i), .int (nI j)]) (st := [.ref 69]) dd_Md_literals_48 km_Md_70 h69b rfl (by decide) rfl (Nat.le_of_ble_eq_true rfl) (Nat.le_of_ble_eq_true rfl) rfl rfl (c_Md_byteOfi k0o (hF.fr k0s (by decide)) (by omega)) ?_
        refine e_callVv (d1 := rr_Md_push) (As := [.int (nI (f.2.2.getD j 0))]) (st := []) dd_Md_literals_51 km_Md_74 h69b rfl (by decide) rfl (Nat.le_of_ble_eq_true rfl) (Nat.le_of_ble_eq_true rfl) rfl rfl (c_Md_push k0o k0a hb (by omega)) (fun v2 k2 => ?_)
        refine e_iinc_n (a := j) (k := 1) (lv1 := [(0, .ref 69), (1, .int (nI i)), (2, .int (nI a)), (3, .int (nI e)), (4, .int (nI (j + 1)))]) dd_Md_literals_54 rfl (by decide) (by decide) rfl ?_
        refine e_goto (tgt := 3) dd_Md_literals_57 (by decide) ?_
        exact ih (j + 1) v2 ((acc ++ [31]) ++ [f.2.2.getD j 0]) (by omega) (by omega) (by rw [List.append_assoc]; exact ht) ((hS.tr k0s).tr k2.1) k2.2.1 k2.2.2
      · have em : min 32 (e - j) - 1 = e - j - 1 := by omega
        rw [em] at ht
        refine e_iload_n dd_Md_literals_29 rfl ?_
        refine e_iload dd_Md_literals_30 rfl ?_
        refine e_isub_n dd_Md_literals_32 (by omega) ?_
        refine e_iconst_n 1 dd_Md_literals_33 (by decide) ?_
        refine e_isub_n dd_Md_literals_34 (by omega) ?_
        refine e_goto (tgt := 40) dd_Md_literals_35 (by decide) ?_
        refine e_callVv (d1 := rr_Md_push) (As := [.int (nI ((e - j) - 1))]) (st := []) dd_Md_literals_40 km_Md_74 h69 rfl (by decide) rfl (Nat.le_of_ble_eq_true rfl) (Nat.le_of_ble_eq_true rfl) rfl rfl (c_Md_push h hA (by omega) (by omega)) (fun v1 k1 => ?_)
        obtain ⟨k0s, k0o, k0a⟩ := k1
        have h69b : v1.1 69 = _ := k0o
        have hla : (acc ++ [e - j - 1]).length = acc.length + 1 := by simp
        refine e_aload_n dd_Md_literals_43 rfl ?_
        refine e_aload_n dd_Md_literals_44 rfl ?_
        refine e_iload_n dd_Md_literals_45 rfl ?_
        refine e_iload dd_Md_literals_46 rfl ?_
        refine e_callVp (d1 := rr_Md_byteOf) (As := [.int (nI i), .int (nI j)]) (st := [.ref 69]) dd_Md_literals_48 km_Md_70 h69b rfl (by decide) rfl (Nat.le_of_ble_eq_true rfl) (Nat.le_of_ble_eq_true rfl) rfl rfl (c_Md_byteOfi k0o (hF.fr k0s (by decide)) (by omega)) ?_
        refine e_callVv (d1 := rr_Md_push) (As := [.int (nI (f.2.2.getD j 0))]) (st := []) dd_Md_literals_51 km_Md_74 h69b rfl (by decide) rfl (Nat.le_of_ble_eq_true rfl) (Nat.le_of_ble_eq_true rfl) rfl rfl (c_Md_push k0o k0a hb (by omega)) (fun v2 k2 => ?_)
        refine e_iinc_n (a := j) (k := 1) (lv1 := [(0, .ref 69), (1, .int (nI i)), (2, .int (nI a)), (3, .int (nI e)), (4, .int (nI (j + 1)))]) dd_Md_literals_54 rfl (by decide) (by decide) rfl ?_
        refine e_goto (tgt := 3) dd_Md_literals_57 (by decide) ?_
        exact ih (j + 1) v2 ((acc ++ [e - j - 1]) ++ [f.2.2.getD j 0]) (by omega) (by omega) (by rw [List.append_assoc]; exact ht) ((hS.tr k0s).tr k2.1) k2.2.1 k2.2.2
set_option maxRecDepth 100000 in
set_option maxHeartbeats 4000000 in
theorem c_Md_literals {a e : Nat} {acc : List Nat} (h : mO w nl dl fl ln md op pl tk (nI acc.length)) (hA : mA w 81 400 acc) (hF : mFi w i f) (he : e ≤ f.2.2.length) (ha : a ≤ e) (hl : (acc ++ lits f.2.2 a e).length ≤ 400) : ab_E G mm_Md_literals rr_Md_literals 0 [(0, .ref 69), (1, .int (nI i)), (2, .int (nI a)), (3, .int (nI e))] [] w (pV fun w2 => rS w w2 69 81 ∧ mO w2 nl dl fl ln md op pl tk (nI (acc ++ lits f.2.2 a e).length) ∧ mA w2 81 400 (acc ++ lits f.2.2 a e)) := by
  refine e_iload_n dd_Md_literals_0 rfl ?_
  refine e_istore (lv1 := [(0, .ref 69), (1, .int (nI i)), (2, .int (nI a)), (3, .int (nI e)), (4, .int (nI a))]) dd_Md_literals_1 (by decide) rfl ?_
  exact l_Md_literals hF he _ hl (e - a) a w acc (by omega) (by omega) (by rw [lits_2 he]) rS.rf h hA
theorem cL_lt {xs : List Nat} {p d : Nat} : cL xs p d ≤ 34 := by
  have h1 := (cl_le xs p d 34 0).2.1
  rw [cL, clen]
  split <;> omega
theorem cv_lt {xs : List Nat} {p d : Nat} : cv xs p d ≤ 34 := by
  rw [cv]
  split
  · omega
  · exact cL_lt
set_option maxRecDepth 100000 in
set_option maxHeartbeats 4000000 in
theorem l_Md_best {p a : Nat} {P : Option Value → ab_W → Prop} (h : mO w nl dl fl ln md op pl tk rq) (hF : mFi w i f) (hp : p < 100000) (R : Nat) (K : ab_E G mm_Md_copies rr_Md_copies 65 [(0, .ref 69), (1, .int (nI i)), (2, .int (nI p)), (3, .int (nI a)), (4, .int (nI R)), (5, .int (nI 33))] [] w P) : ∀ k d b, d + k = 33 → b ≤ 32 → rB2 f.2.2 p k d b = R → ab_E G mm_Md_copies rr_Md_copies 20 [(0, .ref 69), (1, .int (nI i)), (2, .int (nI p)), (3, .int (nI a)), (4, .int (nI b)), (5, .int (nI d))] [] w P := by
  have h69 : w.1 69 = _ := h
  intro k
  induction k with
  | zero =>
    intro d b hk hb hR
    have e0 : d = 33 := by omega
    subst e0
    cases (show b = R from hR)
    refine e_iload dd_Md_copies_20 rfl ?_
    refine e_bipush_n 32 dd_Md_copies_22 (by decide) ?_
    refine e_icmp_gt_n (tgt := 65) dd_Md_copies_24 (by decide) (by omega) (by omega) (fun _ => ?_) (fun h9 => absurd h9 (by decide))
    exact K
  | succ k ih =>
    intro d b hk hb hR
    rw [rB2] at hR
    have hc1 := cL_lt (xs := f.2.2) (p := p) (d := d)
    have hc2 := cL_lt (xs := f.2.2) (p := p) (d := b)
    refine e_iload dd_Md_copies_20 rfl ?_
    refine e_bipush_n 32 dd_Md_copies_22 (by decide) ?_
    refine e_icmp_gt_n (tgt := 65) dd_Md_copies_24 (by decide) (by omega) (by omega) (fun h9 => absurd h9 (by omega)) (fun _ => ?_)
    refine e_aload_n dd_Md_copies_27 rfl ?_
    refine e_iload_n dd_Md_copies_28 rfl ?_
    refine e_iload_n dd_Md_copies_29 rfl ?_
    refine e_iload dd_Md_copies_30 rfl ?_
    refine e_callVp (d1 := rr_Md_copyLength) (As := [.int (nI i), .int (nI p), .int (nI d)]) (st := []) dd_Md_copies_32 km_Md_78 h69 rfl (by decide) rfl (Nat.le_of_ble_eq_true rfl) (Nat.le_of_ble_eq_true rfl) rfl rfl (c_Md_copyLength h hF hp (by omega)) ?_
    refine e_iload dd_Md_copies_35 rfl ?_
    refine e_if_ne_n (tgt := 44) dd_Md_copies_37 (by decide) (by omega) (fun c37 => ?_) (fun c37 => ?_)
    · refine e_aload_n dd_Md_copies_44 rfl ?_
      refine e_iload_n dd_Md_copies_45 rfl ?_
      refine e_iload_n dd_Md_copies_46 rfl ?_
      refine e_iload dd_Md_copies_47 rfl ?_
      refine e_callVp (d1 := rr_Md_copyLength) (As := [.int (nI i), .int (nI p), .int (nI b)]) (st := [.int (nI (cL f.2.2 p d))]) dd_Md_copies_49 km_Md_78 h69 rfl (by decide) rfl (Nat.le_of_ble_eq_true rfl) (Nat.le_of_ble_eq_true rfl) rfl rfl (c_Md_copyLength h hF hp (by omega)) ?_
      have ec : cv f.2.2 p b = cL f.2.2 p b := by rw [cv, if_neg (by omega)]
      rw [ec] at hR
      refine e_icmp_le_n (tgt := 59) dd_Md_copies_52 (by decide) (by omega) (by omega) (fun c52 => ?_) (fun c52 => ?_)
      · refine e_iinc_n (a := d) (k := 1) (lv1 := [(0, .ref 69), (1, .int (nI i)), (2, .int (nI p)), (3, .int (nI a)), (4, .int (nI b)), (5, .int (nI (d + 1)))]) dd_Md_copies_59 rfl (by decide) (by decide) rfl ?_
        refine e_goto (tgt := 20) dd_Md_copies_62 (by decide) ?_
        rw [if_neg (by omega)] at hR
        exact ih (d + 1) b (by omega) hb hR
      · refine e_iload dd_Md_copies_55 rfl ?_
        refine e_istore (lv1 := [(0, .ref 69), (1, .int (nI i)), (2, .int (nI p)), (3, .int (nI a)), (4, .int (nI d)), (5, .int (nI d))]) dd_Md_copies_57 (by decide) rfl ?_
        refine e_iinc_n (a := d) (k := 1) (lv1 := [(0, .ref 69), (1, .int (nI i)), (2, .int (nI p)), (3, .int (nI a)), (4, .int (nI d)), (5, .int (nI (d + 1)))]) dd_Md_copies_59 rfl (by decide) (by decide) rfl ?_
        refine e_goto (tgt := 20) dd_Md_copies_62 (by decide) ?_
        rw [if_pos (by omega)] at hR
        exact ih (d + 1) d (by omega) (by omega) hR
    · refine e_iconst_n 0 dd_Md_copies_40 (by decide) ?_
      refine e_goto (tgt := 52) dd_Md_copies_41 (by decide) ?_
      have ec : cv f.2.2 p b = 0 := by rw [cv, if_pos c37]
      rw [ec] at hR
      refine e_icmp_le_n (tgt := 59) dd_Md_copies_52 (by decide) (by omega) (by omega) (fun c52 => ?_) (fun c52 => ?_)
      · refine e_iinc_n (a := d) (k := 1) (lv1 := [(0, .ref 69), (1, .int (nI i)), (2, .int (nI p)), (3, .int (nI a)), (4, .int (nI b)), (5, .int (nI (d + 1)))]) dd_Md_copies_59 rfl (by decide) (by decide) rfl ?_
        refine e_goto (tgt := 20) dd_Md_copies_62 (by decide) ?_
        rw [if_neg (by omega)] at hR
        exact ih (d + 1) b (by omega) hb hR
      · refine e_iload dd_Md_copies_55 rfl ?_
        refine e_istore (lv1 := [(0, .ref 69), (1, .int (nI i)), (2, .int (nI p)), (3, .int (nI a)), (4, .int (nI d)), (5, .int (nI d))]) dd_Md_copies_57 (by decide) rfl ?_
        refine e_iinc_n (a := d) (k := 1) (lv1 := [(0, .ref 69), (1, .int (nI i)), (2, .int (nI p)), (3, .int (nI a)), (4, .int (nI d)), (5, .int (nI (d + 1)))]) dd_Md_copies_59 rfl (by decide) (by decide) rfl ?_
        refine e_goto (tgt := 20) dd_Md_copies_62 (by decide) ?_
        rw [if_pos (by omega)] at hR
        exact ih (d + 1) d (by omega) (by omega) hR
set_option maxRecDepth 100000 in
set_option maxHeartbeats 4000000 in
theorem l_Md_copies (hF : mFi w i f) (tot : List Nat) (htot : tot.length ≤ 400) : ∀ (k p a : Nat) (w1 : ab_W) (acc : List Nat), f.2.2.length ≤ p + k → acc ++ cpF f.2.2 k p a = tot → p ≤ f.2.2.length → a ≤ p → rS w w1 69 81 → mO w1 nl dl fl ln md op pl tk (nI acc.length) → mA w1 81 400 acc → ab_E G mm_Md_copies rr_Md_copies 4 [(0, .ref 69), (1, .int (nI i)), (2, .int (nI p)), (3, .int (nI a))] [] w1 (pV fun w2 => rS w w2 69 81 ∧ mO w2 nl dl fl ln md op pl tk (nI tot.length) ∧ mA w2 81 400 tot) := by
  intro k
  induction k with
  | zero =>
    intro p a w1 acc hk ht hp ha hS h hA
    have hF := hF.fr hS (by decide)
    rw [cpF] at ht
    have h69 : w1.1 69 = _ := h
    obtain ⟨hi6, hok, f72, f73, f74, f75, f76, ⟨h72, h73, h74, h75, h76⟩, hm, hn, hd, hnb, hdb⟩ := id hF
    have hl60 := hok.2.2.2.1
    have hby := hok.2.2.2.2.2
    refine e_iload_n dd_Md_copies_4 rfl ?_
    refine e_aload_n dd_Md_copies_5 rfl ?_
    refine e_get dd_Md_copies_6 kf_Md_25 h69 rfl ?_
    refine e_iload_n dd_Md_copies_9 rfl ?_
    refine e_iald dd_Md_copies_10 h75 rfl rfl (by omega) (by decide) ?_
    refine e_top (y := nI f.2.2.length) hd ?_
    refine e_icmp_ge_n (tgt := 120) dd_Md_copies_11 (by decide) (by omega) (by omega) (fun _ => ?_) (fun h9 => absurd h9 (by omega))
    refine e_aload_n dd_Md_copies_120 rfl ?_
    refine e_iload_n dd_Md_copies_121 rfl ?_
    refine e_iload_n dd_Md_copies_122 rfl ?_
    refine e_iload_n dd_Md_copies_123 rfl ?_
    refine e_callVv (d1 := rr_Md_literals) (As := [.int (nI i), .int (nI a), .int (nI p)]) (st := []) dd_Md_copies_124 km_Md_82 h69 rfl (by decide) rfl (Nat.le_of_ble_eq_true rfl) (Nat.le_of_ble_eq_true rfl) rfl rfl (c_Md_literals h hA hF hp ha (by rw [ht]; exact htot)) (fun v1 k1 => ?_)
    rw [ht] at k1
    exact e_vret dd_Md_copies_127 rfl (pV_of ⟨hS.tr k1.1, k1.2⟩)
  | succ k ih =>
    intro p a w1 acc hk ht hp ha hS h hA
    have hF := hF.fr hS (by decide)
    rw [cpF] at ht
    have h69 : w1.1 69 = _ := h
    obtain ⟨hi6, hok, f72, f73, f74, f75, f76, ⟨h72, h73, h74, h75, h76⟩, hm, hn, hd, hnb, hdb⟩ := id hF
    have hl60 := hok.2.2.2.1
    have hby := hok.2.2.2.2.2
    refine e_iload_n dd_Md_copies_4 rfl ?_
    refine e_aload_n dd_Md_copies_5 rfl ?_
    refine e_get dd_Md_copies_6 kf_Md_25 h69 rfl ?_
    refine e_iload_n dd_Md_copies_9 rfl ?_
    refine e_iald dd_Md_copies_10 h75 rfl rfl (by omega) (by decide) ?_
    refine e_top (y := nI f.2.2.length) hd ?_
    refine e_icmp_ge_n (tgt := 120) dd_Md_copies_11 (by decide) (by omega) (by omega) (fun c11 => ?_) (fun c11 => ?_)
    · rw [if_neg (by omega)] at ht
      refine e_aload_n dd_Md_copies_120 rfl ?_
      refine e_iload_n dd_Md_copies_121 rfl ?_
      refine e_iload_n dd_Md_copies_122 rfl ?_
      refine e_iload_n dd_Md_copies_123 rfl ?_
      refine e_callVv (d1 := rr_Md_literals) (As := [.int (nI i), .int (nI a), .int (nI p)]) (st := []) dd_Md_copies_124 km_Md_82 h69 rfl (by decide) rfl (Nat.le_of_ble_eq_true rfl) (Nat.le_of_ble_eq_true rfl) rfl rfl (c_Md_literals h hA hF hp ha (by rw [ht]; exact htot)) (fun v1 k1 => ?_)
      rw [ht] at k1
      exact e_vret dd_Md_copies_127 rfl (pV_of ⟨hS.tr k1.1, k1.2⟩)
    · rw [if_pos c11] at ht
      have hcl := cl_le f.2.2 p (best f.2.2 p) 34 0
      have hcl2 : clen f.2.2 p (best f.2.2 p) ≤ 34 ∧ p + clen f.2.2 p (best f.2.2 p) ≤ f.2.2.length := ⟨hcl.2.1, hcl.2.2 (by omega)⟩
      have hbi := best_in f.2.2 p
      have eB := rB2_best f.2.2 p
      have eL : cL f.2.2 p (best f.2.2 p) = if clen f.2.2 p (best f.2.2 p) < 3 then 0 else clen f.2.2 p (best f.2.2 p) := rfl
      refine e_iconst_n 0 dd_Md_copies_14 (by decide) ?_
      refine e_istore (lv1 := [(0, .ref 69), (1, .int (nI i)), (2, .int (nI p)), (3, .int (nI a)), (4, .int (nI 0))]) dd_Md_copies_15 (by decide) rfl ?_
      refine e_iconst_n 1 dd_Md_copies_17 (by decide) ?_
      refine e_istore (lv1 := [(0, .ref 69), (1, .int (nI i)), (2, .int (nI p)), (3, .int (nI a)), (4, .int (nI 0)), (5, .int (nI 1))]) dd_Md_copies_18 (by decide) rfl ?_
      by_cases c3 : 3 ≤ clen f.2.2 p (best f.2.2 p)
      · rw [if_pos c3] at ht
        rw [rfix, if_pos c3] at eB
        rw [if_neg (by omega)] at eL
        generalize best f.2.2 p = b at ht hcl hcl2 hbi eB eL c3
        generalize clen f.2.2 p b = n at ht hcl2 eL c3
        refine l_Md_best h hF (by omega) b ?_ 32 1 0 (by decide) (by decide) eB
        refine e_iload dd_Md_copies_65 rfl ?_
        refine e_if_ne_n (tgt := 76) dd_Md_copies_67 (by decide) (by omega) (fun _ => ?_) (fun h9 => absurd h9 (by omega))
        refine e_aload_n dd_Md_copies_76 rfl ?_
        refine e_iload_n dd_Md_copies_77 rfl ?_
        refine e_iload_n dd_Md_copies_78 rfl ?_
        refine e_iload dd_Md_copies_79 rfl ?_
        refine e_callVp (d1 := rr_Md_copyLength) (As := [.int (nI i), .int (nI p), .int (nI b)]) (st := []) dd_Md_copies_81 km_Md_78 h69 rfl (by decide) rfl (Nat.le_of_ble_eq_true rfl) (Nat.le_of_ble_eq_true rfl) rfl rfl (c_Md_copyLength h hF (by omega) (by omega)) ?_
        refine e_top (y := nI n) (congrArg nI eL) ?_
        refine e_istore (lv1 := [(0, .ref 69), (1, .int (nI i)), (2, .int (nI p)), (3, .int (nI a)), (4, .int (nI b)), (5, .int (nI n))]) dd_Md_copies_84 (by decide) rfl ?_
        refine e_aload_n dd_Md_copies_86 rfl ?_
        refine e_iload_n dd_Md_copies_87 rfl ?_
        refine e_iload_n dd_Md_copies_88 rfl ?_
        refine e_iload_n dd_Md_copies_89 rfl ?_
        have htl := congrArg List.length ht
        rw [List.length_append, List.length_append, List.length_append] at htl
        have hl2 : [29 + n, b - 1].length = 2 := rfl
        refine e_callVv (d1 := rr_Md_literals) (As := [.int (nI i), .int (nI a), .int (nI p)]) (st := []) dd_Md_copies_90 km_Md_82 h69 rfl (by decide) rfl (Nat.le_of_ble_eq_true rfl) (Nat.le_of_ble_eq_true rfl) rfl rfl (c_Md_literals h hA hF hp ha (by rw [List.length_append]; omega)) (fun v1 k1 => ?_)
        obtain ⟨k1s, k1o, k1a⟩ := k1
        have hla : (acc ++ lits f.2.2 a p).length = acc.length + (lits f.2.2 a p).length := List.length_append
        generalize hac : acc ++ lits f.2.2 a p = ac at k1o k1a hla
        have h69b : v1.1 69 = _ := k1o
        refine e_aload_n dd_Md_copies_93 rfl ?_
        refine e_bipush_n 29 dd_Md_copies_94 (by decide) ?_
        refine e_iload dd_Md_copies_96 rfl ?_
        refine e_iadd_n dd_Md_copies_98 ?_
        refine e_callVv (d1 := rr_Md_push) (As := [.int (nI (29 + n))]) (st := []) dd_Md_copies_99 km_Md_74 h69b rfl (by decide) rfl (Nat.le_of_ble_eq_true rfl) (Nat.le_of_ble_eq_true rfl) rfl rfl (c_Md_push k1o k1a (by omega) (by omega)) (fun v2 k2 => ?_)
        obtain ⟨k2s, k2o, k2a⟩ := k2
        have h69c : v2.1 69 = _ := k2o
        have hlb : (ac ++ [29 + n]).length = ac.length + 1 := by simp
        refine e_aload_n dd_Md_copies_102 rfl ?_
        refine e_iload dd_Md_copies_103 rfl ?_
        refine e_iconst_n 1 dd_Md_copies_105 (by decide) ?_
        refine e_isub_n dd_Md_copies_106 (by omega) ?_
        refine e_callVv (d1 := rr_Md_push) (As := [.int (nI (b - 1))]) (st := []) dd_Md_copies_107 km_Md_74 h69c rfl (by decide) rfl (Nat.le_of_ble_eq_true rfl) (Nat.le_of_ble_eq_true rfl) rfl rfl (c_Md_push k2o k2a (by omega) (by omega)) (fun v3 k3 => ?_)
        refine e_iload_n dd_Md_copies_110 rfl ?_
        refine e_iload dd_Md_copies_111 rfl ?_
        refine e_iadd_n dd_Md_copies_113 ?_
        refine e_istore_n (lv1 := [(0, .ref 69), (1, .int (nI i)), (2, .int (nI (p + n))), (3, .int (nI a)), (4, .int (nI b)), (5, .int (nI n))]) dd_Md_copies_114 (by decide) rfl ?_
        refine e_iload_n dd_Md_copies_115 rfl ?_
        refine e_istore_n (lv1 := [(0, .ref 69), (1, .int (nI i)), (2, .int (nI (p + n))), (3, .int (nI (p + n))), (4, .int (nI b)), (5, .int (nI n))]) dd_Md_copies_116 (by decide) rfl ?_
        refine e_goto (tgt := 4) dd_Md_copies_117 (by decide) ?_
        refine e_rm (lv1 := [(0, .ref 69), (1, .int (nI i)), (2, .int (nI (p + n))), (3, .int (nI (p + n))), (4, .int (nI b))]) 5 rfl ?_
        refine e_rm (lv1 := [(0, .ref 69), (1, .int (nI i)), (2, .int (nI (p + n))), (3, .int (nI (p + n)))]) 4 rfl ?_
        obtain ⟨k3s, k3o, k3a⟩ := k3
        exact ih (p + n) (p + n) v3 (ac ++ [29 + n] ++ [b - 1]) (by omega) (by rw [← ht, ← hac]; simp) (by omega) (by omega) (hS.tr (k1s.tr (k2s.tr k3s))) k3o k3a
      · rw [if_neg c3] at ht
        rw [rfix, if_neg c3] at eB
        refine l_Md_best h hF (by omega) 0 ?_ 32 1 0 (by decide) (by decide) eB
        refine e_iload dd_Md_copies_65 rfl ?_
        refine e_if_ne_n (tgt := 76) dd_Md_copies_67 (by decide) (by omega) (fun h9 => absurd h9 (by decide)) (fun _ => ?_)
        refine e_iinc_n (a := p) (k := 1) (lv1 := [(0, .ref 69), (1, .int (nI i)), (2, .int (nI (p + 1))), (3, .int (nI a)), (4, .int (nI 0)), (5, .int (nI 33))]) dd_Md_copies_70 rfl (by decide) (by decide) rfl ?_
        refine e_goto (tgt := 4) dd_Md_copies_73 (by decide) ?_
        refine e_rm (lv1 := [(0, .ref 69), (1, .int (nI i)), (2, .int (nI (p + 1))), (3, .int (nI a)), (4, .int (nI 0))]) 5 rfl ?_
        refine e_rm (lv1 := [(0, .ref 69), (1, .int (nI i)), (2, .int (nI (p + 1))), (3, .int (nI a))]) 4 rfl ?_
        exact ih (p + 1) a w1 acc (by omega) ht (by omega) (by omega) hS h hA
set_option maxRecDepth 100000 in
set_option maxHeartbeats 4000000 in
theorem c_Md_copies (h : mO w nl dl fl ln md op pl tk (nI 0)) (hA : mA w 81 400 []) (hF : mFi w i f) (hl : (copies f.2.2).length ≤ 400) : ab_E G mm_Md_copies rr_Md_copies 0 [(0, .ref 69), (1, .int (nI i))] [] w (pV fun w2 => rS w w2 69 81 ∧ mO w2 nl dl fl ln md op pl tk (nI (copies f.2.2).length) ∧ mA w2 81 400 (copies f.2.2)) := by
  refine e_iconst_n 0 dd_Md_copies_0 (by decide) ?_
  refine e_istore_n (lv1 := [(0, .ref 69), (1, .int (nI i)), (2, .int (nI 0))]) dd_Md_copies_1 (by decide) rfl ?_
  refine e_iconst_n 0 dd_Md_copies_2 (by decide) ?_
  refine e_istore_n (lv1 := [(0, .ref 69), (1, .int (nI i)), (2, .int (nI 0)), (3, .int (nI 0))]) dd_Md_copies_3 (by decide) rfl ?_
  exact l_Md_copies hF _ hl f.2.2.length 0 0 w [] (by omega) rfl (by omega) (by omega) rS.rf h hA
set_option maxRecDepth 100000 in
set_option maxHeartbeats 4000000 in
theorem l_Md_squeeze (hF : mFi w i f) : ∀ (k j : Nat) (w1 : ab_W), j + k = f.2.2.length → mO w1 nl dl fl ln md op pl tk (nI (f.2.2.take j).length) → mA w1 81 400 (f.2.2.take j) → rS w w1 69 81 → ab_E G mm_Md_squeeze rr_Md_squeeze 43 [(0, .ref 69), (1, .int (nI i)), (2, .int (nI j))] [] w1 (pV fun w2 => rS w w2 69 81 ∧ mO w2 nl dl fl ln md op pl tk (nI f.2.2.length) ∧ mA w2 81 400 f.2.2) := by
  intro k
  induction k with
  | zero =>
    intro j w1 hj h hA hS
    have hF := hF.fr hS (by decide)
    have e0 : f.2.2.take j = f.2.2 := List.take_of_length_le (by omega)
    have h69 : w1.1 69 = _ := h
    obtain ⟨hi6, hok, f72, f73, f74, f75, f76, ⟨h72, h73, h74, h75, h76⟩, hm, hn, hd, hnb, hdb⟩ := id hF
    have hl60 := hok.2.2.2.1
    have hby := hok.2.2.2.2.2
    refine e_iload_n dd_Md_squeeze_43 rfl ?_
    refine e_aload_n dd_Md_squeeze_44 rfl ?_
    refine e_get dd_Md_squeeze_45 kf_Md_25 h69 rfl ?_
    refine e_iload_n dd_Md_squeeze_48 rfl ?_
    refine e_iald dd_Md_squeeze_49 h75 rfl rfl (by omega) (by decide) ?_
    refine e_top (y := nI f.2.2.length) hd ?_
    refine e_icmp_ge_n (tgt := 69) dd_Md_squeeze_50 (by decide) (by omega) (by omega) (fun _ => ?_) (fun h9 => absurd h9 (by omega))
    rw [e0] at h hA
    exact e_vret dd_Md_squeeze_69 rfl (pV_of ⟨hS, h, hA⟩)
  | succ k ih =>
    intro j w1 hj h hA hS
    have hF := hF.fr hS (by decide)
    have h69 : w1.1 69 = _ := h
    obtain ⟨hi6, hok, f72, f73, f74, f75, f76, ⟨h72, h73, h74, h75, h76⟩, hm, hn, hd, hnb, hdb⟩ := id hF
    have hl60 := hok.2.2.2.1
    have hby := hok.2.2.2.2.2
    have hjl : j < f.2.2.length := by omega
    refine e_iload_n dd_Md_squeeze_43 rfl ?_
    refine e_aload_n dd_Md_squeeze_44 rfl ?_
    refine e_get dd_Md_squeeze_45 kf_Md_25 h69 rfl ?_
    refine e_iload_n dd_Md_squeeze_48 rfl ?_
    refine e_iald dd_Md_squeeze_49 h75 rfl rfl (by omega) (by decide) ?_
    refine e_top (y := nI f.2.2.length) hd ?_
    refine e_icmp_ge_n (tgt := 69) dd_Md_squeeze_50 (by decide) (by omega) (by omega) (fun h9 => absurd h9 (by omega)) (fun _ => ?_)
    refine e_aload_n dd_Md_squeeze_53 rfl ?_
    refine e_aload_n dd_Md_squeeze_54 rfl ?_
    refine e_iload_n dd_Md_squeeze_55 rfl ?_
    refine e_iload_n dd_Md_squeeze_56 rfl ?_
    refine e_callVp (d1 := rr_Md_byteOf) (As := [.int (nI i), .int (nI j)]) (st := [.ref 69]) dd_Md_squeeze_57 km_Md_70 h69 rfl (by decide) rfl (Nat.le_of_ble_eq_true rfl) (Nat.le_of_ble_eq_true rfl) rfl rfl (c_Md_byteOfi h hF hjl) ?_
    refine e_callVv (d1 := rr_Md_push) (As := [.int (nI (f.2.2.getD j 0))]) (st := []) dd_Md_squeeze_60 km_Md_74 h69 rfl (by decide) rfl (Nat.le_of_ble_eq_true rfl) (Nat.le_of_ble_eq_true rfl) rfl rfl (c_Md_push h hA (getD_lt hby hjl) (by rw [List.length_take]; omega)) (fun v1 k1 => ?_)
    refine e_iinc_n (a := j) (k := 1) (lv1 := [(0, .ref 69), (1, .int (nI i)), (2, .int (nI (j + 1)))]) dd_Md_squeeze_63 rfl (by decide) (by decide) rfl ?_
    refine e_goto (tgt := 43) dd_Md_squeeze_66 (by decide) ?_
    have e1 : f.2.2.take j ++ [f.2.2.getD j 0] = f.2.2.take (j + 1) := by
      rw [take_snoc (f := f.2.2.getD j 0) (by rw [List.getD_eq_getElem?_getD, List.getElem?_eq_getElem hjl]; rfl)]
    rw [e1] at k1
    exact ih (j + 1) v1 (by omega) k1.2.1 k1.2.2 (hS.tr k1.1)
set_option maxRecDepth 100000 in
set_option maxHeartbeats 4000000 in
theorem c_Md_squeeze (h : mO w nl dl fl ln md op pl tk rq) (hA : mA w 81 400 xs) (hF : mFi w i f) : ab_E G mm_Md_squeeze rr_Md_squeeze 0 [(0, .ref 69), (1, .int (nI i))] [] w (pV fun w2 => rS w w2 69 81 ∧ mO w2 nl dl fl ln md op pl tk (nI (fsq f).length) ∧ mA w2 81 400 (fsq f)) := by
  have h69 : w.1 69 = _ := h
  obtain ⟨hi6, hok, f72, f73, f74, f75, f76, ⟨h72, h73, h74, h75, h76⟩, hm, hn, hd, hnb, hdb⟩ := id hF
  have hl60 := hok.2.2.2.1
  have hby := hok.2.2.2.2.2
  have hm2 := hok.2.2.1
  have hfl := fsq_len hok
  obtain ⟨-, -, f81, h81, -⟩ := id hA
  refine e_aload_n dd_Md_squeeze_0 rfl ?_
  refine e_iconst_n 0 dd_Md_squeeze_1 (by decide) ?_
  refine e_putx (fs1 := [.int nl, .ref 70, .int dl, .ref 71, .int fl, .ref 72, .ref 73, .ref 74, .ref 75, .ref 76, .int ln, .ref 77, .int md, .ref 78, .int op, .ref 79, .int pl, .int tk, .ref 80, .int (nI 0), .ref 81]) dd_Md_squeeze_2 kf_Md_67 h69 (Nat.le_of_ble_eq_true rfl) rfl rfl rfl (fun w1 h2n h2v h2f => ?_)
  have hS : rS w w1 69 81 := ⟨h2n, fun j h1 _ => h2f j h1⟩
  have hF := hF.fr hS (by decide)
  have hA : mA w1 81 400 [] := ⟨Nat.zero_le _, (fun x hx => by cases hx), f81, (h2f 81 (by decide)).trans h81, fun j hj => absurd hj (Nat.not_lt_zero j)⟩
  have h : mO w1 nl dl fl ln md op pl tk (nI 0) := h2v
  refine e_aload_n dd_Md_squeeze_5 rfl ?_
  refine e_get dd_Md_squeeze_6 kf_Md_16 h2v rfl ?_
  refine e_iload_n dd_Md_squeeze_9 rfl ?_
  refine e_iald dd_Md_squeeze_10 ((h2f _ (by decide)).trans h72) rfl rfl (by omega) (by decide) ?_
  refine e_top (y := nI f.2.1) hm ?_
  refine e_iconst_n 1 dd_Md_squeeze_11 (by decide) ?_
  refine e_icmp_ne_n (tgt := 23) dd_Md_squeeze_12 (by decide) (by omega) (by omega) (fun c12 => ?_) (fun c12 => ?_)
  · refine e_aload_n dd_Md_squeeze_23 rfl ?_
    refine e_get dd_Md_squeeze_24 kf_Md_16 h2v rfl ?_
    refine e_iload_n dd_Md_squeeze_27 rfl ?_
    refine e_iald dd_Md_squeeze_28 ((h2f _ (by decide)).trans h72) rfl rfl (by omega) (by decide) ?_
    refine e_top (y := nI f.2.1) hm ?_
    refine e_iconst_n 2 dd_Md_squeeze_29 (by decide) ?_
    refine e_icmp_ne_n (tgt := 41) dd_Md_squeeze_30 (by decide) (by omega) (by omega) (fun c30 => ?_) (fun c30 => ?_)
    · refine e_iconst_n 0 dd_Md_squeeze_41 (by decide) ?_
      refine e_istore_n (lv1 := [(0, .ref 69), (1, .int (nI i)), (2, .int (nI 0))]) dd_Md_squeeze_42 (by decide) rfl ?_
      have e1 : fsq f = f.2.2 := by rw [fsq, sqz, if_neg c12, if_neg c30]
      rw [e1]
      have q := l_Md_squeeze (G := G) hF f.2.2.length 0 w1 (by omega) (by simpa using h) (by simpa using hA) rS.rf
      obtain ⟨r, w2, q1, q2, q3, q4⟩ := q
      exact ⟨r, w2, q1, q2, q3, hS.tr q4.1, q4.2⟩
    · have e1 : fsq f = copies f.2.2 := by rw [fsq, sqz, if_neg c12, if_pos c30]
      rw [e1] at hfl ⊢
      refine e_aload_n dd_Md_squeeze_33 rfl ?_
      refine e_iload_n dd_Md_squeeze_34 rfl ?_
      refine e_callVv (d1 := rr_Md_copies) (As := [.int (nI i)]) (st := []) dd_Md_squeeze_35 km_Md_89 h2v rfl (by decide) rfl (Nat.le_of_ble_eq_true rfl) (Nat.le_of_ble_eq_true rfl) rfl rfl (c_Md_copies h hA hF (by omega)) (fun v1 k1 => ?_)
      refine e_goto (tgt := 69) dd_Md_squeeze_38 (by decide) ?_
      exact e_vret dd_Md_squeeze_69 rfl (pV_of ⟨hS.tr k1.1, k1.2⟩)
  · have e1 : fsq f = runs f.2.2 := by rw [fsq, sqz, if_pos c12]
    rw [e1] at hfl ⊢
    refine e_aload_n dd_Md_squeeze_15 rfl ?_
    refine e_iload_n dd_Md_squeeze_16 rfl ?_
    refine e_callVv (d1 := rr_Md_runs) (As := [.int (nI i)]) (st := []) dd_Md_squeeze_17 km_Md_86 h2v rfl (by decide) rfl (Nat.le_of_ble_eq_true rfl) (Nat.le_of_ble_eq_true rfl) rfl rfl (c_Md_runs h hA hF) (fun v1 k1 => ?_)
    refine e_goto (tgt := 69) dd_Md_squeeze_20 (by decide) ?_
    exact e_vret dd_Md_squeeze_69 rfl (pV_of ⟨hS.tr k1.1, k1.2⟩)
end MD
