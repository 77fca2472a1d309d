/-! The row's sums, CHECK, and whether two rows are the same. -/
/-- one bit of CHECK; the last n bits of a byte; a byte; n bytes from a place on -/
def cb (c b k : Nat) : Nat := (c * 2 % 65536) ^^^ (if (b / 2 ^ k % 2) ^^^ (c / 2 ^ 15 % 2) = 1 then 4129 else 0)
def c8 (c b : Nat) : Nat → Nat
  | 0 => c
  | n + 1 => c8 (cb c b n) b n
def c1 (c b : Nat) : Nat := c8 c b 8
def cN (xs : List Nat) (c i : Nat) : Nat → Nat
  | 0 => c
  | n + 1 => cN xs (c1 c (xs.getD i 0)) (i + 1) n
theorem cb_lt (c b k : Nat) : cb c b k < 65536 := by
  unfold cb
  have h1 : c * 2 % 65536 < 2 ^ 16 := Nat.mod_lt _ (by decide)
  split
  · exact Nat.xor_lt_two_pow h1 (by decide)
  · exact Nat.xor_lt_two_pow h1 (by decide)
theorem c8_lt {b : Nat} : ∀ (n c : Nat), c < 65536 → c8 c b n < 65536
  | 0, _, h => h
  | n + 1, c, _ => c8_lt n _ (cb_lt c b n)
theorem c1_lt {c b : Nat} (h : c < 65536) : c1 c b < 65536 := c8_lt 8 c h
theorem cN_lt {xs : List Nat} : ∀ (n c i : Nat), c < 65536 → cN xs c i n < 65536
  | 0, _, _, h => h
  | n + 1, c, i, h => cN_lt n _ _ (c1_lt h)
/-- CHECK of a row -/
def crc (xs : List Nat) : Nat := xs.foldl c1 65535
theorem cN_fold (xs : List Nat) : ∀ (n c i : Nat), i + n ≤ xs.length → cN xs c i n = ((xs.drop i).take n).foldl c1 c
  | 0, c, i, h => by simp [cN]
  | n + 1, c, i, h => by
    have h1 : xs.drop i = xs.getD i 0 :: xs.drop (i + 1) := by
      rw [List.drop_eq_getElem_cons (by omega), List.getD_eq_getElem?_getD, List.getElem?_eq_getElem (by omega)]
      rfl
    rw [cN, cN_fold xs n _ _ (by omega), h1, List.take_succ_cons, List.foldl_cons]
theorem crc_N (xs : List Nat) : cN xs 65535 0 xs.length = crc xs := by
  rw [cN_fold xs _ _ _ (by omega), List.drop_zero, List.take_length]
  rfl
theorem crc_lt (xs : List Nat) : crc xs < 65536 := by
  rw [← crc_N]; exact cN_lt _ _ _ (by decide)
def sN (xs : List Nat) (s i : Nat) : Nat → Nat
  | 0 => s
  | n + 1 => sN xs (s + xs.getD i 0) (i + 1) n
theorem sN_sum (xs : List Nat) : ∀ (n s i : Nat), i + n ≤ xs.length → sN xs s i n = s + ((xs.drop i).take n).sum
  | 0, s, i, h => by simp [sN]
  | n + 1, s, i, h => by
    have h1 : xs.drop i = xs.getD i 0 :: xs.drop (i + 1) := by
      rw [List.drop_eq_getElem_cons (by omega), List.getD_eq_getElem?_getD, List.getElem?_eq_getElem (by omega)]
      rfl
    rw [sN, sN_sum xs n _ _ (by omega), h1, List.take_succ_cons, List.sum_cons]
    omega
section ROW
variable {G : ab_G} {w : ab_W} {r a cap : Nat} {xs : List Nat}
theorem bit_lt (b k : Nat) : b / 2 ^ k % 2 < 2 := Nat.mod_lt _ (by decide)
theorem xor_bits {x y : Nat} (hx : x < 2) (hy : y < 2) : x ^^^ y < 2 := Nat.xor_lt_two_pow (n := 1) hx hy
theorem l_Row_checkWith {b : Nat} {c0 : Int32} (hb : b < 256) : ∀ (n c : Nat), n ≤ 8 → c < 65536 → ab_E G mm_Row_checkWith rr_Row_checkWith 5 [(0, .int c0), (1, .int (nI b)), (2, .int (nI c)), (3, .int (nI n + (-1)))] [] w (pP (nI (c8 c b n)) w) := by
  intro n
  induction n with
  | zero =>
    intro c hn hc
    refine e_iload_n dd_Row_checkWith_5 rfl ?_
    refine e_if_lt (tgt := 48) dd_Row_checkWith_6 (by decide) (fun _ => ?_) (fun h9 => absurd h9 (by decide))
    refine e_iload_n dd_Row_checkWith_48 rfl ?_
    exact e_iret dd_Row_checkWith_49 rfl (pP_of rfl)
  | succ n ih =>
    intro c hn hc
    rw [pk_m1]
    have hbt := bit_lt b n
    have hct := bit_lt c 15
    have hxl := xor_bits hbt hct
    have hcb := cb_lt c b n
    refine e_iload_n dd_Row_checkWith_5 rfl ?_
    refine e_if_lt_n (tgt := 48) dd_Row_checkWith_6 (by decide) (by first | omega | exact Nat.lt_of_le_of_lt (Nat.div_le_self _ _) (by omega)) ?_
    refine e_iload_n dd_Row_checkWith_9 rfl ?_
    refine e_iload_n dd_Row_checkWith_10 rfl ?_
    refine e_ishr dd_Row_checkWith_11 ?_
    refine e_top (y := nI (b / 2 ^ n)) (pk_shrN (by omega) _ n (s_l n (by omega))) ?_
    refine e_iconst_n 1 dd_Row_checkWith_12 (by decide) ?_
    refine e_iand_n 1 dd_Row_checkWith_13 (by first | omega | exact Nat.lt_of_le_of_lt (Nat.div_le_self _ _) (by omega)) (by decide) ?_
    refine e_iload_n dd_Row_checkWith_14 rfl ?_
    refine e_bipush_n 15 dd_Row_checkWith_15 (by decide) ?_
    refine e_ishr_n dd_Row_checkWith_17 (by first | omega | exact Nat.lt_of_le_of_lt (Nat.div_le_self _ _) (by omega)) (by decide) ?_
    refine e_iconst_n 1 dd_Row_checkWith_18 (by decide) ?_
    refine e_iand_n 1 dd_Row_checkWith_19 (by first | omega | exact Nat.lt_of_le_of_lt (Nat.div_le_self _ _) (by omega)) (by decide) ?_
    refine e_ixor dd_Row_checkWith_20 ?_
    refine e_top (y := nI ((b / 2 ^ n % 2) ^^^ (c / 2 ^ 15 % 2))) (nx_xor _ _) ?_
    refine e_istore (lv1 := [(0, .int c0), (1, .int (nI b)), (2, .int (nI c)), (3, .int (nI n)), (4, .int (nI ((b / 2 ^ n % 2) ^^^ (c / 2 ^ 15 % 2))))]) dd_Row_checkWith_21 (by decide) rfl ?_
    refine e_iload_n dd_Row_checkWith_23 rfl ?_
    refine e_iconst_n 2 dd_Row_checkWith_24 (by decide) ?_
    refine e_imul_n dd_Row_checkWith_25 ?_
    refine e_ldc (v := 65535) dd_Row_checkWith_26 ww_263 ?_
    refine e_top (y := nI 65535) (by decide) ?_
    refine e_iand_n 16 dd_Row_checkWith_28 (by first | omega | exact Nat.lt_of_le_of_lt (Nat.div_le_self _ _) (by omega)) (by decide) ?_
    refine e_istore_n (lv1 := [(0, .int c0), (1, .int (nI b)), (2, .int (nI ((c * 2) % 2 ^ 16))), (3, .int (nI n)), (4, .int (nI ((b / 2 ^ n % 2) ^^^ (c / 2 ^ 15 % 2))))]) dd_Row_checkWith_29 (by decide) rfl ?_
    refine e_iload dd_Row_checkWith_30 rfl ?_
    refine e_iconst_n 1 dd_Row_checkWith_32 (by decide) ?_
    refine e_icmp_ne_n (tgt := 42) dd_Row_checkWith_33 (by decide) (by first | omega | exact Nat.lt_of_le_of_lt (Nat.div_le_self _ _) (by omega)) (by first | omega | exact Nat.lt_of_le_of_lt (Nat.div_le_self _ _) (by omega)) (fun c33 => ?_) (fun c33 => ?_)
    · refine e_iinc (v := nI n + (-1)) (lv1 := [(0, .int c0), (1, .int (nI b)), (2, .int (nI ((c * 2) % 2 ^ 16))), (3, .int (nI n + (-1))), (4, .int (nI ((b / 2 ^ n % 2) ^^^ (c / 2 ^ 15 % 2))))]) dd_Row_checkWith_42 rfl (by decide) rfl rfl ?_
      refine e_goto (tgt := 5) dd_Row_checkWith_45 (by decide) ?_
      refine e_rm (lv1 := [(0, .int c0), (1, .int (nI b)), (2, .int (nI ((c * 2) % 2 ^ 16))), (3, .int (nI n + (-1)))]) 4 rfl ?_
      have e : c * 2 % 2 ^ 16 = cb c b n := by rw [cb, if_neg c33]; simp
      rw [e]
      exact ih (cb c b n) (by omega) hcb
    · refine e_iload_n dd_Row_checkWith_36 rfl ?_
      refine e_sipush_n 4129 dd_Row_checkWith_37 (by decide) ?_
      refine e_ixor dd_Row_checkWith_40 ?_
      refine e_top (y := nI ((c * 2 % 2 ^ 16) ^^^ 4129)) (nx_xor _ _) ?_
      refine e_istore_n (lv1 := [(0, .int c0), (1, .int (nI b)), (2, .int (nI ((c * 2 % 2 ^ 16) ^^^ 4129))), (3, .int (nI n)), (4, .int (nI ((b / 2 ^ n % 2) ^^^ (c / 2 ^ 15 % 2))))]) dd_Row_checkWith_41 (by decide) rfl ?_
      refine e_iinc (v := nI n + (-1)) (lv1 := [(0, .int c0), (1, .int (nI b)), (2, .int (nI ((c * 2 % 2 ^ 16) ^^^ 4129))), (3, .int (nI n + (-1))), (4, .int (nI ((b / 2 ^ n % 2) ^^^ (c / 2 ^ 15 % 2))))]) dd_Row_checkWith_42 rfl (by decide) rfl rfl ?_
      refine e_goto (tgt := 5) dd_Row_checkWith_45 (by decide) ?_
      refine e_rm (lv1 := [(0, .int c0), (1, .int (nI b)), (2, .int (nI ((c * 2 % 2 ^ 16) ^^^ 4129))), (3, .int (nI n + (-1)))]) 4 rfl ?_
      have e : (c * 2 % 2 ^ 16) ^^^ 4129 = cb c b n := by rw [cb, if_pos c33]
      rw [e]
      exact ih (cb c b n) (by omega) hcb
theorem c_Row_checkWith {c b : Nat} (hc : c < 65536) (hb : b < 256) : ab_E G mm_Row_checkWith rr_Row_checkWith 0 [(0, .int (nI c)), (1, .int (nI b))] [] w (pP (nI (c1 c b)) w) := by
  refine e_iload_n dd_Row_checkWith_0 rfl ?_
  refine e_istore_n (lv1 := [(0, .int (nI c)), (1, .int (nI b)), (2, .int (nI c))]) dd_Row_checkWith_1 (by decide) rfl ?_
  refine e_bipush_n 7 dd_Row_checkWith_2 (by decide) ?_
  refine e_istore_n (lv1 := [(0, .int (nI c)), (1, .int (nI b)), (2, .int (nI c)), (3, .int (nI 7))]) dd_Row_checkWith_4 (by decide) rfl ?_
  exact l_Row_checkWith hb 8 c (by decide) hc
theorem l_Row_check (h : cR w r a cap xs) {b e : Nat} (he : e ≤ xs.length) : ∀ (n i c : Nat), i + n = e → c < 65536 → ab_E G mm_Row_check rr_Row_check 6 [(0, .ref r), (1, .int (nI b)), (2, .int (nI e)), (3, .int (nI c)), (4, .int (nI i))] [] w (pP (nI (cN xs c i n)) w) := by
  have hlt := h.lt
  have hr := h.obj
  have hby := h.2.2.2.2.1
  intro n
  induction n with
  | zero =>
    intro i c hi hc
    refine e_iload dd_Row_check_6 rfl ?_
    refine e_iload_n dd_Row_check_8 rfl ?_
    refine e_icmp_ge_n (tgt := 29) dd_Row_check_9 (by decide) (by omega) (by omega) (fun _ => ?_) (fun h9 => absurd h9 (by omega))
    refine e_iload_n dd_Row_check_29 rfl ?_
    exact e_iret dd_Row_check_30 rfl (pP_of rfl)
  | succ n ih =>
    intro i c hi hc
    refine e_iload dd_Row_check_6 rfl ?_
    refine e_iload_n dd_Row_check_8 rfl ?_
    refine e_icmp_ge_n (tgt := 29) dd_Row_check_9 (by decide) (by omega) (by omega) (fun h9 => absurd h9 (by omega)) (fun _ => ?_)
    refine e_iload_n dd_Row_check_12 rfl ?_
    refine e_aload_n dd_Row_check_13 rfl ?_
    refine e_iload dd_Row_check_14 rfl ?_
    refine e_callVp (d1 := rr_Row_at) (As := [.int (nI i)]) (st := [.int (nI c)]) dd_Row_check_16 km_Row_19 hr rfl (by decide) rfl (Nat.le_of_ble_eq_true rfl) (Nat.le_of_ble_eq_true rfl) rfl rfl (c_Row_ati h (by omega)) ?_
    refine e_callSp (d1 := rr_Row_checkWith) (As := [.int (nI c), .int (nI (xs.getD i 0))]) (st := []) dd_Row_check_19 km_Row_46 (by decide) rfl (Nat.le_of_ble_eq_true rfl) (Nat.le_of_ble_eq_true rfl) rfl rfl (c_Row_checkWith hc (getD_lt hby (by omega))) ?_
    refine e_istore_n (lv1 := [(0, .ref r), (1, .int (nI b)), (2, .int (nI e)), (3, .int (nI (c1 c (xs.getD i 0)))), (4, .int (nI i))]) dd_Row_check_22 (by decide) rfl ?_
    refine e_iinc_n (a := i) (k := 1) (lv1 := [(0, .ref r), (1, .int (nI b)), (2, .int (nI e)), (3, .int (nI (c1 c (xs.getD i 0)))), (4, .int (nI (i + 1)))]) dd_Row_check_23 rfl (by decide) (by decide) rfl ?_
    refine e_goto (tgt := 6) dd_Row_check_26 (by decide) ?_
    exact ih (i + 1) _ (by omega) (c1_lt hc)
theorem c_Row_check (h : cR w r a cap xs) {b e : Nat} (hb : b ≤ e) (he : e ≤ xs.length) : ab_E G mm_Row_check rr_Row_check 0 [(0, .ref r), (1, .int (nI b)), (2, .int (nI e))] [] w (pP (nI (crc ((xs.drop b).take (e - b)))) w) := by
  have e1 : crc ((xs.drop b).take (e - b)) = cN xs 65535 b (e - b) := (cN_fold xs _ _ _ (by omega)).symm
  rw [e1]
  refine e_ldc (v := 65535) dd_Row_check_0 ww_263 ?_
  refine e_top (y := nI 65535) (by decide) ?_
  refine e_istore_n (lv1 := [(0, .ref r), (1, .int (nI b)), (2, .int (nI e)), (3, .int (nI 65535))]) dd_Row_check_2 (by decide) rfl ?_
  refine e_iload_n dd_Row_check_3 rfl ?_
  refine e_istore (lv1 := [(0, .ref r), (1, .int (nI b)), (2, .int (nI e)), (3, .int (nI 65535)), (4, .int (nI b))]) dd_Row_check_4 (by decide) rfl ?_
  exact l_Row_check h he (e - b) b 65535 (by omega) (by decide)
theorem sN_le {xs : List Nat} (hby : ∀ x ∈ xs, x < 256) : ∀ (n s i : Nat), i + n ≤ xs.length → sN xs s i n ≤ s + 256 * n
  | 0, s, i, _ => by simp [sN]
  | n + 1, s, i, h => by
    have h1 := sN_le hby n (s + xs.getD i 0) (i + 1) (by omega)
    have h2 := getD_lt hby (j := i) (by omega)
    rw [sN]
    omega
theorem l_Row_sum (h : cR w r a cap xs) {b e : Nat} (he : e ≤ xs.length) : ∀ (n i c : Nat), i + n = e → c ≤ 256 * i → ab_E G mm_Row_sum rr_Row_sum 5 [(0, .ref r), (1, .int (nI b)), (2, .int (nI e)), (3, .int (nI c)), (4, .int (nI i))] [] w (pP (nI (sN xs c i n % 256)) w) := by
  have hlt := h.lt
  have hr := h.obj
  have hby := h.2.2.2.2.1
  intro n
  induction n with
  | zero =>
    intro i c hi hc
    refine e_iload dd_Row_sum_5 rfl ?_
    refine e_iload_n dd_Row_sum_7 rfl ?_
    refine e_icmp_ge_n (tgt := 26) dd_Row_sum_8 (by decide) (by omega) (by omega) (fun _ => ?_) (fun h9 => absurd h9 (by omega))
    refine e_iload_n dd_Row_sum_26 rfl ?_
    refine e_sipush_n 255 dd_Row_sum_27 (by decide) ?_
    refine e_iand_n 8 dd_Row_sum_30 (by omega) (by decide) ?_
    exact e_iret dd_Row_sum_31 rfl (pP_of rfl)
  | succ n ih =>
    intro i c hi hc
    have h2 := getD_lt hby (j := i) (by omega)
    refine e_iload dd_Row_sum_5 rfl ?_
    refine e_iload_n dd_Row_sum_7 rfl ?_
    refine e_icmp_ge_n (tgt := 26) dd_Row_sum_8 (by decide) (by omega) (by omega) (fun h9 => absurd h9 (by omega)) (fun _ => ?_)
    refine e_iload_n dd_Row_sum_11 rfl ?_
    refine e_aload_n dd_Row_sum_12 rfl ?_
    refine e_iload dd_Row_sum_13 rfl ?_
    refine e_callVp (d1 := rr_Row_at) (As := [.int (nI i)]) (st := [.int (nI c)]) dd_Row_sum_15 km_Row_19 hr rfl (by decide) rfl (Nat.le_of_ble_eq_true rfl) (Nat.le_of_ble_eq_true rfl) rfl rfl (c_Row_ati h (by omega)) ?_
    refine e_iadd_n dd_Row_sum_18 ?_
    refine e_istore_n (lv1 := [(0, .ref r), (1, .int (nI b)), (2, .int (nI e)), (3, .int (nI (c + (xs.getD i 0)))), (4, .int (nI i))]) dd_Row_sum_19 (by decide) rfl ?_
    refine e_iinc_n (a := i) (k := 1) (lv1 := [(0, .ref r), (1, .int (nI b)), (2, .int (nI e)), (3, .int (nI (c + (xs.getD i 0)))), (4, .int (nI (i + 1)))]) dd_Row_sum_20 rfl (by decide) (by decide) rfl ?_
    refine e_goto (tgt := 5) dd_Row_sum_23 (by decide) ?_
    exact ih (i + 1) _ (by omega) (by omega)
theorem c_Row_sum (h : cR w r a cap xs) {b e : Nat} (hb : b ≤ e) (he : e ≤ xs.length) : ab_E G mm_Row_sum rr_Row_sum 0 [(0, .ref r), (1, .int (nI b)), (2, .int (nI e))] [] w (pP (nI (((xs.drop b).take (e - b)).sum % 256)) w) := by
  have e1 := sN_sum xs (e - b) 0 b (by omega)
  rw [Nat.zero_add] at e1
  rw [← e1]
  refine e_iconst_n 0 dd_Row_sum_0 (by decide) ?_
  refine e_istore_n (lv1 := [(0, .ref r), (1, .int (nI b)), (2, .int (nI e)), (3, .int (nI 0))]) dd_Row_sum_1 (by decide) rfl ?_
  refine e_iload_n dd_Row_sum_2 rfl ?_
  refine e_istore (lv1 := [(0, .ref r), (1, .int (nI b)), (2, .int (nI e)), (3, .int (nI 0)), (4, .int (nI b))]) dd_Row_sum_3 (by decide) rfl ?_
  exact l_Row_sum h he (e - b) b 0 (by omega) (by omega)
theorem getD_ext {xs ys : List Nat} (hl : xs.length = ys.length) (h : ∀ j, j < xs.length → xs.getD j 0 = ys.getD j 0) : xs = ys := by
  apply List.ext_getElem hl
  intro j h1 h2
  have h3 := h j h1
  simpa [List.getD_eq_getElem?_getD, h1, h2] using h3
theorem l_Row_isSameAs {r2 a2 cap2 : Nat} {ys : List Nat} (h : cR w r a cap xs) (h2 : cR w r2 a2 cap2 ys) (hl : xs.length = ys.length) : ∀ (n i : Nat), i + n = xs.length → (∀ j, j < i → xs.getD j 0 = ys.getD j 0) → ab_E G mm_Row_isSameAs rr_Row_isSameAs 15 [(0, .ref r), (1, .ref r2), (2, .int (nI i))] [] w (pP (bI (decide (xs = ys))) w) := by
  have hlt := h.lt
  have hr := h.obj
  have hr2 := h2.obj
  have hby := h.2.2.2.2.1
  have hby2 := h2.2.2.2.2.1
  intro n
  induction n with
  | zero =>
    intro i hi hj
    refine e_iload_n dd_Row_isSameAs_15 rfl ?_
    refine e_aload_n dd_Row_isSameAs_16 rfl ?_
    refine e_get dd_Row_isSameAs_17 kf_Row_15 hr rfl ?_
    refine e_icmp_ge_n (tgt := 44) dd_Row_isSameAs_20 (by decide) (by omega) (by omega) (fun _ => ?_) (fun h9 => absurd h9 (by omega))
    refine e_iconst_n 1 dd_Row_isSameAs_44 (by decide) ?_
    exact e_zret dd_Row_isSameAs_45 rfl (by decide) (pP_of (bI_t (decide_eq_true (getD_ext hl (fun j h9 => hj j (by omega))))))
  | succ n ih =>
    intro i hi hj
    have g1 := getD_lt hby (j := i) (by omega)
    have g2 := getD_lt hby2 (j := i) (by omega)
    refine e_iload_n dd_Row_isSameAs_15 rfl ?_
    refine e_aload_n dd_Row_isSameAs_16 rfl ?_
    refine e_get dd_Row_isSameAs_17 kf_Row_15 hr rfl ?_
    refine e_icmp_ge_n (tgt := 44) dd_Row_isSameAs_20 (by decide) (by omega) (by omega) (fun h9 => absurd h9 (by omega)) (fun _ => ?_)
    refine e_aload_n dd_Row_isSameAs_23 rfl ?_
    refine e_iload_n dd_Row_isSameAs_24 rfl ?_
    refine e_callVp (d1 := rr_Row_at) (As := [.int (nI i)]) (st := []) dd_Row_isSameAs_25 km_Row_19 hr rfl (by decide) rfl (Nat.le_of_ble_eq_true rfl) (Nat.le_of_ble_eq_true rfl) rfl rfl (c_Row_ati h (by omega)) ?_
    refine e_aload_n dd_Row_isSameAs_28 rfl ?_
    refine e_iload_n dd_Row_isSameAs_29 rfl ?_
    refine e_callVp (d1 := rr_Row_at) (As := [.int (nI i)]) (st := [.int (nI (xs.getD i 0))]) dd_Row_isSameAs_30 km_Row_19 hr2 rfl (by decide) rfl (Nat.le_of_ble_eq_true rfl) (Nat.le_of_ble_eq_true rfl) rfl rfl (c_Row_ati h2 (by omega)) ?_
    refine e_icmp_eq_n (tgt := 38) dd_Row_isSameAs_33 (by decide) (by omega) (by omega) (fun c33 => ?_) (fun c33 => ?_)
    · refine e_iinc_n (a := i) (k := 1) (lv1 := [(0, .ref r), (1, .ref r2), (2, .int (nI (i + 1)))]) dd_Row_isSameAs_38 rfl (by decide) (by decide) rfl ?_
      refine e_goto (tgt := 15) dd_Row_isSameAs_41 (by decide) ?_
      exact ih (i + 1) (by omega) (fun j h9 => by
        by_cases e : j = i
        · rw [e]; exact c33
        · exact hj j (by omega))
    · refine e_iconst_n 0 dd_Row_isSameAs_36 (by decide) ?_
      exact e_zret dd_Row_isSameAs_37 rfl (by decide) (pP_of (bI_f (decide_eq_false (fun e => c33 (by rw [e])))))
theorem c_Row_isSameAs {r2 a2 cap2 : Nat} {ys : List Nat} (h : cR w r a cap xs) (h2 : cR w r2 a2 cap2 ys) : ab_E G mm_Row_isSameAs rr_Row_isSameAs 0 [(0, .ref r), (1, .ref r2)] [] w (pP (bI (decide (xs = ys))) w) := by
  have hlt := h.lt
  have hlt2 := h2.lt
  have hr := h.obj
  have hr2 := h2.obj
  refine e_aload_n dd_Row_isSameAs_0 rfl ?_
  refine e_get dd_Row_isSameAs_1 kf_Row_15 hr rfl ?_
  refine e_aload_n dd_Row_isSameAs_4 rfl ?_
  refine e_get dd_Row_isSameAs_5 kf_Row_15 hr2 rfl ?_
  refine e_icmp_eq_n (tgt := 13) dd_Row_isSameAs_8 (by decide) (by omega) (by omega) (fun c8 => ?_) (fun c8 => ?_)
  · refine e_iconst_n 0 dd_Row_isSameAs_13 (by decide) ?_
    refine e_istore_n (lv1 := [(0, .ref r), (1, .ref r2), (2, .int (nI 0))]) dd_Row_isSameAs_14 (by decide) rfl ?_
    exact l_Row_isSameAs h h2 c8 xs.length 0 (by omega) (fun j h9 => absurd h9 (by omega))
  · refine e_iconst_n 0 dd_Row_isSameAs_11 (by decide) ?_
    exact e_zret dd_Row_isSameAs_12 rfl (by decide) (pP_of (bI_f (decide_eq_false (fun e => c8 (by rw [e])))))
end ROW
