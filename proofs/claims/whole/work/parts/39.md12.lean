/-! The reference: unsqueezing. -/
/-- one piece: how many bytes it takes, the row behind it -/
def stp (m : Nat) (im : List Nat) (e p : Nat) (acc : List Nat) : Option (Nat × List Nat) :=
  if m = 0 ∨ (m = 1 ∧ im.getD p 0 < 246) then some (1, acc ++ [im.getD p 0])
  else if e ≤ p + 1 then none
  else if m = 1 then (if im.getD p 0 = 246 then none else some (2, acc ++ List.replicate (im.getD p 0 - 246) (im.getD (p + 1) 0)))
  else if im.getD p 0 < 32 then (if e ≤ p + 1 + im.getD p 0 then none else some (im.getD p 0 + 2, acc ++ (im.drop (p + 1)).take (im.getD p 0 + 1)))
  else if 63 < im.getD p 0 ∨ 31 < im.getD (p + 1) 0 ∨ acc.length ≤ im.getD (p + 1) 0 then none
  else some (2, cpB (im.getD (p + 1) 0) (im.getD p 0 - 32 + 3) acc)
def uU (m : Nat) (im : List Nat) (e : Nat) : Nat → Nat → List Nat → Option (List Nat)
  | 0, _, acc => some acc
  | k + 1, p, acc => if p < e then (match stp m im e p acc with
    | none => none
    | some q => uU m im e k (p + q.1) q.2) else some acc
theorem stp_mono {m : Nat} {im : List Nat} {e p : Nat} {acc : List Nat} {q : Nat × List Nat} (h : stp m im e p acc = some q) : acc.length ≤ q.2.length ∧ 1 ≤ q.1 := by
  rw [stp] at h
  split at h
  · cases h; simp
  · split at h
    · cases h
    · split at h
      · split at h
        · cases h
        · cases h; simp
      · split at h
        · split at h
          · cases h
          · cases h
            rw [List.length_append]
            exact ⟨by omega, by omega⟩
        · split at h
          · cases h
          · cases h
            dsimp only
            rw [cpB_len]
            exact ⟨by omega, by omega⟩
theorem uU_mono {m : Nat} {im : List Nat} {e : Nat} : ∀ k p acc ys, uU m im e k p acc = some ys → acc.length ≤ ys.length
  | 0, p, acc, ys, h => by
    rw [uU] at h
    cases h
    exact Nat.le_refl _
  | k + 1, p, acc, ys, h => by
    rw [uU] at h
    split at h
    · rcases hs : stp m im e p acc with - | q
      · rw [hs] at h
        cases h
      · rw [hs] at h
        have h1 := uU_mono k _ _ _ h
        have h2 := (stp_mono hs).1
        omega
    · cases h
      exact Nat.le_refl _
theorem uU_R (im : List Nat) (e : Nat) : ∀ k p acc, uR im e k p acc = uU 1 im e k p acc
  | 0, _, _ => rfl
  | k + 1, p, acc => by
    rw [uR, uU]
    by_cases hp : p < e
    · rw [if_pos hp, if_pos hp, stp]
      by_cases h1 : 246 ≤ im.getD p 0
      · rw [if_pos h1, if_neg (by omega : ¬ (1 = 0 ∨ (1 = 1 ∧ im.getD p 0 < 246)))]
        by_cases h2 : e ≤ p + 1
        · rw [if_pos (Or.inr h2), if_pos h2]
        · rw [if_neg h2, if_pos rfl]
          by_cases h3 : im.getD p 0 = 246
          · rw [if_pos (Or.inl h3), if_pos h3]
          · rw [if_neg (by omega), if_neg h3]
            exact uU_R im e k _ _
      · rw [if_neg h1, if_pos (Or.inr ⟨rfl, by omega⟩)]
        exact uU_R im e k _ _
    · rw [if_neg hp, if_neg hp]
theorem uU_C (im : List Nat) (e : Nat) : ∀ k p acc, uC im e k p acc = uU 2 im e k p acc
  | 0, _, _ => rfl
  | k + 1, p, acc => by
    rw [uC, uU]
    by_cases hp : p < e
    · rw [if_pos hp, if_pos hp, stp, if_neg (by omega : ¬ (2 = 0 ∨ (2 = 1 ∧ im.getD p 0 < 246)))]
      by_cases h1 : 64 ≤ im.getD p 0
      · rw [if_pos h1]
        by_cases h2 : e ≤ p + 1
        · rw [if_pos h2]
        · rw [if_neg h2, if_neg (by decide), if_neg (by omega), if_pos (Or.inl (by omega))]
      · rw [if_neg h1]
        by_cases h3 : 32 ≤ im.getD p 0
        · rw [if_pos h3]
          by_cases h2 : e ≤ p + 1
          · rw [if_pos h2, if_pos h2]
          · rw [if_neg h2, if_neg h2]
            by_cases h4 : 32 < im.getD (p + 1) 0 + 1 ∨ acc.length < im.getD (p + 1) 0 + 1
            · rw [if_pos h4, if_neg (by decide : ¬ 2 = 1), if_neg (by omega), if_pos (by omega)]
            · rw [if_neg h4, if_neg (by decide : ¬ 2 = 1), if_neg (by omega), if_neg (by omega)]
              exact uU_C im e k _ _
        · rw [if_neg h3]
          by_cases h2 : e ≤ p + (im.getD p 0 + 1)
          · rw [if_pos h2]
            by_cases h5 : e ≤ p + 1
            · rw [if_pos h5]
            · rw [if_neg h5, if_neg (by decide), if_pos (by omega), if_pos (by omega)]
          · rw [if_neg h2, if_neg (by omega), if_neg (by decide), if_pos (by omega), if_neg (by omega), uU_C im e k, show p + (1 + (im.getD p 0 + 1)) = p + (im.getD p 0 + 2) by omega]
    · rw [if_neg hp, if_neg hp]
theorem uU_0 (im : List Nat) (e : Nat) (he : e ≤ im.length) : ∀ k p acc, e ≤ p + k → uU 0 im e k p acc = some (acc ++ (im.drop p).take (e - p))
  | 0, p, acc, h => by rw [uU, show e - p = 0 by omega]; simp
  | k + 1, p, acc, h => by
    rw [uU]
    by_cases hp : p < e
    · rw [if_pos hp, stp, if_pos (Or.inl rfl)]
      dsimp only
      rw [uU_0 im e he k (p + 1) _ (by omega), drop_cons (xs := im) (i := p) (by omega), show e - p = (e - (p + 1)) + 1 by omega, List.take_succ_cons]
      simp
    · rw [if_neg hp, show e - p = 0 by omega]; simp
theorem unsq_U {m : Nat} {im : List Nat} {p e : Nat} (hm : m ≤ 2) (he : e ≤ im.length) : unsq m im p e = uU m im e (e - p) p [] := by
  rw [unsq]
  by_cases h1 : m = 1
  · subst h1
    rw [if_pos rfl, uU_R]
  · rw [if_neg h1]
    by_cases h2 : m = 2
    · subst h2
      rw [if_pos rfl, uU_C]
    · rw [if_neg h2]
      have h0 : m = 0 := by omega
      subst h0
      rw [uU_0 im e he _ _ _ (by omega)]
      rfl
def pcR (o : Option (Nat × List Nat)) (n : Nat) : Nat := match o with
  | some q => if q.2.length ≤ n then q.1 else 0
  | none => 0
section MD
variable {G : ab_G} {w : ab_W} {nl dl fl ln md op pl tk rq : Int32} {xs ds im : List Nat} {i o li : Nat} {g : Nat → Int32} {S : CS} {j n : Nat} {q : FO}
set_option maxRecDepth 100000 in
set_option maxHeartbeats 4000000 in
theorem c_Md_makeT {b : Nat} (h : mO w nl dl fl ln md op pl tk (nI xs.length)) (hA : mA w 81 400 xs) (h79 : w.1 79 = some (.inl (0, 84, .inl g))) (hq : opI g j q) (hj : j < 6) (hn : q.2.2.2.2.1 ≤ 60) (hb : b < 256) (hl : xs.length < q.2.2.2.2.1) : ab_E G mm_Md_make rr_Md_make 0 [(0, .ref 69), (1, .int (nI j)), (2, .int (nI b))] [] w (pI (bI true) fun w2 => rS w w2 69 81 ∧ mO w2 nl dl fl ln md op pl tk (nI (xs ++ [b]).length) ∧ mA w2 81 400 (xs ++ [b])) := by
  have h69 : w.1 69 = _ := h
  refine e_aload_n dd_Md_make_0 rfl ?_
  refine e_get dd_Md_make_1 kf_Md_67 h69 rfl ?_
  refine e_aload_n dd_Md_make_4 rfl ?_
  refine e_iload_n dd_Md_make_5 rfl ?_
  refine e_iconst_n 4 dd_Md_make_6 (by decide) ?_
  refine e_callVp (d1 := rr_Md_of) (As := [.int (nI j), .int (nI 4)]) (st := [.int (nI xs.length)]) dd_Md_make_7 km_Md_153 h69 rfl (by decide) rfl (Nat.le_of_ble_eq_true rfl) (Nat.le_of_ble_eq_true rfl) rfl rfl (c_Md_ofn (k := 4) h h79 (by omega) hq.2.2.2.2.1) ?_
  refine e_icmp_ne_n (tgt := 15) dd_Md_make_10 (by decide) (by omega) (by omega) (fun _ => ?_) (fun h9 => absurd h9 (by omega))
  refine e_aload_n dd_Md_make_15 rfl ?_
  refine e_iload_n dd_Md_make_16 rfl ?_
  refine e_callVv (d1 := rr_Md_push) (As := [.int (nI b)]) (st := []) dd_Md_make_17 km_Md_74 h69 rfl (by decide) rfl (Nat.le_of_ble_eq_true rfl) (Nat.le_of_ble_eq_true rfl) rfl rfl (c_Md_push h hA hb (by omega)) (fun v1 k1 => ?_)
  refine e_iconst_n 1 dd_Md_make_20 (by decide) ?_
  exact e_zret dd_Md_make_21 rfl (by decide) (pI_of rfl k1)
set_option maxRecDepth 100000 in
set_option maxHeartbeats 4000000 in
theorem c_Md_makeF {b : Nat} (h : mO w nl dl fl ln md op pl tk (nI xs.length)) (hA : mA w 81 400 xs) (h79 : w.1 79 = some (.inl (0, 84, .inl g))) (hq : opI g j q) (hj : j < 6) (hn : q.2.2.2.2.1 ≤ 60) (hl : xs.length = q.2.2.2.2.1) : ab_E G mm_Md_make rr_Md_make 0 [(0, .ref 69), (1, .int (nI j)), (2, .int (nI b))] [] w (pP (bI false) w) := by
  have h69 : w.1 69 = _ := h
  refine e_aload_n dd_Md_make_0 rfl ?_
  refine e_get dd_Md_make_1 kf_Md_67 h69 rfl ?_
  refine e_aload_n dd_Md_make_4 rfl ?_
  refine e_iload_n dd_Md_make_5 rfl ?_
  refine e_iconst_n 4 dd_Md_make_6 (by decide) ?_
  refine e_callVp (d1 := rr_Md_of) (As := [.int (nI j), .int (nI 4)]) (st := [.int (nI xs.length)]) dd_Md_make_7 km_Md_153 h69 rfl (by decide) rfl (Nat.le_of_ble_eq_true rfl) (Nat.le_of_ble_eq_true rfl) rfl rfl (c_Md_ofn (k := 4) h h79 (by omega) hq.2.2.2.2.1) ?_
  refine e_icmp_ne_n (tgt := 15) dd_Md_make_10 (by decide) (by omega) (by omega) (fun h9 => absurd h9 (by omega)) (fun _ => ?_)
  refine e_iconst_n 0 dd_Md_make_13 (by decide) ?_
  exact e_zret dd_Md_make_14 rfl (by decide) (pP_of rfl)
set_option maxRecDepth 100000 in
set_option maxHeartbeats 4000000 in
theorem l_Md_pieceR {v m b : Nat} {P : Option Value → ab_W → Prop} (hv : v < 256) (hb : b < 256) (hi : i < 100000) (h79 : w.1 79 = some (.inl (0, 84, .inl g))) (hI : mA w 77 600 im) (hq : opI g j q) (hj : j < 6) (hn : q.2.2.2.2.1 ≤ 60) (fin : List Nat) (hK : fin.length ≤ q.2.2.2.2.1 → ∀ w2, rS w w2 69 81 → mO w2 nl dl fl ln md op pl tk (nI fin.length) → mA w2 81 400 fin → ab_E G mm_Md_piece rr_Md_piece 106 [(0, .ref 69), (1, .int (nI j)), (2, .int (nI i)), (3, .int (nI li)), (4, .int (nI v)), (5, .int (nI m)), (6, .int (nI b)), (7, .int (nI v))] [] w2 P) (hZ : q.2.2.2.2.1 < fin.length → ∀ w2 zs, rS w w2 69 81 → zs.length ≤ q.2.2.2.2.1 → mO w2 nl dl fl ln md op pl tk (nI zs.length) → mA w2 81 400 zs → P (some (.int (nI 0))) w2) : ∀ (r k : Nat) (w1 : ab_W) (acc : List Nat), k + r = v → acc ++ List.replicate r b = fin → True → acc.length ≤ q.2.2.2.2.1 → rS w w1 69 81 → mO w1 nl dl fl ln md op pl tk (nI acc.length) → mA w1 81 400 acc → ab_E G mm_Md_piece rr_Md_piece 81 [(0, .ref 69), (1, .int (nI j)), (2, .int (nI i)), (3, .int (nI li)), (4, .int (nI v)), (5, .int (nI m)), (6, .int (nI b)), (7, .int (nI k))] [] w1 P := by
  intro r
  induction r with
  | zero =>
    intro k w1 acc hk hf hst hal hS h hA
    have e0 : k = v := by omega
    subst e0
    have hf : acc = fin := by simpa [cpB] using hf
    subst hf
    refine e_iload dd_Md_piece_81 rfl ?_
    refine e_iload dd_Md_piece_83 rfl ?_
    refine e_icmp_ge_n (tgt := 106) dd_Md_piece_85 (by decide) (by omega) (by omega) (fun _ => ?_) (fun h9 => absurd h9 (by omega))
    exact hK hal w1 hS h hA
  | succ r ih =>
    intro k w1 acc hk hf hst hal hS h hA
    have h69 : w1.1 69 = _ := h
    have h79a := (hS.2 79 (by decide) (by decide)).trans h79
    obtain ⟨hil, hbb, f77, h77, hf77⟩ := hI.keep (hS.2 77 (by decide) (by decide))
    obtain ⟨hal4, hab, f81, h81, hf81⟩ := id hA
    have hfl : fin.length = acc.length + (r + 1) := by rw [← hf]; simp [cpB_len]
    refine e_iload dd_Md_piece_81 rfl ?_
    refine e_iload dd_Md_piece_83 rfl ?_
    refine e_icmp_ge_n (tgt := 106) dd_Md_piece_85 (by decide) (by omega) (by omega) (fun h9 => absurd h9 (by omega)) (fun _ => ?_)
    by_cases hm : acc.length < q.2.2.2.2.1
    · refine e_aload_n dd_Md_piece_88 rfl ?_
      refine e_iload_n dd_Md_piece_89 rfl ?_
      refine e_iload dd_Md_piece_90 rfl ?_
      refine e_callVi (d1 := rr_Md_make) (As := [.int (nI j), .int (nI b)]) (st := []) dd_Md_piece_92 km_Md_159 h69 rfl (by decide) rfl (Nat.le_of_ble_eq_true rfl) (Nat.le_of_ble_eq_true rfl) rfl rfl (c_Md_makeT h hA h79a hq hj hn hb hm) (fun v1 k1 => ?_)
      refine e_if_ne_b (tgt := 100) dd_Md_piece_95 (by decide) (fun _ => ?_) (fun h9 => absurd h9 (by decide))
      refine e_iinc_n (a := k) (k := 1) (lv1 := [(0, .ref 69), (1, .int (nI j)), (2, .int (nI i)), (3, .int (nI li)), (4, .int (nI v)), (5, .int (nI m)), (6, .int (nI b)), (7, .int (nI (k + 1)))]) dd_Md_piece_100 rfl (by decide) (by decide) rfl ?_
      refine e_goto (tgt := 81) dd_Md_piece_103 (by decide) ?_
      exact ih (k + 1) v1 (acc ++ [b]) (by omega) (by rw [← hf, List.append_assoc, List.replicate_succ]; rfl) trivial (by rw [List.length_append]; exact hm) (hS.tr k1.1) k1.2.1 k1.2.2
    · refine e_aload_n dd_Md_piece_88 rfl ?_
      refine e_iload_n dd_Md_piece_89 rfl ?_
      refine e_iload dd_Md_piece_90 rfl ?_
      refine e_callVp (d1 := rr_Md_make) (As := [.int (nI j), .int (nI b)]) (st := []) dd_Md_piece_92 km_Md_159 h69 rfl (by decide) rfl (Nat.le_of_ble_eq_true rfl) (Nat.le_of_ble_eq_true rfl) rfl rfl (c_Md_makeF h hA h79a hq hj hn (by omega)) ?_
      refine e_if_ne_b (tgt := 100) dd_Md_piece_95 (by decide) (fun h9 => absurd h9 (by decide)) (fun _ => ?_)
      refine e_iconst_n 0 dd_Md_piece_98 (by decide) ?_
      exact e_iret dd_Md_piece_99 rfl (hZ (by omega) w1 acc hS hal h hA)
set_option maxRecDepth 100000 in
set_option maxHeartbeats 4000000 in
theorem l_Md_pieceL {v m b : Nat} {P : Option Value → ab_W → Prop} (hlen : i + 1 + (v + 1) ≤ im.length) (hv : v < 256) (hb : b < 256) (hi : i < 100000) (h79 : w.1 79 = some (.inl (0, 84, .inl g))) (hI : mA w 77 600 im) (hq : opI g j q) (hj : j < 6) (hn : q.2.2.2.2.1 ≤ 60) (fin : List Nat) (hK : fin.length ≤ q.2.2.2.2.1 → ∀ w2, rS w w2 69 81 → mO w2 nl dl fl ln md op pl tk (nI fin.length) → mA w2 81 400 fin → ab_E G mm_Md_piece rr_Md_piece 176 [(0, .ref 69), (1, .int (nI j)), (2, .int (nI i)), (3, .int (nI li)), (4, .int (nI v)), (5, .int (nI m)), (6, .int (nI b)), (7, .int (nI (v + 1)))] [] w2 P) (hZ : q.2.2.2.2.1 < fin.length → ∀ w2 zs, rS w w2 69 81 → zs.length ≤ q.2.2.2.2.1 → mO w2 nl dl fl ln md op pl tk (nI zs.length) → mA w2 81 400 zs → P (some (.int (nI 0))) w2) : ∀ (r k : Nat) (w1 : ab_W) (acc : List Nat), k + r = (v + 1) → acc ++ (im.drop (i + 1 + k)).take r = fin → True → acc.length ≤ q.2.2.2.2.1 → rS w w1 69 81 → mO w1 nl dl fl ln md op pl tk (nI acc.length) → mA w1 81 400 acc → ab_E G mm_Md_piece rr_Md_piece 142 [(0, .ref 69), (1, .int (nI j)), (2, .int (nI i)), (3, .int (nI li)), (4, .int (nI v)), (5, .int (nI m)), (6, .int (nI b)), (7, .int (nI k))] [] w1 P := by
  intro r
  induction r with
  | zero =>
    intro k w1 acc hk hf hst hal hS h hA
    have e0 : k = (v + 1) := by omega
    subst e0
    have hf : acc = fin := by simpa [cpB] using hf
    subst hf
    refine e_iload dd_Md_piece_142 rfl ?_
    refine e_iload dd_Md_piece_144 rfl ?_
    refine e_icmp_gt_n (tgt := 176) dd_Md_piece_146 (by decide) (by omega) (by omega) (fun _ => ?_) (fun h9 => absurd h9 (by omega))
    exact hK hal w1 hS h hA
  | succ r ih =>
    intro k w1 acc hk hf hst hal hS h hA
    have h69 : w1.1 69 = _ := h
    have h79a := (hS.2 79 (by decide) (by decide)).trans h79
    obtain ⟨hil, hbb, f77, h77, hf77⟩ := hI.keep (hS.2 77 (by decide) (by decide))
    obtain ⟨hal4, hab, f81, h81, hf81⟩ := id hA
    have hfl : fin.length = acc.length + (r + 1) := by rw [← hf]; simp [cpB_len]; omega
    refine e_iload dd_Md_piece_142 rfl ?_
    refine e_iload dd_Md_piece_144 rfl ?_
    refine e_icmp_gt_n (tgt := 176) dd_Md_piece_146 (by decide) (by omega) (by omega) (fun h9 => absurd h9 (by omega)) (fun _ => ?_)
    by_cases hm : acc.length < q.2.2.2.2.1
    · refine e_aload_n dd_Md_piece_149 rfl ?_
      refine e_iload_n dd_Md_piece_150 rfl ?_
      refine e_aload_n dd_Md_piece_151 rfl ?_
      refine e_get dd_Md_piece_152 kf_Md_31 h69 rfl ?_
      refine e_iload_n dd_Md_piece_155 rfl ?_
      refine e_iconst_n 1 dd_Md_piece_156 (by decide) ?_
      refine e_iadd_n dd_Md_piece_157 ?_
      refine e_iload dd_Md_piece_158 rfl ?_
      refine e_iadd_n dd_Md_piece_160 ?_
      refine e_iald dd_Md_piece_161 h77 rfl rfl (by omega) (by decide) ?_
      refine e_top (y := nI (im.getD (i + 1 + k) 0)) (hf77 _ (by omega)) ?_
      refine e_callVi (d1 := rr_Md_make) (As := [.int (nI j), .int (nI (im.getD (i + 1 + k) 0))]) (st := []) dd_Md_piece_162 km_Md_159 h69 rfl (by decide) rfl (Nat.le_of_ble_eq_true rfl) (Nat.le_of_ble_eq_true rfl) rfl rfl (c_Md_makeT h hA h79a hq hj hn (getD_lt hbb (by omega)) hm) (fun v1 k1 => ?_)
      refine e_if_ne_b (tgt := 170) dd_Md_piece_165 (by decide) (fun _ => ?_) (fun h9 => absurd h9 (by decide))
      refine e_iinc_n (a := k) (k := 1) (lv1 := [(0, .ref 69), (1, .int (nI j)), (2, .int (nI i)), (3, .int (nI li)), (4, .int (nI v)), (5, .int (nI m)), (6, .int (nI b)), (7, .int (nI (k + 1)))]) dd_Md_piece_170 rfl (by decide) (by decide) rfl ?_
      refine e_goto (tgt := 142) dd_Md_piece_173 (by decide) ?_
      exact ih (k + 1) v1 (acc ++ [im.getD (i + 1 + k) 0]) (by omega) (by rw [← hf, drop_cons (xs := im) (i := i + 1 + k) (by omega), List.take_succ_cons, List.append_assoc]; rfl) trivial (by rw [List.length_append]; exact hm) (hS.tr k1.1) k1.2.1 k1.2.2
    · refine e_aload_n dd_Md_piece_149 rfl ?_
      refine e_iload_n dd_Md_piece_150 rfl ?_
      refine e_aload_n dd_Md_piece_151 rfl ?_
      refine e_get dd_Md_piece_152 kf_Md_31 h69 rfl ?_
      refine e_iload_n dd_Md_piece_155 rfl ?_
      refine e_iconst_n 1 dd_Md_piece_156 (by decide) ?_
      refine e_iadd_n dd_Md_piece_157 ?_
      refine e_iload dd_Md_piece_158 rfl ?_
      refine e_iadd_n dd_Md_piece_160 ?_
      refine e_iald dd_Md_piece_161 h77 rfl rfl (by omega) (by decide) ?_
      refine e_top (y := nI (im.getD (i + 1 + k) 0)) (hf77 _ (by omega)) ?_
      refine e_callVp (d1 := rr_Md_make) (As := [.int (nI j), .int (nI (im.getD (i + 1 + k) 0))]) (st := []) dd_Md_piece_162 km_Md_159 h69 rfl (by decide) rfl (Nat.le_of_ble_eq_true rfl) (Nat.le_of_ble_eq_true rfl) rfl rfl (c_Md_makeF h hA h79a hq hj hn (by omega)) ?_
      refine e_if_ne_b (tgt := 170) dd_Md_piece_165 (by decide) (fun h9 => absurd h9 (by decide)) (fun _ => ?_)
      refine e_iconst_n 0 dd_Md_piece_168 (by decide) ?_
      exact e_iret dd_Md_piece_169 rfl (hZ (by omega) w1 acc hS hal h hA)
set_option maxRecDepth 100000 in
set_option maxHeartbeats 4000000 in
theorem l_Md_pieceC {v m b : Nat} {P : Option Value → ab_W → Prop} (hv : v < 256) (hb : b < 256) (hi : i < 100000) (h79 : w.1 79 = some (.inl (0, 84, .inl g))) (hI : mA w 77 600 im) (hq : opI g j q) (hj : j < 6) (hn : q.2.2.2.2.1 ≤ 60) (fin : List Nat) (hK : fin.length ≤ q.2.2.2.2.1 → ∀ w2, rS w w2 69 81 → mO w2 nl dl fl ln md op pl tk (nI fin.length) → mA w2 81 400 fin → ab_E G mm_Md_piece rr_Md_piece 249 [(0, .ref 69), (1, .int (nI j)), (2, .int (nI i)), (3, .int (nI li)), (4, .int (nI v)), (5, .int (nI m)), (6, .int (nI b)), (7, .int (nI (v + 3)))] [] w2 P) (hZ : q.2.2.2.2.1 < fin.length → ∀ w2 zs, rS w w2 69 81 → zs.length ≤ q.2.2.2.2.1 → mO w2 nl dl fl ln md op pl tk (nI zs.length) → mA w2 81 400 zs → P (some (.int (nI 0))) w2) : ∀ (r k : Nat) (w1 : ab_W) (acc : List Nat), k + r = (v + 3) → cpB b r acc = fin → b < acc.length → acc.length ≤ q.2.2.2.2.1 → rS w w1 69 81 → mO w1 nl dl fl ln md op pl tk (nI acc.length) → mA w1 81 400 acc → ab_E G mm_Md_piece rr_Md_piece 210 [(0, .ref 69), (1, .int (nI j)), (2, .int (nI i)), (3, .int (nI li)), (4, .int (nI v)), (5, .int (nI m)), (6, .int (nI b)), (7, .int (nI k))] [] w1 P := by
  intro r
  induction r with
  | zero =>
    intro k w1 acc hk hf hst hal hS h hA
    have e0 : k = (v + 3) := by omega
    subst e0
    have hf : acc = fin := by simpa [cpB] using hf
    subst hf
    refine e_iload dd_Md_piece_210 rfl ?_
    refine e_iload dd_Md_piece_212 rfl ?_
    refine e_iconst_n 3 dd_Md_piece_214 (by decide) ?_
    refine e_iadd_n dd_Md_piece_215 ?_
    refine e_icmp_ge_n (tgt := 249) dd_Md_piece_216 (by decide) (by omega) (by omega) (fun _ => ?_) (fun h9 => absurd h9 (by omega))
    exact hK hal w1 hS h hA
  | succ r ih =>
    intro k w1 acc hk hf hst hal hS h hA
    have h69 : w1.1 69 = _ := h
    have h79a := (hS.2 79 (by decide) (by decide)).trans h79
    obtain ⟨hil, hbb, f77, h77, hf77⟩ := hI.keep (hS.2 77 (by decide) (by decide))
    obtain ⟨hal4, hab, f81, h81, hf81⟩ := id hA
    have hfl : fin.length = acc.length + (r + 1) := by rw [← hf]; simp [cpB_len]
    refine e_iload dd_Md_piece_210 rfl ?_
    refine e_iload dd_Md_piece_212 rfl ?_
    refine e_iconst_n 3 dd_Md_piece_214 (by decide) ?_
    refine e_iadd_n dd_Md_piece_215 ?_
    refine e_icmp_ge_n (tgt := 249) dd_Md_piece_216 (by decide) (by omega) (by omega) (fun h9 => absurd h9 (by omega)) (fun _ => ?_)
    by_cases hm : acc.length < q.2.2.2.2.1
    · refine e_aload_n dd_Md_piece_219 rfl ?_
      refine e_iload_n dd_Md_piece_220 rfl ?_
      refine e_aload_n dd_Md_piece_221 rfl ?_
      refine e_get dd_Md_piece_222 kf_Md_47 h69 rfl ?_
      refine e_aload_n dd_Md_piece_225 rfl ?_
      refine e_get dd_Md_piece_226 kf_Md_67 h69 rfl ?_
      refine e_iconst_n 1 dd_Md_piece_229 (by decide) ?_
      refine e_isub_n dd_Md_piece_230 (by omega) ?_
      refine e_iload dd_Md_piece_231 rfl ?_
      refine e_isub_n dd_Md_piece_233 (by omega) ?_
      refine e_iald dd_Md_piece_234 h81 rfl rfl (by omega) (by decide) ?_
      refine e_top (y := nI (acc.getD (acc.length - 1 - b) 0)) (hf81 _ (by omega)) ?_
      refine e_callVi (d1 := rr_Md_make) (As := [.int (nI j), .int (nI (acc.getD (acc.length - 1 - b) 0))]) (st := []) dd_Md_piece_235 km_Md_159 h69 rfl (by decide) rfl (Nat.le_of_ble_eq_true rfl) (Nat.le_of_ble_eq_true rfl) rfl rfl (c_Md_makeT h hA h79a hq hj hn (getD_lt hab (by omega)) hm) (fun v1 k1 => ?_)
      refine e_if_ne_b (tgt := 243) dd_Md_piece_238 (by decide) (fun _ => ?_) (fun h9 => absurd h9 (by decide))
      refine e_iinc_n (a := k) (k := 1) (lv1 := [(0, .ref 69), (1, .int (nI j)), (2, .int (nI i)), (3, .int (nI li)), (4, .int (nI v)), (5, .int (nI m)), (6, .int (nI b)), (7, .int (nI (k + 1)))]) dd_Md_piece_243 rfl (by decide) (by decide) rfl ?_
      refine e_goto (tgt := 210) dd_Md_piece_246 (by decide) ?_
      rw [show acc.length - 1 - b = acc.length - (b + 1) by omega] at k1
      have hla : (acc ++ [acc.getD (acc.length - (b + 1)) 0]).length = acc.length + 1 := by simp
      exact ih (k + 1) v1 (acc ++ [acc.getD (acc.length - (b + 1)) 0]) (by omega) hf (by omega) (by omega) (hS.tr k1.1) k1.2.1 k1.2.2
    · refine e_aload_n dd_Md_piece_219 rfl ?_
      refine e_iload_n dd_Md_piece_220 rfl ?_
      refine e_aload_n dd_Md_piece_221 rfl ?_
      refine e_get dd_Md_piece_222 kf_Md_47 h69 rfl ?_
      refine e_aload_n dd_Md_piece_225 rfl ?_
      refine e_get dd_Md_piece_226 kf_Md_67 h69 rfl ?_
      refine e_iconst_n 1 dd_Md_piece_229 (by decide) ?_
      refine e_isub_n dd_Md_piece_230 (by omega) ?_
      refine e_iload dd_Md_piece_231 rfl ?_
      refine e_isub_n dd_Md_piece_233 (by omega) ?_
      refine e_iald dd_Md_piece_234 h81 rfl rfl (by omega) (by decide) ?_
      refine e_top (y := nI (acc.getD (acc.length - 1 - b) 0)) (hf81 _ (by omega)) ?_
      refine e_callVp (d1 := rr_Md_make) (As := [.int (nI j), .int (nI (acc.getD (acc.length - 1 - b) 0))]) (st := []) dd_Md_piece_235 km_Md_159 h69 rfl (by decide) rfl (Nat.le_of_ble_eq_true rfl) (Nat.le_of_ble_eq_true rfl) rfl rfl (c_Md_makeF h hA h79a hq hj hn (by omega)) ?_
      refine e_if_ne_b (tgt := 243) dd_Md_piece_238 (by decide) (fun h9 => absurd h9 (by decide)) (fun _ => ?_)
      refine e_iconst_n 0 dd_Md_piece_241 (by decide) ?_
      exact e_iret dd_Md_piece_242 rfl (hZ (by omega) w1 acc hS hal h hA)
end MD
