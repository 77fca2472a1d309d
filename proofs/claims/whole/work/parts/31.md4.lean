/-! The reference: chain, index. -/
def mF (w : ab_W) (fs : List FW) : Prop := fs.length ≤ 6 ∧ ∃ f72 f73 f74 f75 f76, mC5 w f72 f73 f74 f75 f76 ∧ ∀ (i : Nat) (f : FW), fs[i]? = some f → fwOK f ∧ mfI f72 f73 f74 f75 f76 i f
theorem mF.at {w : ab_W} {fs : List FW} {i : Nat} {f : FW} (h : mF w fs) (hf : fs[i]? = some f) : mFi w i f := by
  obtain ⟨h1, f72, f73, f74, f75, f76, h2, h3⟩ := h
  have hi : i < fs.length := (List.getElem?_eq_some_iff.mp hf).1
  exact ⟨by omega, (h3 i f hf).1, f72, f73, f74, f75, f76, h2, (h3 i f hf).2⟩
theorem mF.ok {w : ab_W} {fs : List FW} (h : mF w fs) : ∀ (i : Nat) (f : FW), fs[i]? = some f → fwOK f := fun i f hf => (h.at hf).2.1
theorem mF.keep {w w2 : ab_W} {fs : List FW} (h : mF w fs) (hf : ∀ j, 72 ≤ j → j < 77 → w2.1 j = w.1 j) : mF w2 fs := by
  obtain ⟨h1, f72, f73, f74, f75, f76, h2, h3⟩ := h
  exact ⟨h1, f72, f73, f74, f75, f76, h2.keep hf, h3⟩
def rT (w w2 : ab_W) : Prop := w2.2 = w.2 ∧ ∀ j, j ≠ 69 → j ≠ 78 → j ≠ 81 → w2.1 j = w.1 j
theorem rT.rf {w : ab_W} : rT w w := ⟨rfl, fun _ _ _ _ => rfl⟩
theorem rT.tr {w w1 w2 : ab_W} (h1 : rT w w1) (h2 : rT w1 w2) : rT w w2 := ⟨h2.1.trans h1.1, fun j a b c => (h2.2 j a b c).trans (h1.2 j a b c)⟩
theorem rS.T8 {w w2 : ab_W} (h : rS w w2 69 78) : rT w w2 := ⟨h.1, fun j a b _ => h.2 j a b⟩
theorem rS.T1 {w w2 : ab_W} (h : rS w w2 69 81) : rT w w2 := ⟨h.1, fun j a _ c => h.2 j a c⟩
theorem mF.T {w w2 : ab_W} {fs : List FW} (h : mF w fs) (hT : rT w w2) : mF w2 fs := h.keep (fun j a b => hT.2 j (by omega) (by omega) (by omega))
theorem chn_snoc {fs : List FW} {i : Nat} {f : FW} (h : fs[i]? = some f) : chn (fs.take (i + 1)) = frec (chn (fs.take i)) f := by
  rw [take_snoc h, chn, chn, List.foldl_append]; rfl
section MD
variable {G : ab_G} {w : ab_W} {nl dl fl ln md op pl tk rq : Int32} {xs ds : List Nat} {i : Nat} {f : FW} {fs : List FW}
set_option maxRecDepth 100000 in
set_option maxHeartbeats 4000000 in
theorem l_Md_sum {a : Nat} {P : Option Value → ab_W → Prop} (h : mO w nl dl fl ln (nI ds.length) op pl tk rq) (hA : mA w 78 1200 ds) (R : Nat) (K : ab_E G mm_Md_chain rr_Md_chain 88 [(0, .ref 69), (1, .int (nI i)), (2, .int (nI a)), (3, .int (nI R)), (4, .int (nI ds.length))] [] w P) : ∀ n j s, j + n = ds.length → s ≤ 256 * j → sN ds s j n = R → ab_E G mm_Md_chain rr_Md_chain 63 [(0, .ref 69), (1, .int (nI i)), (2, .int (nI a)), (3, .int (nI s)), (4, .int (nI j))] [] w P := by
  have h69 : w.1 69 = _ := h
  obtain ⟨hl, hb, g, h78, hg⟩ := id hA
  intro n
  induction n with
  | zero =>
    intro j s hj hs hR
    have e0 : j = ds.length := by omega
    subst e0
    cases (show s = R from hR)
    refine e_iload dd_Md_chain_63 rfl ?_
    refine e_aload_n dd_Md_chain_65 rfl ?_
    refine e_get dd_Md_chain_66 kf_Md_96 h69 rfl ?_
    refine e_icmp_ge_n (tgt := 88) dd_Md_chain_69 (by decide) (by omega) (by omega) (fun _ => ?_) (fun h9 => absurd h9 (by omega))
    exact K
  | succ n ih =>
    intro j s hj hs hR
    have hx := getD_lt hb (j := j) (by omega)
    refine e_iload dd_Md_chain_63 rfl ?_
    refine e_aload_n dd_Md_chain_65 rfl ?_
    refine e_get dd_Md_chain_66 kf_Md_96 h69 rfl ?_
    refine e_icmp_ge_n (tgt := 88) dd_Md_chain_69 (by decide) (by omega) (by omega) (fun h9 => absurd h9 (by omega)) (fun _ => ?_)
    refine e_iload_n dd_Md_chain_72 rfl ?_
    refine e_aload_n dd_Md_chain_73 rfl ?_
    refine e_get dd_Md_chain_74 kf_Md_34 h69 rfl ?_
    refine e_iload dd_Md_chain_77 rfl ?_
    refine e_iald dd_Md_chain_79 h78 rfl rfl (by omega) (by decide) ?_
    refine e_top (y := nI (ds.getD j 0)) (hg j (by omega)) ?_
    refine e_iadd_n dd_Md_chain_80 ?_
    refine e_istore_n (lv1 := [(0, .ref 69), (1, .int (nI i)), (2, .int (nI a)), (3, .int (nI (s + (ds.getD j 0)))), (4, .int (nI j))]) dd_Md_chain_81 (by decide) rfl ?_
    refine e_iinc_n (a := j) (k := 1) (lv1 := [(0, .ref 69), (1, .int (nI i)), (2, .int (nI a)), (3, .int (nI (s + (ds.getD j 0)))), (4, .int (nI (j + 1)))]) dd_Md_chain_82 rfl (by decide) (by decide) rfl ?_
    refine e_goto (tgt := 63) dd_Md_chain_85 (by decide) ?_
    exact ih (j + 1) (s + ds.getD j 0) (by omega) (by omega) hR
set_option maxRecDepth 100000 in
set_option maxHeartbeats 4000000 in
theorem l_Md_zeros {a : Nat} {x3 x4 : Int32} {P : Option Value → ab_W → Prop} : ∀ (k : Nat) (w1 : ab_W) (ds : List Nat), (4 - ds.length % 4) % 4 = k → ds.length + k ≤ 1200 → mO w1 nl dl fl ln (nI ds.length) op pl tk rq → mA w1 78 1200 ds → (∀ w2, rS w1 w2 69 78 → mO w2 nl dl fl ln (nI (ds ++ List.replicate k 0).length) op pl tk rq → mA w2 78 1200 (ds ++ List.replicate k 0) → ab_E G mm_Md_chain rr_Md_chain 118 [(0, .ref 69), (1, .int (nI i)), (2, .int (nI a)), (3, .int x3), (4, .int x4)] [] w2 P) → ab_E G mm_Md_chain rr_Md_chain 101 [(0, .ref 69), (1, .int (nI i)), (2, .int (nI a)), (3, .int x3), (4, .int x4)] [] w1 P := by
  intro k
  induction k with
  | zero =>
    intro w1 ds hk hl h hA K
    have h69 : w1.1 69 = _ := h
    refine e_aload_n dd_Md_chain_101 rfl ?_
    refine e_get dd_Md_chain_102 kf_Md_96 h69 rfl ?_
    refine e_iconst_n 4 dd_Md_chain_105 (by decide) ?_
    refine e_irem_n dd_Md_chain_106 (by omega) (by decide) (by decide) ?_
    refine e_if_eq_n (tgt := 118) dd_Md_chain_107 (by decide) (by omega) (fun _ => ?_) (fun h9 => absurd h9 (by omega))
    exact K w1 rS.rf (by simpa using h) (by simpa using hA)
  | succ k ih =>
    intro w1 ds hk hl h hA K
    have h69 : w1.1 69 = _ := h
    have hl1 : (ds ++ [0]).length = ds.length + 1 := by simp
    have e1 : ds ++ [0] ++ List.replicate k 0 = ds ++ List.replicate (k + 1) 0 := by rw [List.append_assoc, List.replicate_succ]; rfl
    refine e_aload_n dd_Md_chain_101 rfl ?_
    refine e_get dd_Md_chain_102 kf_Md_96 h69 rfl ?_
    refine e_iconst_n 4 dd_Md_chain_105 (by decide) ?_
    refine e_irem_n dd_Md_chain_106 (by omega) (by decide) (by decide) ?_
    refine e_if_eq_n (tgt := 118) dd_Md_chain_107 (by decide) (by omega) (fun h9 => absurd h9 (by omega)) (fun _ => ?_)
    refine e_aload_n dd_Md_chain_110 rfl ?_
    refine e_iconst_n 0 dd_Md_chain_111 (by decide) ?_
    refine e_callVv (d1 := rr_Md_say) (As := [.int (nI 0)]) (st := []) dd_Md_chain_112 km_Md_99 h69 rfl (by decide) rfl (Nat.le_of_ble_eq_true rfl) (Nat.le_of_ble_eq_true rfl) rfl rfl (c_Md_say h hA (by decide) (by omega)) (fun v1 k1 => ?_)
    refine e_goto (tgt := 101) dd_Md_chain_115 (by decide) ?_
    exact ih v1 (ds ++ [0]) (by omega) (by omega) k1.2.1 k1.2.2 (fun w2 q1 q2 q3 => K w2 (k1.1.tr q1) (by rw [← e1]; exact q2) (by rw [← e1]; exact q3))
set_option maxRecDepth 100000 in
set_option maxHeartbeats 4000000 in
theorem l_Md_chain (hF : mF w fs) : ∀ (k i : Nat) (w1 : ab_W) (rq : Int32) (xs : List Nat), i + k = fs.length → rT w w1 → mO w1 nl dl (nI fs.length) ln (nI (chn (fs.take i)).length) op pl tk rq → mA w1 78 1200 (chn (fs.take i)) → mA w1 81 400 xs → ab_E G mm_Md_chain rr_Md_chain 2 [(0, .ref 69), (1, .int (nI i))] [] w1 (pV fun w2 => rT w w2 ∧ (∃ rq, mO w2 nl dl (nI fs.length) ln (nI (chain fs).length) op pl tk rq) ∧ mA w2 78 1200 (chain fs) ∧ ∃ xs, mA w2 81 400 xs) := by
  have hl6 := hF.1
  intro k
  induction k with
  | zero =>
    intro i w1 rq xs hi hT h hA hX
    have h69 : w1.1 69 = _ := h
    have hcl := chn_len hF.ok i (by omega)
    have e0 : fs.take i = fs := List.take_of_length_le (by omega)
    rw [e0] at h69 h hA hcl
    refine e_iload_n dd_Md_chain_2 rfl ?_
    refine e_aload_n dd_Md_chain_3 rfl ?_
    refine e_get dd_Md_chain_4 kf_Md_64 h69 rfl ?_
    refine e_icmp_ge_n (tgt := 124) dd_Md_chain_7 (by decide) (by omega) (by omega) (fun _ => ?_) (fun h9 => absurd h9 (by omega))
    refine e_aload_n dd_Md_chain_124 rfl ?_
    refine e_bipush_n 69 dd_Md_chain_125 (by decide) ?_
    refine e_callVv (d1 := rr_Md_say) (As := [.int (nI 69)]) (st := []) dd_Md_chain_127 km_Md_99 h69 rfl (by decide) rfl (Nat.le_of_ble_eq_true rfl) (Nat.le_of_ble_eq_true rfl) rfl rfl (c_Md_say h hA (by decide) (by omega)) (fun v1 k1 => ?_)
    exact e_vret dd_Md_chain_130 rfl (pV_of ⟨hT.tr k1.1.T8, ⟨_, k1.2.1⟩, k1.2.2, xs, hX.fr k1.1 (by decide) (by decide)⟩)
  | succ k ih =>
    intro i w1 rq xs hi hT h hA hX
    have h69 : w1.1 69 = _ := h
    have hcl := chn_len hF.ok i (by omega)
    have hil : i < fs.length := by omega
    have hfi : fs[i]? = some fs[i] := List.getElem?_eq_getElem hil
    generalize fs[i] = f at hfi
    have hFi := (hF.T hT).at hfi
    have hok := hFi.2.1
    have hfl := fsq_len hok
    have hl60 := hok.2.2.2.1
    have hl8 := hok.2.1
    have hck := crc_lt f.2.2
    have ech := chn_snoc hfi
    generalize chn (fs.take i) = ac at h69 h hA hcl ech
    refine e_iload_n dd_Md_chain_2 rfl ?_
    refine e_aload_n dd_Md_chain_3 rfl ?_
    refine e_get dd_Md_chain_4 kf_Md_64 h69 rfl ?_
    refine e_icmp_ge_n (tgt := 124) dd_Md_chain_7 (by decide) (by omega) (by omega) (fun h9 => absurd h9 (by omega)) (fun _ => ?_)
    refine e_aload_n dd_Md_chain_10 rfl ?_
    refine e_get dd_Md_chain_11 kf_Md_96 h69 rfl ?_
    refine e_istore_n (lv1 := [(0, .ref 69), (1, .int (nI i)), (2, .int (nI ac.length))]) dd_Md_chain_14 (by decide) rfl ?_
    refine e_aload_n dd_Md_chain_15 rfl ?_
    refine e_iload_n dd_Md_chain_16 rfl ?_
    refine e_callVv (d1 := rr_Md_squeeze) (As := [.int (nI i)]) (st := []) dd_Md_chain_17 km_Md_102 h69 rfl (by decide) rfl (Nat.le_of_ble_eq_true rfl) (Nat.le_of_ble_eq_true rfl) rfl rfl (c_Md_squeeze h hX hFi) (fun v1 k1 => ?_)
    obtain ⟨k1s, k1o, k1x⟩ := k1
    have hFi := hFi.fr k1s (by decide)
    have k1a := hA.fr k1s (by decide) (by decide)
    have h1 : v1.1 69 = _ := k1o
    refine e_aload_n dd_Md_chain_20 rfl ?_
    refine e_bipush_n 67 dd_Md_chain_21 (by decide) ?_
    refine e_callVv (d1 := rr_Md_say) (As := [.int (nI 67)]) (st := []) dd_Md_chain_23 km_Md_99 h1 rfl (by decide) rfl (Nat.le_of_ble_eq_true rfl) (Nat.le_of_ble_eq_true rfl) rfl rfl (c_Md_say k1o k1a (by decide) (by omega)) (fun v2 k2 => ?_)
    obtain ⟨k2s, k2o, k2a⟩ := k2
    have hFi := hFi.fr k2s (by decide)
    have k2x := k1x.fr k2s (by decide) (by decide)
    have h2 : v2.1 69 = _ := k2o
    refine e_aload_n dd_Md_chain_26 rfl ?_
    refine e_iload_n dd_Md_chain_27 rfl ?_
    refine e_callVv (d1 := rr_Md_sayHead) (As := [.int (nI i)]) (st := []) dd_Md_chain_28 km_Md_105 h2 rfl (by decide) rfl (Nat.le_of_ble_eq_true rfl) (Nat.le_of_ble_eq_true rfl) rfl rfl (c_Md_sayHead k2o k2a hFi (by rw [List.length_append, List.length_singleton]; omega)) (fun v3 k3 => ?_)
    obtain ⟨k3s, k3o, k3a⟩ := k3
    have hFi := hFi.fr k3s (by decide)
    have k3x := k2x.fr k3s (by decide) (by decide)
    have hlc : (ac ++ [67] ++ ([f.2.1, f.1.length] ++ f.1)).length = ac.length + 3 + f.1.length := by simp; omega
    generalize hb : ac ++ [67] ++ ([f.2.1, f.1.length] ++ f.1) = b at k3o k3a hlc
    have h3 : v3.1 69 = _ := k3o
    refine e_aload_n dd_Md_chain_31 rfl ?_
    refine e_aload_n dd_Md_chain_32 rfl ?_
    refine e_get dd_Md_chain_33 kf_Md_67 h3 rfl ?_
    refine e_callVv (d1 := rr_Md_say) (As := [.int (nI (fsq f).length)]) (st := []) dd_Md_chain_36 km_Md_99 h3 rfl (by decide) rfl (Nat.le_of_ble_eq_true rfl) (Nat.le_of_ble_eq_true rfl) rfl rfl (c_Md_say k3o k3a (by omega) (by omega)) (fun v4 k4 => ?_)
    obtain ⟨k4s, k4o, k4a⟩ := k4
    have hFi := hFi.fr k4s (by decide)
    have k4x := k3x.fr k4s (by decide) (by decide)
    obtain ⟨-, -, f72, f73, f74, f75, f76, ⟨-, -, -, h75, -⟩, -, -, hd, -, -⟩ := id hFi
    have h4 : v4.1 69 = _ := k4o
    refine e_aload_n dd_Md_chain_39 rfl ?_
    refine e_aload_n dd_Md_chain_40 rfl ?_
    refine e_get dd_Md_chain_41 kf_Md_25 h4 rfl ?_
    refine e_iload_n dd_Md_chain_44 rfl ?_
    refine e_iald dd_Md_chain_45 h75 rfl rfl (by omega) (by decide) ?_
    refine e_top (y := nI f.2.2.length) hd ?_
    refine e_callVv (d1 := rr_Md_say) (As := [.int (nI f.2.2.length)]) (st := []) dd_Md_chain_46 km_Md_99 h4 rfl (by decide) rfl (Nat.le_of_ble_eq_true rfl) (Nat.le_of_ble_eq_true rfl) rfl rfl (c_Md_say k4o k4a (by omega) (by simp; omega)) (fun v5 k5 => ?_)
    obtain ⟨k5s, k5o, k5a⟩ := k5
    have hFi := hFi.fr k5s (by decide)
    have k5x := k4x.fr k5s (by decide) (by decide)
    have h5 : v5.1 69 = _ := k5o
    refine e_aload_n dd_Md_chain_49 rfl ?_
    refine e_aload_n dd_Md_chain_50 rfl ?_
    refine e_iload_n dd_Md_chain_51 rfl ?_
    refine e_callVp (d1 := rr_Md_checkOf) (As := [.int (nI i)]) (st := [.ref 69]) dd_Md_chain_52 km_Md_108 h5 rfl (by decide) rfl (Nat.le_of_ble_eq_true rfl) (Nat.le_of_ble_eq_true rfl) rfl rfl (c_Md_checkOf k5o hFi) ?_
    refine e_callVv (d1 := rr_Md_sayTwo) (As := [.int (nI (crc f.2.2))]) (st := []) dd_Md_chain_55 km_Md_112 h5 rfl (by decide) rfl (Nat.le_of_ble_eq_true rfl) (Nat.le_of_ble_eq_true rfl) rfl rfl (c_Md_sayTwo k5o k5a hck (by simp; omega)) (fun v6 k6 => ?_)
    obtain ⟨k6s, k6o, k6a⟩ := k6
    have hFi := hFi.fr k6s (by decide)
    have k6x := k5x.fr k6s (by decide) (by decide)
    have e6 : b ++ [(fsq f).length] ++ [f.2.2.length] ++ [crc f.2.2 / 256, crc f.2.2 % 256] = ac ++ hd1 f.1 (fsq f).length f.2.1 f.2.2.length (crc f.2.2) := by rw [← hb, hd1]; simp
    rw [e6] at k6o k6a
    have hd1l := hd1_len f.1 (fsq f).length f.2.1 f.2.2.length (crc f.2.2)
    have efr : frec ac f = recP (ac ++ hd1 f.1 (fsq f).length f.2.1 f.2.2.length (crc f.2.2) ++ [(hd1 f.1 (fsq f).length f.2.1 f.2.2.length (crc f.2.2)).sum % 256] ++ fsq f) := rfl
    generalize hd1 f.1 (fsq f).length f.2.1 f.2.2.length (crc f.2.2) = hh at k6o k6a hd1l efr
    have hlh : (ac ++ hh).length = ac.length + hh.length := List.length_append
    have hsum : sN (ac ++ hh) 0 ac.length hh.length = hh.sum := by
      rw [sN_sum _ _ _ _ (by omega), List.drop_left, List.take_length, Nat.zero_add]
    have h6 : v6.1 69 = _ := k6o
    refine e_iconst_n 0 dd_Md_chain_58 (by decide) ?_
    refine e_istore_n (lv1 := [(0, .ref 69), (1, .int (nI i)), (2, .int (nI ac.length)), (3, .int (nI 0))]) dd_Md_chain_59 (by decide) rfl ?_
    refine e_iload_n dd_Md_chain_60 rfl ?_
    refine e_istore (lv1 := [(0, .ref 69), (1, .int (nI i)), (2, .int (nI ac.length)), (3, .int (nI 0)), (4, .int (nI ac.length))]) dd_Md_chain_61 (by decide) rfl ?_
    refine l_Md_sum k6o k6a hh.sum ?_ hh.length ac.length 0 (by omega) (by omega) hsum
    have hsl : hh.sum < 2 ^ 31 := by
      have q := sN_le k6a.2.1 hh.length 0 ac.length (by omega)
      rw [hsum] at q
      omega
    refine e_aload_n dd_Md_chain_88 rfl ?_
    refine e_iload_n dd_Md_chain_89 rfl ?_
    refine e_sipush_n 255 dd_Md_chain_90 (by decide) ?_
    refine e_iand_n 8 dd_Md_chain_93 (by omega) (by decide) ?_
    refine e_callVv (d1 := rr_Md_say) (As := [.int (nI (hh.sum % 2 ^ 8))]) (st := []) dd_Md_chain_94 km_Md_99 h6 rfl (by decide) rfl (Nat.le_of_ble_eq_true rfl) (Nat.le_of_ble_eq_true rfl) rfl rfl (c_Md_say k6o k6a (by omega) (by omega)) (fun v7 k7 => ?_)
    obtain ⟨k7s, k7o, k7a⟩ := k7
    have k7x := k6x.fr k7s (by decide) (by decide)
    have hl7 : (ac ++ hh ++ [hh.sum % 2 ^ 8]).length = ac.length + hh.length + 1 := by simp; omega
    have h7 : v7.1 69 = _ := k7o
    refine e_aload_n dd_Md_chain_97 rfl ?_
    refine e_callVv (d1 := rr_Md_sayRow) (As := []) (st := []) dd_Md_chain_98 km_Md_115 h7 rfl (by decide) rfl (Nat.le_of_ble_eq_true rfl) (Nat.le_of_ble_eq_true rfl) rfl rfl (c_Md_sayRow k7o k7a k7x (by omega)) (fun v8 k8 => ?_)
    obtain ⟨k8s, k8o, k8a⟩ := k8
    have k8x := k7x.fr k8s (by decide) (by decide)
    have hl8 : (ac ++ hh ++ [hh.sum % 2 ^ 8] ++ fsq f).length = ac.length + hh.length + 1 + (fsq f).length := by rw [List.length_append, hl7]
    refine l_Md_zeros _ v8 _ rfl (by omega) k8o k8a (fun w2 q1 q2 q3 => ?_)
    have eq : ac ++ hh ++ [hh.sum % 2 ^ 8] ++ fsq f ++ List.replicate ((4 - (ac ++ hh ++ [hh.sum % 2 ^ 8] ++ fsq f).length % 4) % 4) 0 = chn (fs.take (i + 1)) := by rw [ech, efr]; rfl
    rw [eq] at q2 q3
    refine e_iinc_n (a := i) (k := 1) (lv1 := [(0, .ref 69), (1, .int (nI (i + 1))), (2, .int (nI ac.length)), (3, .int (nI hh.sum)), (4, .int (nI (ac ++ hh).length))]) dd_Md_chain_118 rfl (by decide) (by decide) rfl ?_
    refine e_goto (tgt := 2) dd_Md_chain_121 (by decide) ?_
    refine e_rm (lv1 := [(0, .ref 69), (1, .int (nI (i + 1))), (2, .int (nI ac.length)), (3, .int (nI hh.sum))]) 4 rfl ?_
    refine e_rm (lv1 := [(0, .ref 69), (1, .int (nI (i + 1))), (2, .int (nI ac.length))]) 3 rfl ?_
    refine e_rm (lv1 := [(0, .ref 69), (1, .int (nI (i + 1)))]) 2 rfl ?_
    exact ih (i + 1) w2 _ _ (by omega) (hT.tr (k1s.T1.tr (k2s.T8.tr (k3s.T8.tr (k4s.T8.tr (k5s.T8.tr (k6s.T8.tr (k7s.T8.tr (k8s.T8.tr q1.T8))))))))) q2 q3 (k8x.fr q1 (by decide) (by decide))
set_option maxRecDepth 100000 in
set_option maxHeartbeats 4000000 in
theorem c_Md_chain (h : mO w nl dl (nI fs.length) ln (nI 0) op pl tk rq) (hA : mA w 78 1200 []) (hX : mA w 81 400 xs) (hF : mF w fs) : ab_E G mm_Md_chain rr_Md_chain 0 [(0, .ref 69)] [] w (pV fun w2 => rT w w2 ∧ (∃ rq, mO w2 nl dl (nI fs.length) ln (nI (chain fs).length) op pl tk rq) ∧ mA w2 78 1200 (chain fs) ∧ ∃ xs, mA w2 81 400 xs) := by
  refine e_iconst_n 0 dd_Md_chain_0 (by decide) ?_
  refine e_istore_n (lv1 := [(0, .ref 69), (1, .int (nI 0))]) dd_Md_chain_1 (by decide) rfl ?_
  exact l_Md_chain hF fs.length 0 w rq xs (by omega) rT.rf h hA hX
set_option maxRecDepth 100000 in
set_option maxHeartbeats 4000000 in
theorem l_Md_crc {D at_ : Nat} {P : Option Value → ab_W → Prop} (h : mO w nl dl fl ln (nI ds.length) op pl tk rq) (hA : mA w 78 1200 ds) (R : Nat) (K : ab_E G mm_Md_index rr_Md_index 136 [(0, .ref 69), (1, .int (nI D)), (2, .int (nI at_)), (3, .int (nI R)), (4, .int (nI ds.length))] [] w P) : ∀ n j c, j + n = ds.length → c < 65536 → cN ds c j n = R → ab_E G mm_Md_index rr_Md_index 109 [(0, .ref 69), (1, .int (nI D)), (2, .int (nI at_)), (3, .int (nI c)), (4, .int (nI j))] [] w P := by
  have h69 : w.1 69 = _ := h
  obtain ⟨hl, hb, g, h78, hg⟩ := id hA
  intro n
  induction n with
  | zero =>
    intro j c hj hc hR
    have e0 : j = ds.length := by omega
    subst e0
    cases (show c = R from hR)
    refine e_iload dd_Md_index_109 rfl ?_
    refine e_aload_n dd_Md_index_111 rfl ?_
    refine e_get dd_Md_index_112 kf_Md_96 h69 rfl ?_
    refine e_icmp_ge_n (tgt := 136) dd_Md_index_115 (by decide) (by omega) (by omega) (fun _ => ?_) (fun h9 => absurd h9 (by omega))
    exact K
  | succ n ih =>
    intro j c hj hc hR
    refine e_iload dd_Md_index_109 rfl ?_
    refine e_aload_n dd_Md_index_111 rfl ?_
    refine e_get dd_Md_index_112 kf_Md_96 h69 rfl ?_
    refine e_icmp_ge_n (tgt := 136) dd_Md_index_115 (by decide) (by omega) (by omega) (fun h9 => absurd h9 (by omega)) (fun _ => ?_)
    refine e_iload_n dd_Md_index_118 rfl ?_
    refine e_aload_n dd_Md_index_119 rfl ?_
    refine e_get dd_Md_index_120 kf_Md_34 h69 rfl ?_
    refine e_iload dd_Md_index_123 rfl ?_
    refine e_iald dd_Md_index_125 h78 rfl rfl (by omega) (by decide) ?_
    refine e_top (y := nI (ds.getD j 0)) (hg j (by omega)) ?_
    refine e_callSp (d1 := rr_Md_checked) (As := [.int (nI c), .int (nI (ds.getD j 0))]) (st := []) dd_Md_index_126 km_Md_93 (by decide) rfl (Nat.le_of_ble_eq_true rfl) (Nat.le_of_ble_eq_true rfl) rfl rfl (c_Md_checked hc (getD_lt hb (by omega))) ?_
    refine e_istore_n (lv1 := [(0, .ref 69), (1, .int (nI D)), (2, .int (nI at_)), (3, .int (nI (c1 c (ds.getD j 0)))), (4, .int (nI j))]) dd_Md_index_129 (by decide) rfl ?_
    refine e_iinc_n (a := j) (k := 1) (lv1 := [(0, .ref 69), (1, .int (nI D)), (2, .int (nI at_)), (3, .int (nI (c1 c (ds.getD j 0)))), (4, .int (nI (j + 1)))]) dd_Md_index_130 rfl (by decide) (by decide) rfl ?_
    refine e_goto (tgt := 109) dd_Md_index_133 (by decide) ?_
    exact ih (j + 1) _ (by omega) (c1_lt hc) hR
set_option maxRecDepth 100000 in
set_option maxHeartbeats 4000000 in
theorem l_Md_entries (hF : mF w fs) {D : Nat} (hD : D = (dat fs).length) : ∀ (k i : Nat) (w1 : ab_W) (rq : Int32) (xs : List Nat), i + k = fs.length → rT w w1 → mO w1 nl dl (nI fs.length) ln (nI (dat fs ++ entN fs i).length) op pl tk rq → mA w1 78 1200 (dat fs ++ entN fs i) → mA w1 81 400 xs → ab_E G mm_Md_index rr_Md_index 40 [(0, .ref 69), (1, .int (nI D)), (2, .int (nI (plc fs i))), (3, .int (nI i))] [] w1 (pV fun w2 => rT w w2 ∧ (∃ rq, mO w2 nl dl (nI fs.length) ln (nI (index fs).length) op pl tk rq) ∧ mA w2 78 1200 (index fs) ∧ ∃ xs, mA w2 81 400 xs) := by
  have hl6 := hF.1
  have hdl := dat_len hF.ok fs.length (by omega)
  rw [List.take_length] at hdl
  intro k
  induction k with
  | zero =>
    intro i w1 rq xs hi hT h hA hX
    have e0 : i = fs.length := by omega
    subst e0
    have h69 : w1.1 69 = _ := h
    have hel := entN_len hF.ok fs.length (by omega)
    have hla : (dat fs ++ entN fs fs.length).length = D + (entN fs fs.length).length := by rw [List.length_append, hD]
    have hcr : cN (dat fs ++ entN fs fs.length) 65535 D (entN fs fs.length).length = crc (entN fs fs.length) := by
      rw [cN_fold _ _ _ _ (by omega), hD, List.drop_left, List.take_length]; rfl
    have hcl := crc_lt (entN fs fs.length)
    have eix : index fs = dat fs ++ entN fs fs.length ++ [88, fs.length, (dat fs).length / 256, (dat fs).length % 256, crc (entN fs fs.length) / 256, crc (entN fs fs.length) % 256] := rfl
    rw [← hD] at eix hdl
    generalize crc (entN fs fs.length) = C at hcr hcl eix
    generalize hds : dat fs ++ entN fs fs.length = ds at h h69 hA hla hcr eix
    refine e_iload_n dd_Md_index_40 rfl ?_
    refine e_aload_n dd_Md_index_41 rfl ?_
    refine e_get dd_Md_index_42 kf_Md_64 h69 rfl ?_
    refine e_icmp_ge_n (tgt := 103) dd_Md_index_45 (by decide) (by omega) (by omega) (fun _ => ?_) (fun h9 => absurd h9 (by omega))
    refine e_ldc (v := 65535) dd_Md_index_103 ww_606 ?_
    refine e_top (y := nI 65535) (by decide) ?_
    refine e_istore_n (lv1 := [(0, .ref 69), (1, .int (nI D)), (2, .int (nI (plc fs fs.length))), (3, .int (nI 65535))]) dd_Md_index_105 (by decide) rfl ?_
    refine e_iload_n dd_Md_index_106 rfl ?_
    refine e_istore (lv1 := [(0, .ref 69), (1, .int (nI D)), (2, .int (nI (plc fs fs.length))), (3, .int (nI 65535)), (4, .int (nI D))]) dd_Md_index_107 (by decide) rfl ?_
    refine l_Md_crc h hA C ?_ (entN fs fs.length).length D 65535 (by omega) (by decide) hcr
    refine e_aload_n dd_Md_index_136 rfl ?_
    refine e_bipush_n 88 dd_Md_index_137 (by decide) ?_
    refine e_callVv (d1 := rr_Md_say) (As := [.int (nI 88)]) (st := []) dd_Md_index_139 km_Md_99 h69 rfl (by decide) rfl (Nat.le_of_ble_eq_true rfl) (Nat.le_of_ble_eq_true rfl) rfl rfl (c_Md_say h hA (by decide) (by omega)) (fun v1 k1 => ?_)
    obtain ⟨k1s, k1o, k1a⟩ := k1
    have h1 : v1.1 69 = _ := k1o
    refine e_aload_n dd_Md_index_142 rfl ?_
    refine e_aload_n dd_Md_index_143 rfl ?_
    refine e_get dd_Md_index_144 kf_Md_64 h1 rfl ?_
    refine e_callVv (d1 := rr_Md_say) (As := [.int (nI fs.length)]) (st := []) dd_Md_index_147 km_Md_99 h1 rfl (by decide) rfl (Nat.le_of_ble_eq_true rfl) (Nat.le_of_ble_eq_true rfl) rfl rfl (c_Md_say k1o k1a (by omega) (by simp; omega)) (fun v2 k2 => ?_)
    obtain ⟨k2s, k2o, k2a⟩ := k2
    have h2 : v2.1 69 = _ := k2o
    refine e_aload_n dd_Md_index_150 rfl ?_
    refine e_iload_n dd_Md_index_151 rfl ?_
    refine e_callVv (d1 := rr_Md_sayTwo) (As := [.int (nI D)]) (st := []) dd_Md_index_152 km_Md_112 h2 rfl (by decide) rfl (Nat.le_of_ble_eq_true rfl) (Nat.le_of_ble_eq_true rfl) rfl rfl (c_Md_sayTwo k2o k2a (by omega) (by simp; omega)) (fun v3 k3 => ?_)
    obtain ⟨k3s, k3o, k3a⟩ := k3
    have h3 : v3.1 69 = _ := k3o
    refine e_aload_n dd_Md_index_155 rfl ?_
    refine e_iload_n dd_Md_index_156 rfl ?_
    refine e_callVv (d1 := rr_Md_sayTwo) (As := [.int (nI C)]) (st := []) dd_Md_index_157 km_Md_112 h3 rfl (by decide) rfl (Nat.le_of_ble_eq_true rfl) (Nat.le_of_ble_eq_true rfl) rfl rfl (c_Md_sayTwo k3o k3a hcl (by simp; omega)) (fun v4 k4 => ?_)
    obtain ⟨k4s, k4o, k4a⟩ := k4
    have e4 : ds ++ [88] ++ [fs.length] ++ [D / 256, D % 256] ++ [C / 256, C % 256] = index fs := by rw [eix]; simp
    rw [e4] at k4o k4a
    have kk := k1s.tr (k2s.tr (k3s.tr k4s))
    exact e_vret dd_Md_index_160 rfl (pV_of ⟨hT.tr kk.T8, ⟨_, k4o⟩, k4a, xs, hX.fr kk (by decide) (by decide)⟩)
  | succ k ih =>
    intro i w1 rq xs hi hT h hA hX
    have h69 : w1.1 69 = _ := h
    have hel := entN_len hF.ok i (by omega)
    have hil : i < fs.length := by omega
    have hfi : fs[i]? = some fs[i] := List.getElem?_eq_getElem hil
    generalize fs[i] = f at hfi
    have hFi := (hF.T hT).at hfi
    have hok := hFi.2.1
    have hfl := fsq_len hok
    have hl60 := hok.2.2.2.1
    have hl8 := hok.2.1
    have hck := crc_lt f.2.2
    have hpl : plc fs i ≤ 1 + 120 * i := dat_len hF.ok i (by omega)
    have hpl2 : plc fs (i + 1) = plc fs i + (fsq f).length := by rw [plc, dat_snoc hfi, List.length_append]; rfl
    have hla : (dat fs ++ entN fs i).length = (dat fs).length + (entN fs i).length := List.length_append
    have een : dat fs ++ entN fs (i + 1) = dat fs ++ entN fs i ++ ent1 f.1 (fsq f).length f.2.1 f.2.2.length (crc f.2.2) (plc fs i) := by
      rw [List.append_assoc]
      congr 1
      rw [entN, hfi]
      rfl
    generalize plc fs i = A at hpl hpl2 een
    generalize dat fs ++ entN fs i = ac at h h69 hA hla een
    refine e_iload_n dd_Md_index_40 rfl ?_
    refine e_aload_n dd_Md_index_41 rfl ?_
    refine e_get dd_Md_index_42 kf_Md_64 h69 rfl ?_
    refine e_icmp_ge_n (tgt := 103) dd_Md_index_45 (by decide) (by omega) (by omega) (fun h9 => absurd h9 (by omega)) (fun _ => ?_)
    refine e_aload_n dd_Md_index_48 rfl ?_
    refine e_iload_n dd_Md_index_49 rfl ?_
    refine e_callVv (d1 := rr_Md_squeeze) (As := [.int (nI i)]) (st := []) dd_Md_index_50 km_Md_102 h69 rfl (by decide) rfl (Nat.le_of_ble_eq_true rfl) (Nat.le_of_ble_eq_true rfl) rfl rfl (c_Md_squeeze h hX hFi) (fun v1 k1 => ?_)
    obtain ⟨k1s, k1o, k1x⟩ := k1
    have hFi := hFi.fr k1s (by decide)
    have k1a := hA.fr k1s (by decide) (by decide)
    have h1 : v1.1 69 = _ := k1o
    refine e_aload_n dd_Md_index_53 rfl ?_
    refine e_iload_n dd_Md_index_54 rfl ?_
    refine e_callVv (d1 := rr_Md_sayHead) (As := [.int (nI i)]) (st := []) dd_Md_index_55 km_Md_105 h1 rfl (by decide) rfl (Nat.le_of_ble_eq_true rfl) (Nat.le_of_ble_eq_true rfl) rfl rfl (c_Md_sayHead k1o k1a hFi (by omega)) (fun v2 k2 => ?_)
    obtain ⟨k2s, k2o, k2a⟩ := k2
    have hFi := hFi.fr k2s (by decide)
    have k2x := k1x.fr k2s (by decide) (by decide)
    have hlb : (ac ++ ([f.2.1, f.1.length] ++ f.1)).length = ac.length + 2 + f.1.length := by simp; omega
    generalize hb : ac ++ ([f.2.1, f.1.length] ++ f.1) = b at k2o k2a hlb
    have h2 : v2.1 69 = _ := k2o
    refine e_aload_n dd_Md_index_58 rfl ?_
    refine e_iload_n dd_Md_index_59 rfl ?_
    refine e_callVv (d1 := rr_Md_sayTwo) (As := [.int (nI A)]) (st := []) dd_Md_index_60 km_Md_112 h2 rfl (by decide) rfl (Nat.le_of_ble_eq_true rfl) (Nat.le_of_ble_eq_true rfl) rfl rfl (c_Md_sayTwo k2o k2a (by omega) (by omega)) (fun v3 k3 => ?_)
    obtain ⟨k3s, k3o, k3a⟩ := k3
    have hFi := hFi.fr k3s (by decide)
    have k3x := k2x.fr k3s (by decide) (by decide)
    have hlc : (b ++ [A / 256, A % 256]).length = b.length + 2 := by simp
    generalize hc : b ++ [A / 256, A % 256] = c at k3o k3a hlc
    have h3 : v3.1 69 = _ := k3o
    refine e_aload_n dd_Md_index_63 rfl ?_
    refine e_aload_n dd_Md_index_64 rfl ?_
    refine e_get dd_Md_index_65 kf_Md_67 h3 rfl ?_
    refine e_callVv (d1 := rr_Md_say) (As := [.int (nI (fsq f).length)]) (st := []) dd_Md_index_68 km_Md_99 h3 rfl (by decide) rfl (Nat.le_of_ble_eq_true rfl) (Nat.le_of_ble_eq_true rfl) rfl rfl (c_Md_say k3o k3a (by omega) (by omega)) (fun v4 k4 => ?_)
    obtain ⟨k4s, k4o, k4a⟩ := k4
    have hFi := hFi.fr k4s (by decide)
    have k4x := k3x.fr k4s (by decide) (by decide)
    obtain ⟨-, -, f72, f73, f74, f75, f76, ⟨-, -, -, h75, -⟩, -, -, hd, -, -⟩ := id hFi
    have h4 : v4.1 69 = _ := k4o
    refine e_aload_n dd_Md_index_71 rfl ?_
    refine e_aload_n dd_Md_index_72 rfl ?_
    refine e_get dd_Md_index_73 kf_Md_25 h4 rfl ?_
    refine e_iload_n dd_Md_index_76 rfl ?_
    refine e_iald dd_Md_index_77 h75 rfl rfl (by omega) (by decide) ?_
    refine e_top (y := nI f.2.2.length) hd ?_
    refine e_callVv (d1 := rr_Md_say) (As := [.int (nI f.2.2.length)]) (st := []) dd_Md_index_78 km_Md_99 h4 rfl (by decide) rfl (Nat.le_of_ble_eq_true rfl) (Nat.le_of_ble_eq_true rfl) rfl rfl (c_Md_say k4o k4a (by omega) (by simp; omega)) (fun v5 k5 => ?_)
    obtain ⟨k5s, k5o, k5a⟩ := k5
    have hFi := hFi.fr k5s (by decide)
    have k5x := k4x.fr k5s (by decide) (by decide)
    have h5 : v5.1 69 = _ := k5o
    refine e_aload_n dd_Md_index_81 rfl ?_
    refine e_aload_n dd_Md_index_82 rfl ?_
    refine e_iload_n dd_Md_index_83 rfl ?_
    refine e_callVp (d1 := rr_Md_checkOf) (As := [.int (nI i)]) (st := [.ref 69]) dd_Md_index_84 km_Md_108 h5 rfl (by decide) rfl (Nat.le_of_ble_eq_true rfl) (Nat.le_of_ble_eq_true rfl) rfl rfl (c_Md_checkOf k5o hFi) ?_
    refine e_callVv (d1 := rr_Md_sayTwo) (As := [.int (nI (crc f.2.2))]) (st := []) dd_Md_index_87 km_Md_112 h5 rfl (by decide) rfl (Nat.le_of_ble_eq_true rfl) (Nat.le_of_ble_eq_true rfl) rfl rfl (c_Md_sayTwo k5o k5a hck (by simp; omega)) (fun v6 k6 => ?_)
    obtain ⟨k6s, k6o, k6a⟩ := k6
    have k6x := k5x.fr k6s (by decide) (by decide)
    have e6 : c ++ [(fsq f).length] ++ [f.2.2.length] ++ [crc f.2.2 / 256, crc f.2.2 % 256] = dat fs ++ entN fs (i + 1) := by rw [een, ← hc, ← hb, ent1]; simp
    rw [e6] at k6o k6a
    have h6 : v6.1 69 = _ := k6o
    refine e_iload_n dd_Md_index_90 rfl ?_
    refine e_aload_n dd_Md_index_91 rfl ?_
    refine e_get dd_Md_index_92 kf_Md_67 h6 rfl ?_
    refine e_iadd dd_Md_index_95 ?_
    refine e_istore_n (lv1 := [(0, .ref 69), (1, .int (nI D)), (2, .int ((nI A) + (nI (fsq f).length))), (3, .int (nI i))]) dd_Md_index_96 (by decide) rfl ?_
    refine e_iinc_n (a := i) (k := 1) (lv1 := [(0, .ref 69), (1, .int (nI D)), (2, .int ((nI A) + (nI (fsq f).length))), (3, .int (nI (i + 1)))]) dd_Md_index_97 rfl (by decide) (by decide) rfl ?_
    refine e_goto (tgt := 40) dd_Md_index_100 (by decide) ?_
    rw [nI_add, ← hpl2]
    exact ih (i + 1) v6 _ _ (by omega) (hT.tr (k1s.T1.tr (k2s.T8.tr (k3s.T8.tr (k4s.T8.tr (k5s.T8.tr k6s.T8)))))) k6o k6a k6x
set_option maxRecDepth 100000 in
set_option maxHeartbeats 4000000 in
theorem l_Md_data (hF : mF w fs) : ∀ (k i : Nat) (w1 : ab_W) (rq : Int32) (xs : List Nat), i + k = fs.length → rT w w1 → mO w1 nl dl (nI fs.length) ln (nI (dat (fs.take i)).length) op pl tk rq → mA w1 78 1200 (dat (fs.take i)) → mA w1 81 400 xs → ab_E G mm_Md_index rr_Md_index 8 [(0, .ref 69), (1, .int (nI i))] [] w1 (pV fun w2 => rT w w2 ∧ (∃ rq, mO w2 nl dl (nI fs.length) ln (nI (index fs).length) op pl tk rq) ∧ mA w2 78 1200 (index fs) ∧ ∃ xs, mA w2 81 400 xs) := by
  have hl6 := hF.1
  intro k
  induction k with
  | zero =>
    intro i w1 rq xs hi hT h hA hX
    have h69 : w1.1 69 = _ := h
    have e0 : fs.take i = fs := List.take_of_length_le (by omega)
    rw [e0] at h69 h hA
    refine e_iload_n dd_Md_index_8 rfl ?_
    refine e_aload_n dd_Md_index_9 rfl ?_
    refine e_get dd_Md_index_10 kf_Md_64 h69 rfl ?_
    refine e_icmp_ge_n (tgt := 31) dd_Md_index_13 (by decide) (by omega) (by omega) (fun _ => ?_) (fun h9 => absurd h9 (by omega))
    refine e_aload_n dd_Md_index_31 rfl ?_
    refine e_get dd_Md_index_32 kf_Md_96 h69 rfl ?_
    refine e_istore_n (lv1 := [(0, .ref 69), (1, .int (nI (dat fs).length))]) dd_Md_index_35 (by decide) rfl ?_
    refine e_iconst_n 1 dd_Md_index_36 (by decide) ?_
    refine e_istore_n (lv1 := [(0, .ref 69), (1, .int (nI (dat fs).length)), (2, .int (nI 1))]) dd_Md_index_37 (by decide) rfl ?_
    refine e_iconst_n 0 dd_Md_index_38 (by decide) ?_
    refine e_istore_n (lv1 := [(0, .ref 69), (1, .int (nI (dat fs).length)), (2, .int (nI 1)), (3, .int (nI 0))]) dd_Md_index_39 (by decide) rfl ?_
    exact l_Md_entries hF rfl fs.length 0 w1 rq xs (by omega) hT (by rw [entN, List.append_nil]; exact h) (by rw [entN, List.append_nil]; exact hA) hX
  | succ k ih =>
    intro i w1 rq xs hi hT h hA hX
    have h69 : w1.1 69 = _ := h
    have hil : i < fs.length := by omega
    have hfi : fs[i]? = some fs[i] := List.getElem?_eq_getElem hil
    generalize fs[i] = f at hfi
    have hFi := (hF.T hT).at hfi
    have hfl := fsq_len hFi.2.1
    have hdl := dat_len hF.ok i (by omega)
    have eds := dat_snoc hfi
    generalize dat (fs.take i) = ac at h h69 hA hdl eds
    refine e_iload_n dd_Md_index_8 rfl ?_
    refine e_aload_n dd_Md_index_9 rfl ?_
    refine e_get dd_Md_index_10 kf_Md_64 h69 rfl ?_
    refine e_icmp_ge_n (tgt := 31) dd_Md_index_13 (by decide) (by omega) (by omega) (fun h9 => absurd h9 (by omega)) (fun _ => ?_)
    refine e_aload_n dd_Md_index_16 rfl ?_
    refine e_iload_n dd_Md_index_17 rfl ?_
    refine e_callVv (d1 := rr_Md_squeeze) (As := [.int (nI i)]) (st := []) dd_Md_index_18 km_Md_102 h69 rfl (by decide) rfl (Nat.le_of_ble_eq_true rfl) (Nat.le_of_ble_eq_true rfl) rfl rfl (c_Md_squeeze h hX hFi) (fun v1 k1 => ?_)
    obtain ⟨k1s, k1o, k1x⟩ := k1
    have k1a := hA.fr k1s (by decide) (by decide)
    have h1 : v1.1 69 = _ := k1o
    refine e_aload_n dd_Md_index_21 rfl ?_
    refine e_callVv (d1 := rr_Md_sayRow) (As := []) (st := []) dd_Md_index_22 km_Md_115 h1 rfl (by decide) rfl (Nat.le_of_ble_eq_true rfl) (Nat.le_of_ble_eq_true rfl) rfl rfl (c_Md_sayRow k1o k1a k1x (by omega)) (fun v2 k2 => ?_)
    refine e_iinc_n (a := i) (k := 1) (lv1 := [(0, .ref 69), (1, .int (nI (i + 1)))]) dd_Md_index_25 rfl (by decide) (by decide) rfl ?_
    refine e_goto (tgt := 8) dd_Md_index_28 (by decide) ?_
    obtain ⟨k2s, k2o, k2a⟩ := k2
    rw [← eds] at k2o k2a
    exact ih (i + 1) v2 _ _ (by omega) (hT.tr (k1s.T1.tr k2s.T8)) k2o k2a (k1x.fr k2s (by decide) (by decide))
set_option maxRecDepth 100000 in
set_option maxHeartbeats 4000000 in
theorem c_Md_index (h : mO w nl dl (nI fs.length) ln (nI 0) op pl tk rq) (hA : mA w 78 1200 []) (hX : mA w 81 400 xs) (hF : mF w fs) : ab_E G mm_Md_index rr_Md_index 0 [(0, .ref 69)] [] w (pV fun w2 => rT w w2 ∧ (∃ rq, mO w2 nl dl (nI fs.length) ln (nI (index fs).length) op pl tk rq) ∧ mA w2 78 1200 (index fs) ∧ ∃ xs, mA w2 81 400 xs) := by
  have h69 : w.1 69 = _ := h
  refine e_aload_n dd_Md_index_0 rfl ?_
  refine e_bipush_n 73 dd_Md_index_1 (by decide) ?_
  refine e_callVv (d1 := rr_Md_say) (As := [.int (nI 73)]) (st := []) dd_Md_index_3 km_Md_99 h69 rfl (by decide) rfl (Nat.le_of_ble_eq_true rfl) (Nat.le_of_ble_eq_true rfl) rfl rfl (c_Md_say h hA (by decide) (by decide)) (fun v1 k1 => ?_)
  refine e_iconst_n 0 dd_Md_index_6 (by decide) ?_
  refine e_istore_n (lv1 := [(0, .ref 69), (1, .int (nI 0))]) dd_Md_index_7 (by decide) rfl ?_
  exact l_Md_data hF fs.length 0 v1 rq xs (by omega) k1.1.T8 k1.2.1 k1.2.2 (hX.fr k1.1 (by decide) (by decide))
end MD
