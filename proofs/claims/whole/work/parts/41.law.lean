/-! The law: class and reference side by side, every script. -/
theorem cRep.obj {w : ab_W} {S : CS} (h : cRep w S) : w.1 1 = some (.inr (0, [.ref 2, .ref 4, .ref 6, .ref 40, .ref 65, .ref 67])) := by
  obtain ⟨nm, by_, fs, im, op, pl, tk⟩ := S
  exact h.1
theorem mRep.obj {w : ab_W} {S : CS} (h : mRep w S) : ∃ fs, w.1 69 = some (.inr (6, fs)) := by
  obtain ⟨nm, by_, fs, im, op, pl, tk⟩ := S
  obtain ⟨⟨md, rq, hO⟩, -⟩ := h
  exact ⟨_, hO⟩
theorem sw13 (x : Int32) : x = 0 ∨ x = 1 ∨ x = 2 ∨ x = 3 ∨ x = 4 ∨ x = 5 ∨ x = 6 ∨ x = 7 ∨ x = 8 ∨ x = 9 ∨ x = 10 ∨ x = 11 ∨ x = 12 ∨ (x.toInt < 0 ∨ 12 < x.toInt) := by
  by_cases h : x.toInt < 0 ∨ 12 < x.toInt
  · simp [h]
  · have h1 : x.toInt = 0 ∨ x.toInt = 1 ∨ x.toInt = 2 ∨ x.toInt = 3 ∨ x.toInt = 4 ∨ x.toInt = 5 ∨ x.toInt = 6 ∨ x.toInt = 7 ∨ x.toInt = 8 ∨ x.toInt = 9 ∨ x.toInt = 10 ∨ x.toInt = 11 ∨ x.toInt = 12 := by omega
    have hk : ∀ k : Int32, x.toInt = k.toInt → x = k := fun k e => Int32.toInt_inj.mp e
    rcases h1 with h1 | h1 | h1 | h1 | h1 | h1 | h1 | h1 | h1 | h1 | h1 | h1 | h1
    · exact Or.inl (hk 0 h1)
    · exact Or.inr (Or.inl (hk 1 h1))
    · exact Or.inr (Or.inr (Or.inl (hk 2 h1)))
    · exact Or.inr (Or.inr (Or.inr (Or.inl (hk 3 h1))))
    · exact Or.inr (Or.inr (Or.inr (Or.inr (Or.inl (hk 4 h1)))))
    · exact Or.inr (Or.inr (Or.inr (Or.inr (Or.inr (Or.inl (hk 5 h1))))))
    · exact Or.inr (Or.inr (Or.inr (Or.inr (Or.inr (Or.inr (Or.inl (hk 6 h1)))))))
    · exact Or.inr (Or.inr (Or.inr (Or.inr (Or.inr (Or.inr (Or.inr (Or.inl (hk 7 h1))))))))
    · exact Or.inr (Or.inr (Or.inr (Or.inr (Or.inr (Or.inr (Or.inr (Or.inr (Or.inl (hk 8 h1)))))))))
    · exact Or.inr (Or.inr (Or.inr (Or.inr (Or.inr (Or.inr (Or.inr (Or.inr (Or.inr (Or.inl (hk 9 h1))))))))))
    · exact Or.inr (Or.inr (Or.inr (Or.inr (Or.inr (Or.inr (Or.inr (Or.inr (Or.inr (Or.inr (Or.inl (hk 10 h1)))))))))))
    · exact Or.inr (Or.inr (Or.inr (Or.inr (Or.inr (Or.inr (Or.inr (Or.inr (Or.inr (Or.inr (Or.inr (Or.inl (hk 11 h1))))))))))))
    · exact Or.inr (Or.inr (Or.inr (Or.inr (Or.inr (Or.inr (Or.inr (Or.inr (Or.inr (Or.inr (Or.inr (Or.inr (Or.inl (hk 12 h1)))))))))))))
theorem sub3_neg {n : Nat} (h : n < 3) : nI n - nI 3 < 0 := by
  have h1 : n = 0 ∨ n = 1 ∨ n = 2 := by omega
  rcases h1 with rfl | rfl | rfl <;> decide
section LW
variable {G : ab_G} {w : ab_W}
set_option maxRecDepth 100000 in
set_option maxHeartbeats 4000000 in
theorem l_Lw_law (hL : g_L G ≤ 1536) : ∀ (k i : Nat) (w1 : ab_W) (S : CS), g_L G ≤ i + 3 * k → i ≤ 2000 → cRep w1 S → mRep w1 S → w1.2 = (82, 5450) → ab_E G mm_Lw_law rr_Lw_law 18 [(0, .ref 0), (1, .ref 1), (2, .ref 69), (3, .int (nI i))] [] w1 (fun r w2 => r = some (.int 1) ∧ w2.2 = (82, 5450)) := by
  intro k
  induction k with
  | zero =>
    intro i w1 S hk hi hC hM hw
    by_cases h3 : g_L G < 3
    · refine e_iload_n dd_Lw_law_18 rfl ?_
      refine e_aload_n dd_Lw_law_19 rfl ?_
      refine e_slen dd_Lw_law_20 ?_
      refine e_iconst_n 3 dd_Lw_law_21 (by decide) ?_
      refine e_isub dd_Lw_law_22 ?_
      refine e_icmp_gt (tgt := 415) dd_Lw_law_23 (by decide) (fun _ => ?_) (fun h9 => absurd (Int32.lt_of_lt_of_le (sub3_neg h3) (nI_pos' (by omega))) h9)
      refine e_iconst_n 1 dd_Lw_law_415 (by decide) ?_
      exact e_zret dd_Lw_law_416 rfl (by decide) ⟨rfl, hw⟩
    · refine e_iload_n dd_Lw_law_18 rfl ?_
      refine e_aload_n dd_Lw_law_19 rfl ?_
      refine e_slen dd_Lw_law_20 ?_
      refine e_iconst_n 3 dd_Lw_law_21 (by decide) ?_
      refine e_isub_n dd_Lw_law_22 (by omega) ?_
      refine e_icmp_gt_n (tgt := 415) dd_Lw_law_23 (by decide) (by omega) (by omega) (fun _ => ?_) (fun h9 => absurd h9 (by omega))
      refine e_iconst_n 1 dd_Lw_law_415 (by decide) ?_
      exact e_zret dd_Lw_law_416 rfl (by decide) ⟨rfl, hw⟩
  | succ k ih =>
    intro i w1 S hk hi hC hM hw
    by_cases h3 : g_L G < 3
    · refine e_iload_n dd_Lw_law_18 rfl ?_
      refine e_aload_n dd_Lw_law_19 rfl ?_
      refine e_slen dd_Lw_law_20 ?_
      refine e_iconst_n 3 dd_Lw_law_21 (by decide) ?_
      refine e_isub dd_Lw_law_22 ?_
      refine e_icmp_gt (tgt := 415) dd_Lw_law_23 (by decide) (fun _ => ?_) (fun h9 => absurd (Int32.lt_of_lt_of_le (sub3_neg h3) (nI_pos' (by omega))) h9)
      refine e_iconst_n 1 dd_Lw_law_415 (by decide) ?_
      exact e_zret dd_Lw_law_416 rfl (by decide) ⟨rfl, hw⟩
    · refine e_iload_n dd_Lw_law_18 rfl ?_
      refine e_aload_n dd_Lw_law_19 rfl ?_
      refine e_slen dd_Lw_law_20 ?_
      refine e_iconst_n 3 dd_Lw_law_21 (by decide) ?_
      refine e_isub_n dd_Lw_law_22 (by omega) ?_
      refine e_icmp_gt_n (tgt := 415) dd_Lw_law_23 (by decide) (by omega) (by omega) (fun c23 => ?_) (fun c23 => ?_)
      · refine e_iconst_n 1 dd_Lw_law_415 (by decide) ?_
        exact e_zret dd_Lw_law_416 rfl (by decide) ⟨rfl, hw⟩
      · have hil : i + 2 < g_L G := by omega
        have h1 := hC.obj
        obtain ⟨f69, h69⟩ := hM.obj
        refine e_aload_n dd_Lw_law_26 rfl ?_
        refine e_iload_n dd_Lw_law_27 rfl ?_
        refine e_sld dd_Lw_law_28 rfl (by omega) (by omega) ?_
        refine e_bipush_n 15 dd_Lw_law_29 (by decide) ?_
        refine e_iand dd_Lw_law_31 ?_
        generalize g_x G i &&& nI 15 = y
        rcases sw13 y with rfl | rfl | rfl | rfl | rfl | rfl | rfl | rfl | rfl | rfl | rfl | rfl | rfl | hy
        · refine e_tableIn (tgt := 100) dd_Lw_law_32 (by decide) (by decide) rfl (by decide) ?_
          refine e_aload_n dd_Lw_law_100 rfl ?_
          refine e_aload_n dd_Lw_law_101 rfl ?_
          refine e_iload_n dd_Lw_law_102 rfl ?_
          refine e_iconst_n 1 dd_Lw_law_103 (by decide) ?_
          refine e_iadd_n dd_Lw_law_104 ?_
          refine e_sld dd_Lw_law_105 rfl (by omega) (by omega) ?_
          refine e_callVi (d1 := rr_AB_name) (As := [.int (g_x G (i + 1))]) (st := []) dd_Lw_law_106 km_Lw_13 h1 rfl (by decide) rfl (Nat.le_of_ble_eq_true rfl) (Nat.le_of_ble_eq_true rfl) rfl rfl (c_AB_name hC (g_x G (i + 1))) (fun v1 k1 => ?_)
          obtain ⟨hC1, hG1⟩ := k1
          have hM1 := hM.far (fun j hj => hG1.2 j (Or.inr hj))
          have h69b := (hG1.2 69 (by decide)).trans h69
          refine e_aload_n dd_Lw_law_109 rfl ?_
          refine e_aload_n dd_Lw_law_110 rfl ?_
          refine e_iload_n dd_Lw_law_111 rfl ?_
          refine e_iconst_n 1 dd_Lw_law_112 (by decide) ?_
          refine e_iadd_n dd_Lw_law_113 ?_
          refine e_sld dd_Lw_law_114 rfl (by omega) (by omega) ?_
          refine e_callVi (d1 := rr_Md_name) (As := [.int (g_x G (i + 1))]) (st := [.int ((mName (g_x G (i + 1)) S).1)]) dd_Lw_law_115 km_Lw_17 h69b rfl (by decide) rfl (Nat.le_of_ble_eq_true rfl) (Nat.le_of_ble_eq_true rfl) rfl rfl (c_Md_name hM1 (g_x G (i + 1))) (fun v2 k2 => ?_)
          obtain ⟨hM2, hG2⟩ := k2
          have hC2 := hC1.far (fun j hj => hG2.2 j (Or.inl hj))
          refine e_icmp_eq (tgt := 409) dd_Lw_law_118 (by decide) (fun _ => ?_) (fun h9 => absurd h9 (fun h8 => h8 rfl))
          refine e_iinc_n (a := i) (k := 3) (lv1 := [(0, .ref 0), (1, .ref 1), (2, .ref 69), (3, .int (nI (i + 3)))]) dd_Lw_law_409 rfl (by decide) (by decide) rfl ?_
          refine e_goto (tgt := 18) dd_Lw_law_412 (by decide) ?_
          exact ih (i + 3) v2 _ (by omega) (by omega) hC2 hM2 (hG2.1.trans (hG1.1.trans hw))
        · refine e_tableIn (tgt := 123) dd_Lw_law_32 (by decide) (by decide) rfl (by decide) ?_
          refine e_aload_n dd_Lw_law_123 rfl ?_
          refine e_aload_n dd_Lw_law_124 rfl ?_
          refine e_iload_n dd_Lw_law_125 rfl ?_
          refine e_iconst_n 1 dd_Lw_law_126 (by decide) ?_
          refine e_iadd_n dd_Lw_law_127 ?_
          refine e_sld dd_Lw_law_128 rfl (by omega) (by omega) ?_
          refine e_aload_n dd_Lw_law_129 rfl ?_
          refine e_iload_n dd_Lw_law_130 rfl ?_
          refine e_iconst_n 2 dd_Lw_law_131 (by decide) ?_
          refine e_iadd_n dd_Lw_law_132 ?_
          refine e_sld dd_Lw_law_133 rfl (by omega) (by omega) ?_
          refine e_callVi (d1 := rr_AB_data) (As := [.int (g_x G (i + 1)), .int (g_x G (i + 2))]) (st := []) dd_Lw_law_134 km_Lw_18 h1 rfl (by decide) rfl (Nat.le_of_ble_eq_true rfl) (Nat.le_of_ble_eq_true rfl) rfl rfl (c_AB_data hC (g_x G (i + 1)) (g_x G (i + 2))) (fun v1 k1 => ?_)
          obtain ⟨hC1, hG1⟩ := k1
          have hM1 := hM.far (fun j hj => hG1.2 j (Or.inr hj))
          have h69b := (hG1.2 69 (by decide)).trans h69
          refine e_aload_n dd_Lw_law_137 rfl ?_
          refine e_aload_n dd_Lw_law_138 rfl ?_
          refine e_iload_n dd_Lw_law_139 rfl ?_
          refine e_iconst_n 1 dd_Lw_law_140 (by decide) ?_
          refine e_iadd_n dd_Lw_law_141 ?_
          refine e_sld dd_Lw_law_142 rfl (by omega) (by omega) ?_
          refine e_aload_n dd_Lw_law_143 rfl ?_
          refine e_iload_n dd_Lw_law_144 rfl ?_
          refine e_iconst_n 2 dd_Lw_law_145 (by decide) ?_
          refine e_iadd_n dd_Lw_law_146 ?_
          refine e_sld dd_Lw_law_147 rfl (by omega) (by omega) ?_
          refine e_callVi (d1 := rr_Md_data) (As := [.int (g_x G (i + 1)), .int (g_x G (i + 2))]) (st := [.int ((mData (g_x G (i + 1)) (g_x G (i + 2)) S).1)]) dd_Lw_law_148 km_Lw_22 h69b rfl (by decide) rfl (Nat.le_of_ble_eq_true rfl) (Nat.le_of_ble_eq_true rfl) rfl rfl (c_Md_data hM1 (g_x G (i + 1)) (g_x G (i + 2))) (fun v2 k2 => ?_)
          obtain ⟨hM2, hG2⟩ := k2
          have hC2 := hC1.far (fun j hj => hG2.2 j (Or.inl hj))
          refine e_icmp_eq (tgt := 409) dd_Lw_law_151 (by decide) (fun _ => ?_) (fun h9 => absurd h9 (fun h8 => h8 rfl))
          refine e_iinc_n (a := i) (k := 3) (lv1 := [(0, .ref 0), (1, .ref 1), (2, .ref 69), (3, .int (nI (i + 3)))]) dd_Lw_law_409 rfl (by decide) (by decide) rfl ?_
          refine e_goto (tgt := 18) dd_Lw_law_412 (by decide) ?_
          exact ih (i + 3) v2 _ (by omega) (by omega) hC2 hM2 (hG2.1.trans (hG1.1.trans hw))
        · refine e_tableIn (tgt := 156) dd_Lw_law_32 (by decide) (by decide) rfl (by decide) ?_
          refine e_aload_n dd_Lw_law_156 rfl ?_
          refine e_aload_n dd_Lw_law_157 rfl ?_
          refine e_iload_n dd_Lw_law_158 rfl ?_
          refine e_iconst_n 1 dd_Lw_law_159 (by decide) ?_
          refine e_iadd_n dd_Lw_law_160 ?_
          refine e_sld dd_Lw_law_161 rfl (by omega) (by omega) ?_
          refine e_callVi (d1 := rr_AB_add) (As := [.int (g_x G (i + 1))]) (st := []) dd_Lw_law_162 km_Lw_23 h1 rfl (by decide) rfl (Nat.le_of_ble_eq_true rfl) (Nat.le_of_ble_eq_true rfl) rfl rfl (c_AB_add hC (g_x G (i + 1))) (fun v1 k1 => ?_)
          obtain ⟨hC1, hG1⟩ := k1
          have hM1 := hM.far (fun j hj => hG1.2 j (Or.inr hj))
          have h69b := (hG1.2 69 (by decide)).trans h69
          refine e_aload_n dd_Lw_law_165 rfl ?_
          refine e_aload_n dd_Lw_law_166 rfl ?_
          refine e_iload_n dd_Lw_law_167 rfl ?_
          refine e_iconst_n 1 dd_Lw_law_168 (by decide) ?_
          refine e_iadd_n dd_Lw_law_169 ?_
          refine e_sld dd_Lw_law_170 rfl (by omega) (by omega) ?_
          refine e_callVi (d1 := rr_Md_add) (As := [.int (g_x G (i + 1))]) (st := [.int ((mAdd (g_x G (i + 1)) S).1)]) dd_Lw_law_171 km_Lw_26 h69b rfl (by decide) rfl (Nat.le_of_ble_eq_true rfl) (Nat.le_of_ble_eq_true rfl) rfl rfl (c_Md_add hM1 (g_x G (i + 1))) (fun v2 k2 => ?_)
          obtain ⟨hM2, hG2⟩ := k2
          have hC2 := hC1.far (fun j hj => hG2.2 j (Or.inl hj))
          refine e_icmp_eq (tgt := 409) dd_Lw_law_174 (by decide) (fun _ => ?_) (fun h9 => absurd h9 (fun h8 => h8 rfl))
          refine e_iinc_n (a := i) (k := 3) (lv1 := [(0, .ref 0), (1, .ref 1), (2, .ref 69), (3, .int (nI (i + 3)))]) dd_Lw_law_409 rfl (by decide) (by decide) rfl ?_
          refine e_goto (tgt := 18) dd_Lw_law_412 (by decide) ?_
          exact ih (i + 3) v2 _ (by omega) (by omega) hC2 hM2 (hG2.1.trans (hG1.1.trans hw))
        · refine e_tableIn (tgt := 179) dd_Lw_law_32 (by decide) (by decide) rfl (by decide) ?_
          refine e_aload_n dd_Lw_law_179 rfl ?_
          refine e_aload_n dd_Lw_law_180 rfl ?_
          refine e_iload_n dd_Lw_law_181 rfl ?_
          refine e_iconst_n 1 dd_Lw_law_182 (by decide) ?_
          refine e_iadd_n dd_Lw_law_183 ?_
          refine e_sld dd_Lw_law_184 rfl (by omega) (by omega) ?_
          refine e_callVi (d1 := rr_AB_pack) (As := [.int (g_x G (i + 1))]) (st := []) dd_Lw_law_185 km_Lw_27 h1 rfl (by decide) rfl (Nat.le_of_ble_eq_true rfl) (Nat.le_of_ble_eq_true rfl) rfl rfl (c_AB_pack hC (g_x G (i + 1))) (fun v1 k1 => ?_)
          obtain ⟨hC1, hG1⟩ := k1
          have hM1 := hM.far (fun j hj => hG1.2 j (Or.inr hj))
          have h69b := (hG1.2 69 (by decide)).trans h69
          refine e_aload_n dd_Lw_law_188 rfl ?_
          refine e_aload_n dd_Lw_law_189 rfl ?_
          refine e_iload_n dd_Lw_law_190 rfl ?_
          refine e_iconst_n 1 dd_Lw_law_191 (by decide) ?_
          refine e_iadd_n dd_Lw_law_192 ?_
          refine e_sld dd_Lw_law_193 rfl (by omega) (by omega) ?_
          refine e_callVi (d1 := rr_Md_pack) (As := [.int (g_x G (i + 1))]) (st := [.int ((mPack (g_x G (i + 1)) S).1)]) dd_Lw_law_194 km_Lw_30 h69b rfl (by decide) rfl (Nat.le_of_ble_eq_true rfl) (Nat.le_of_ble_eq_true rfl) rfl rfl (c_Md_pack hM1 (g_x G (i + 1))) (fun v2 k2 => ?_)
          obtain ⟨hM2, hG2⟩ := k2
          have hC2 := hC1.far (fun j hj => hG2.2 j (Or.inl hj))
          refine e_icmp_eq (tgt := 409) dd_Lw_law_197 (by decide) (fun _ => ?_) (fun h9 => absurd h9 (fun h8 => h8 rfl))
          refine e_iinc_n (a := i) (k := 3) (lv1 := [(0, .ref 0), (1, .ref 1), (2, .ref 69), (3, .int (nI (i + 3)))]) dd_Lw_law_409 rfl (by decide) (by decide) rfl ?_
          refine e_goto (tgt := 18) dd_Lw_law_412 (by decide) ?_
          exact ih (i + 3) v2 _ (by omega) (by omega) hC2 hM2 (hG2.1.trans (hG1.1.trans hw))
        · refine e_tableIn (tgt := 202) dd_Lw_law_32 (by decide) (by decide) rfl (by decide) ?_
          refine e_aload_n dd_Lw_law_202 rfl ?_
          refine e_aload_n dd_Lw_law_203 rfl ?_
          refine e_iload_n dd_Lw_law_204 rfl ?_
          refine e_iconst_n 1 dd_Lw_law_205 (by decide) ?_
          refine e_iadd_n dd_Lw_law_206 ?_
          refine e_sld dd_Lw_law_207 rfl (by omega) (by omega) ?_
          refine e_aload_n dd_Lw_law_208 rfl ?_
          refine e_iload_n dd_Lw_law_209 rfl ?_
          refine e_iconst_n 2 dd_Lw_law_210 (by decide) ?_
          refine e_iadd_n dd_Lw_law_211 ?_
          refine e_sld dd_Lw_law_212 rfl (by omega) (by omega) ?_
          refine e_callVi (d1 := rr_AB_put) (As := [.int (g_x G (i + 1)), .int (g_x G (i + 2))]) (st := []) dd_Lw_law_213 km_Lw_31 h1 rfl (by decide) rfl (Nat.le_of_ble_eq_true rfl) (Nat.le_of_ble_eq_true rfl) rfl rfl (c_AB_put hC (g_x G (i + 1)) (g_x G (i + 2))) (fun v1 k1 => ?_)
          obtain ⟨hC1, hG1⟩ := k1
          have hM1 := hM.far (fun j hj => hG1.2 j (Or.inr hj))
          have h69b := (hG1.2 69 (by decide)).trans h69
          refine e_aload_n dd_Lw_law_216 rfl ?_
          refine e_aload_n dd_Lw_law_217 rfl ?_
          refine e_iload_n dd_Lw_law_218 rfl ?_
          refine e_iconst_n 1 dd_Lw_law_219 (by decide) ?_
          refine e_iadd_n dd_Lw_law_220 ?_
          refine e_sld dd_Lw_law_221 rfl (by omega) (by omega) ?_
          refine e_aload_n dd_Lw_law_222 rfl ?_
          refine e_iload_n dd_Lw_law_223 rfl ?_
          refine e_iconst_n 2 dd_Lw_law_224 (by decide) ?_
          refine e_iadd_n dd_Lw_law_225 ?_
          refine e_sld dd_Lw_law_226 rfl (by omega) (by omega) ?_
          refine e_callVi (d1 := rr_Md_put) (As := [.int (g_x G (i + 1)), .int (g_x G (i + 2))]) (st := [.int ((mPut (g_x G (i + 1)) (g_x G (i + 2)) S).1)]) dd_Lw_law_227 km_Lw_34 h69b rfl (by decide) rfl (Nat.le_of_ble_eq_true rfl) (Nat.le_of_ble_eq_true rfl) rfl rfl (c_Md_put hM1 (g_x G (i + 1)) (g_x G (i + 2))) (fun v2 k2 => ?_)
          obtain ⟨hM2, hG2⟩ := k2
          have hC2 := hC1.far (fun j hj => hG2.2 j (Or.inl hj))
          refine e_icmp_eq (tgt := 409) dd_Lw_law_230 (by decide) (fun _ => ?_) (fun h9 => absurd h9 (fun h8 => h8 rfl))
          refine e_iinc_n (a := i) (k := 3) (lv1 := [(0, .ref 0), (1, .ref 1), (2, .ref 69), (3, .int (nI (i + 3)))]) dd_Lw_law_409 rfl (by decide) (by decide) rfl ?_
          refine e_goto (tgt := 18) dd_Lw_law_412 (by decide) ?_
          exact ih (i + 3) v2 _ (by omega) (by omega) hC2 hM2 (hG2.1.trans (hG1.1.trans hw))
        · refine e_tableIn (tgt := 235) dd_Lw_law_32 (by decide) (by decide) rfl (by decide) ?_
          refine e_aload_n dd_Lw_law_235 rfl ?_
          refine e_aload_n dd_Lw_law_236 rfl ?_
          refine e_iload_n dd_Lw_law_237 rfl ?_
          refine e_iconst_n 1 dd_Lw_law_238 (by decide) ?_
          refine e_iadd_n dd_Lw_law_239 ?_
          refine e_sld dd_Lw_law_240 rfl (by omega) (by omega) ?_
          refine e_callVi (d1 := rr_AB_cut) (As := [.int (g_x G (i + 1))]) (st := []) dd_Lw_law_241 km_Lw_35 h1 rfl (by decide) rfl (Nat.le_of_ble_eq_true rfl) (Nat.le_of_ble_eq_true rfl) rfl rfl (c_AB_cut hC (g_x G (i + 1))) (fun v1 k1 => ?_)
          obtain ⟨hC1, hG1⟩ := k1
          have hM1 := hM.far (fun j hj => hG1.2 j (Or.inr hj))
          have h69b := (hG1.2 69 (by decide)).trans h69
          refine e_aload_n dd_Lw_law_244 rfl ?_
          refine e_aload_n dd_Lw_law_245 rfl ?_
          refine e_iload_n dd_Lw_law_246 rfl ?_
          refine e_iconst_n 1 dd_Lw_law_247 (by decide) ?_
          refine e_iadd_n dd_Lw_law_248 ?_
          refine e_sld dd_Lw_law_249 rfl (by omega) (by omega) ?_
          refine e_callVi (d1 := rr_Md_cut) (As := [.int (g_x G (i + 1))]) (st := [.int ((mCut (g_x G (i + 1)) S).1)]) dd_Lw_law_250 km_Lw_38 h69b rfl (by decide) rfl (Nat.le_of_ble_eq_true rfl) (Nat.le_of_ble_eq_true rfl) rfl rfl (c_Md_cut hM1 (g_x G (i + 1))) (fun v2 k2 => ?_)
          obtain ⟨hM2, hG2⟩ := k2
          have hC2 := hC1.far (fun j hj => hG2.2 j (Or.inl hj))
          refine e_icmp_eq (tgt := 409) dd_Lw_law_253 (by decide) (fun _ => ?_) (fun h9 => absurd h9 (fun h8 => h8 rfl))
          refine e_iinc_n (a := i) (k := 3) (lv1 := [(0, .ref 0), (1, .ref 1), (2, .ref 69), (3, .int (nI (i + 3)))]) dd_Lw_law_409 rfl (by decide) (by decide) rfl ?_
          refine e_goto (tgt := 18) dd_Lw_law_412 (by decide) ?_
          exact ih (i + 3) v2 _ (by omega) (by omega) hC2 hM2 (hG2.1.trans (hG1.1.trans hw))
        · refine e_tableIn (tgt := 258) dd_Lw_law_32 (by decide) (by decide) rfl (by decide) ?_
          refine e_aload_n dd_Lw_law_258 rfl ?_
          refine e_aload_n dd_Lw_law_259 rfl ?_
          refine e_iload_n dd_Lw_law_260 rfl ?_
          refine e_iconst_n 1 dd_Lw_law_261 (by decide) ?_
          refine e_iadd_n dd_Lw_law_262 ?_
          refine e_sld dd_Lw_law_263 rfl (by omega) (by omega) ?_
          refine e_callVi (d1 := rr_AB_image) (As := [.int (g_x G (i + 1))]) (st := []) dd_Lw_law_264 km_Lw_39 h1 rfl (by decide) rfl (Nat.le_of_ble_eq_true rfl) (Nat.le_of_ble_eq_true rfl) rfl rfl (c_AB_image hC (g_x G (i + 1))) (fun v1 k1 => ?_)
          obtain ⟨hC1, hG1⟩ := k1
          have hM1 := hM.far (fun j hj => hG1.2 j (Or.inr hj))
          have h69b := (hG1.2 69 (by decide)).trans h69
          refine e_aload_n dd_Lw_law_267 rfl ?_
          refine e_aload_n dd_Lw_law_268 rfl ?_
          refine e_iload_n dd_Lw_law_269 rfl ?_
          refine e_iconst_n 1 dd_Lw_law_270 (by decide) ?_
          refine e_iadd_n dd_Lw_law_271 ?_
          refine e_sld dd_Lw_law_272 rfl (by omega) (by omega) ?_
          refine e_callVi (d1 := rr_Md_image) (As := [.int (g_x G (i + 1))]) (st := [.int ((mImage (g_x G (i + 1)) S).1)]) dd_Lw_law_273 km_Lw_42 h69b rfl (by decide) rfl (Nat.le_of_ble_eq_true rfl) (Nat.le_of_ble_eq_true rfl) rfl rfl (c_Md_image hM1 (g_x G (i + 1))) (fun v2 k2 => ?_)
          obtain ⟨hM2, hG2⟩ := k2
          have hC2 := hC1.far (fun j hj => hG2.2 j (Or.inl hj))
          refine e_icmp_eq (tgt := 409) dd_Lw_law_276 (by decide) (fun _ => ?_) (fun h9 => absurd h9 (fun h8 => h8 rfl))
          refine e_iinc_n (a := i) (k := 3) (lv1 := [(0, .ref 0), (1, .ref 1), (2, .ref 69), (3, .int (nI (i + 3)))]) dd_Lw_law_409 rfl (by decide) (by decide) rfl ?_
          refine e_goto (tgt := 18) dd_Lw_law_412 (by decide) ?_
          exact ih (i + 3) v2 _ (by omega) (by omega) hC2 hM2 (hG2.1.trans (hG1.1.trans hw))
        · refine e_tableIn (tgt := 281) dd_Lw_law_32 (by decide) (by decide) rfl (by decide) ?_
          refine e_aload_n dd_Lw_law_281 rfl ?_
          refine e_callVi (d1 := rr_AB_open) (As := []) (st := []) dd_Lw_law_282 km_Lw_43 h1 rfl (by decide) rfl (Nat.le_of_ble_eq_true rfl) (Nat.le_of_ble_eq_true rfl) rfl rfl (c_AB_open hC) (fun v1 k1 => ?_)
          obtain ⟨hC1, hG1⟩ := k1
          have hM1 := hM.far (fun j hj => hG1.2 j (Or.inr hj))
          have h69b := (hG1.2 69 (by decide)).trans h69
          refine e_aload_n dd_Lw_law_285 rfl ?_
          refine e_callVi (d1 := rr_Md_open) (As := []) (st := [.int ((mOpen S).1)]) dd_Lw_law_286 km_Lw_47 h69b rfl (by decide) rfl (Nat.le_of_ble_eq_true rfl) (Nat.le_of_ble_eq_true rfl) rfl rfl (c_Md_open hM1) (fun v2 k2 => ?_)
          obtain ⟨hM2, hG2⟩ := k2
          have hC2 := hC1.far (fun j hj => hG2.2 j (Or.inl hj))
          refine e_icmp_eq (tgt := 409) dd_Lw_law_289 (by decide) (fun _ => ?_) (fun h9 => absurd h9 (fun h8 => h8 rfl))
          refine e_iinc_n (a := i) (k := 3) (lv1 := [(0, .ref 0), (1, .ref 1), (2, .ref 69), (3, .int (nI (i + 3)))]) dd_Lw_law_409 rfl (by decide) (by decide) rfl ?_
          refine e_goto (tgt := 18) dd_Lw_law_412 (by decide) ?_
          exact ih (i + 3) v2 _ (by omega) (by omega) hC2 hM2 (hG2.1.trans (hG1.1.trans hw))
        · refine e_tableIn (tgt := 294) dd_Lw_law_32 (by decide) (by decide) rfl (by decide) ?_
          refine e_aload_n dd_Lw_law_294 rfl ?_
          refine e_callVi (d1 := rr_AB_place) (As := []) (st := []) dd_Lw_law_295 km_Lw_48 h1 rfl (by decide) rfl (Nat.le_of_ble_eq_true rfl) (Nat.le_of_ble_eq_true rfl) rfl rfl (c_AB_place hC) (fun v1 k1 => ?_)
          obtain ⟨hC1, hG1⟩ := k1
          have hM1 := hM.far (fun j hj => hG1.2 j (Or.inr hj))
          have h69b := (hG1.2 69 (by decide)).trans h69
          refine e_aload_n dd_Lw_law_298 rfl ?_
          refine e_callVi (d1 := rr_Md_place) (As := []) (st := [.int ((mPlace S).1)]) dd_Lw_law_299 km_Lw_51 h69b rfl (by decide) rfl (Nat.le_of_ble_eq_true rfl) (Nat.le_of_ble_eq_true rfl) rfl rfl (c_Md_place hM1) (fun v2 k2 => ?_)
          obtain ⟨hM2, hG2⟩ := k2
          have hC2 := hC1.far (fun j hj => hG2.2 j (Or.inl hj))
          refine e_icmp_eq (tgt := 409) dd_Lw_law_302 (by decide) (fun _ => ?_) (fun h9 => absurd h9 (fun h8 => h8 rfl))
          refine e_iinc_n (a := i) (k := 3) (lv1 := [(0, .ref 0), (1, .ref 1), (2, .ref 69), (3, .int (nI (i + 3)))]) dd_Lw_law_409 rfl (by decide) (by decide) rfl ?_
          refine e_goto (tgt := 18) dd_Lw_law_412 (by decide) ?_
          exact ih (i + 3) v2 _ (by omega) (by omega) hC2 hM2 (hG2.1.trans (hG1.1.trans hw))
        · refine e_tableIn (tgt := 307) dd_Lw_law_32 (by decide) (by decide) rfl (by decide) ?_
          refine e_aload_n dd_Lw_law_307 rfl ?_
          refine e_aload_n dd_Lw_law_308 rfl ?_
          refine e_iload_n dd_Lw_law_309 rfl ?_
          refine e_iconst_n 1 dd_Lw_law_310 (by decide) ?_
          refine e_iadd_n dd_Lw_law_311 ?_
          refine e_sld dd_Lw_law_312 rfl (by omega) (by omega) ?_
          refine e_callVi (d1 := rr_AB_take) (As := [.int (g_x G (i + 1))]) (st := []) dd_Lw_law_313 km_Lw_52 h1 rfl (by decide) rfl (Nat.le_of_ble_eq_true rfl) (Nat.le_of_ble_eq_true rfl) rfl rfl (c_AB_take hC (g_x G (i + 1))) (fun v1 k1 => ?_)
          obtain ⟨hC1, hG1⟩ := k1
          have hM1 := hM.far (fun j hj => hG1.2 j (Or.inr hj))
          have h69b := (hG1.2 69 (by decide)).trans h69
          refine e_aload_n dd_Lw_law_316 rfl ?_
          refine e_aload_n dd_Lw_law_317 rfl ?_
          refine e_iload_n dd_Lw_law_318 rfl ?_
          refine e_iconst_n 1 dd_Lw_law_319 (by decide) ?_
          refine e_iadd_n dd_Lw_law_320 ?_
          refine e_sld dd_Lw_law_321 rfl (by omega) (by omega) ?_
          refine e_callVi (d1 := rr_Md_take) (As := [.int (g_x G (i + 1))]) (st := [.int ((mTake (g_x G (i + 1)) S).1)]) dd_Lw_law_322 km_Lw_55 h69b rfl (by decide) rfl (Nat.le_of_ble_eq_true rfl) (Nat.le_of_ble_eq_true rfl) rfl rfl (c_Md_take hM1 (g_x G (i + 1))) (fun v2 k2 => ?_)
          obtain ⟨hM2, hG2⟩ := k2
          have hC2 := hC1.far (fun j hj => hG2.2 j (Or.inl hj))
          refine e_icmp_eq (tgt := 409) dd_Lw_law_325 (by decide) (fun _ => ?_) (fun h9 => absurd h9 (fun h8 => h8 rfl))
          refine e_iinc_n (a := i) (k := 3) (lv1 := [(0, .ref 0), (1, .ref 1), (2, .ref 69), (3, .int (nI (i + 3)))]) dd_Lw_law_409 rfl (by decide) (by decide) rfl ?_
          refine e_goto (tgt := 18) dd_Lw_law_412 (by decide) ?_
          exact ih (i + 3) v2 _ (by omega) (by omega) hC2 hM2 (hG2.1.trans (hG1.1.trans hw))
        · refine e_tableIn (tgt := 330) dd_Lw_law_32 (by decide) (by decide) rfl (by decide) ?_
          refine e_aload_n dd_Lw_law_330 rfl ?_
          refine e_aload_n dd_Lw_law_331 rfl ?_
          refine e_iload_n dd_Lw_law_332 rfl ?_
          refine e_iconst_n 1 dd_Lw_law_333 (by decide) ?_
          refine e_iadd_n dd_Lw_law_334 ?_
          refine e_sld dd_Lw_law_335 rfl (by omega) (by omega) ?_
          refine e_callVi (d1 := rr_AB_taken) (As := [.int (g_x G (i + 1))]) (st := []) dd_Lw_law_336 km_Lw_56 h1 rfl (by decide) rfl (Nat.le_of_ble_eq_true rfl) (Nat.le_of_ble_eq_true rfl) rfl rfl (c_AB_taken hC (g_x G (i + 1))) (fun v1 k1 => ?_)
          obtain ⟨hC1, hG1⟩ := k1
          have hM1 := hM.far (fun j hj => hG1.2 j (Or.inr hj))
          have h69b := (hG1.2 69 (by decide)).trans h69
          refine e_aload_n dd_Lw_law_339 rfl ?_
          refine e_aload_n dd_Lw_law_340 rfl ?_
          refine e_iload_n dd_Lw_law_341 rfl ?_
          refine e_iconst_n 1 dd_Lw_law_342 (by decide) ?_
          refine e_iadd_n dd_Lw_law_343 ?_
          refine e_sld dd_Lw_law_344 rfl (by omega) (by omega) ?_
          refine e_callVi (d1 := rr_Md_taken) (As := [.int (g_x G (i + 1))]) (st := [.int ((mTaken (g_x G (i + 1)) S).1)]) dd_Lw_law_345 km_Lw_59 h69b rfl (by decide) rfl (Nat.le_of_ble_eq_true rfl) (Nat.le_of_ble_eq_true rfl) rfl rfl (c_Md_taken hM1 (g_x G (i + 1))) (fun v2 k2 => ?_)
          obtain ⟨hM2, hG2⟩ := k2
          have hC2 := hC1.far (fun j hj => hG2.2 j (Or.inl hj))
          refine e_icmp_eq (tgt := 409) dd_Lw_law_348 (by decide) (fun _ => ?_) (fun h9 => absurd h9 (fun h8 => h8 rfl))
          refine e_iinc_n (a := i) (k := 3) (lv1 := [(0, .ref 0), (1, .ref 1), (2, .ref 69), (3, .int (nI (i + 3)))]) dd_Lw_law_409 rfl (by decide) (by decide) rfl ?_
          refine e_goto (tgt := 18) dd_Lw_law_412 (by decide) ?_
          exact ih (i + 3) v2 _ (by omega) (by omega) hC2 hM2 (hG2.1.trans (hG1.1.trans hw))
        · refine e_tableIn (tgt := 353) dd_Lw_law_32 (by decide) (by decide) rfl (by decide) ?_
          refine e_aload_n dd_Lw_law_353 rfl ?_
          refine e_aload_n dd_Lw_law_354 rfl ?_
          refine e_iload_n dd_Lw_law_355 rfl ?_
          refine e_iconst_n 1 dd_Lw_law_356 (by decide) ?_
          refine e_iadd_n dd_Lw_law_357 ?_
          refine e_sld dd_Lw_law_358 rfl (by omega) (by omega) ?_
          refine e_aload_n dd_Lw_law_359 rfl ?_
          refine e_iload_n dd_Lw_law_360 rfl ?_
          refine e_iconst_n 2 dd_Lw_law_361 (by decide) ?_
          refine e_iadd_n dd_Lw_law_362 ?_
          refine e_sld dd_Lw_law_363 rfl (by omega) (by omega) ?_
          refine e_callVi (d1 := rr_AB_file) (As := [.int (g_x G (i + 1)), .int (g_x G (i + 2))]) (st := []) dd_Lw_law_364 km_Lw_60 h1 rfl (by decide) rfl (Nat.le_of_ble_eq_true rfl) (Nat.le_of_ble_eq_true rfl) rfl rfl (c_AB_file hC (g_x G (i + 1)) (g_x G (i + 2))) (fun v1 k1 => ?_)
          obtain ⟨hC1, hG1⟩ := k1
          have hM1 := hM.far (fun j hj => hG1.2 j (Or.inr hj))
          have h69b := (hG1.2 69 (by decide)).trans h69
          refine e_aload_n dd_Lw_law_367 rfl ?_
          refine e_aload_n dd_Lw_law_368 rfl ?_
          refine e_iload_n dd_Lw_law_369 rfl ?_
          refine e_iconst_n 1 dd_Lw_law_370 (by decide) ?_
          refine e_iadd_n dd_Lw_law_371 ?_
          refine e_sld dd_Lw_law_372 rfl (by omega) (by omega) ?_
          refine e_aload_n dd_Lw_law_373 rfl ?_
          refine e_iload_n dd_Lw_law_374 rfl ?_
          refine e_iconst_n 2 dd_Lw_law_375 (by decide) ?_
          refine e_iadd_n dd_Lw_law_376 ?_
          refine e_sld dd_Lw_law_377 rfl (by omega) (by omega) ?_
          refine e_callVi (d1 := rr_Md_file) (As := [.int (g_x G (i + 1)), .int (g_x G (i + 2))]) (st := [.int ((mFile (g_x G (i + 1)) (g_x G (i + 2)) S).1)]) dd_Lw_law_378 km_Lw_63 h69b rfl (by decide) rfl (Nat.le_of_ble_eq_true rfl) (Nat.le_of_ble_eq_true rfl) rfl rfl (c_Md_file hM1 (g_x G (i + 1)) (g_x G (i + 2))) (fun v2 k2 => ?_)
          obtain ⟨hM2, hG2⟩ := k2
          have hC2 := hC1.far (fun j hj => hG2.2 j (Or.inl hj))
          refine e_icmp_eq (tgt := 409) dd_Lw_law_381 (by decide) (fun _ => ?_) (fun h9 => absurd h9 (fun h8 => h8 rfl))
          refine e_iinc_n (a := i) (k := 3) (lv1 := [(0, .ref 0), (1, .ref 1), (2, .ref 69), (3, .int (nI (i + 3)))]) dd_Lw_law_409 rfl (by decide) (by decide) rfl ?_
          refine e_goto (tgt := 18) dd_Lw_law_412 (by decide) ?_
          exact ih (i + 3) v2 _ (by omega) (by omega) hC2 hM2 (hG2.1.trans (hG1.1.trans hw))
        · refine e_tableIn (tgt := 386) dd_Lw_law_32 (by decide) (by decide) rfl (by decide) ?_
          refine e_aload_n dd_Lw_law_386 rfl ?_
          refine e_aload_n dd_Lw_law_387 rfl ?_
          refine e_iload_n dd_Lw_law_388 rfl ?_
          refine e_iconst_n 1 dd_Lw_law_389 (by decide) ?_
          refine e_iadd_n dd_Lw_law_390 ?_
          refine e_sld dd_Lw_law_391 rfl (by omega) (by omega) ?_
          refine e_callVi (d1 := rr_AB_count) (As := [.int (g_x G (i + 1))]) (st := []) dd_Lw_law_392 km_Lw_64 h1 rfl (by decide) rfl (Nat.le_of_ble_eq_true rfl) (Nat.le_of_ble_eq_true rfl) rfl rfl (c_AB_count hC (g_x G (i + 1))) (fun v1 k1 => ?_)
          obtain ⟨hC1, hG1⟩ := k1
          have hM1 := hM.far (fun j hj => hG1.2 j (Or.inr hj))
          have h69b := (hG1.2 69 (by decide)).trans h69
          refine e_aload_n dd_Lw_law_395 rfl ?_
          refine e_aload_n dd_Lw_law_396 rfl ?_
          refine e_iload_n dd_Lw_law_397 rfl ?_
          refine e_iconst_n 1 dd_Lw_law_398 (by decide) ?_
          refine e_iadd_n dd_Lw_law_399 ?_
          refine e_sld dd_Lw_law_400 rfl (by omega) (by omega) ?_
          refine e_callVi (d1 := rr_Md_count) (As := [.int (g_x G (i + 1))]) (st := [.int ((mCount (g_x G (i + 1)) S).1)]) dd_Lw_law_401 km_Lw_67 h69b rfl (by decide) rfl (Nat.le_of_ble_eq_true rfl) (Nat.le_of_ble_eq_true rfl) rfl rfl (c_Md_count hM1 (g_x G (i + 1))) (fun v2 k2 => ?_)
          obtain ⟨hM2, hG2⟩ := k2
          have hC2 := hC1.far (fun j hj => hG2.2 j (Or.inl hj))
          refine e_icmp_eq (tgt := 409) dd_Lw_law_404 (by decide) (fun _ => ?_) (fun h9 => absurd h9 (fun h8 => h8 rfl))
          refine e_iinc_n (a := i) (k := 3) (lv1 := [(0, .ref 0), (1, .ref 1), (2, .ref 69), (3, .int (nI (i + 3)))]) dd_Lw_law_409 rfl (by decide) (by decide) rfl ?_
          refine e_goto (tgt := 18) dd_Lw_law_412 (by decide) ?_
          exact ih (i + 3) v2 _ (by omega) (by omega) hC2 hM2 (hG2.1.trans (hG1.1.trans hw))
        · refine e_tableOut (tgt := 409) dd_Lw_law_32 hy (by decide) ?_
          refine e_iinc_n (a := i) (k := 3) (lv1 := [(0, .ref 0), (1, .ref 1), (2, .ref 69), (3, .int (nI (i + 3)))]) dd_Lw_law_409 rfl (by decide) (by decide) rfl ?_
          refine e_goto (tgt := 18) dd_Lw_law_412 (by decide) ?_
          exact ih (i + 3) w1 S (by omega) (by omega) hC hM hw
set_option maxRecDepth 100000 in
set_option maxHeartbeats 4000000 in
theorem c_Lw_law (hL : g_L G ≤ 1536) : ab_E G mm_Lw_law rr_Lw_law 0 [(0, .ref 0)] [] ((fun _ => none, 1, 0) : ab_W) (fun r w2 => r = some (.int 1) ∧ w2.2 = (82, 5450)) := by
  refine e_newx dd_Lw_law_0 kn_Lw_7 rfl (fun w31 h32n h32v h32f => ?_)
  refine e_dup dd_Lw_law_3 rfl ?_
  refine e_callIv (d1 := rr_AB_init) (As := []) (st := [.ref 1]) dd_Lw_law_4 km_Lw_9 rfl (by decide) rfl (Nat.le_of_ble_eq_true rfl) (Nat.le_of_ble_eq_true rfl) rfl rfl (c_AB_init h32v h32n) (fun v1 k1 => ?_)
  refine e_astore_n (lv1 := [(0, .ref 0), (1, .ref 1)]) dd_Lw_law_7 (by decide) rfl ?_
  refine e_newx dd_Lw_law_8 kn_Lw_10 k1.1 (fun w33 h34n h34v h34f => ?_)
  refine e_dup dd_Lw_law_11 rfl ?_
  refine e_callIv (d1 := rr_Md_init) (As := []) (st := [.ref 69]) dd_Lw_law_12 km_Lw_12 rfl (by decide) rfl (Nat.le_of_ble_eq_true rfl) (Nat.le_of_ble_eq_true rfl) rfl rfl (c_Md_init h34v h34n) (fun v2 k2 => ?_)
  refine e_astore_n (lv1 := [(0, .ref 0), (1, .ref 1), (2, .ref 69)]) dd_Lw_law_15 (by decide) rfl ?_
  refine e_iconst_n 0 dd_Lw_law_16 (by decide) ?_
  refine e_istore_n (lv1 := [(0, .ref 0), (1, .ref 1), (2, .ref 69), (3, .int (nI 0))]) dd_Lw_law_17 (by decide) rfl ?_
  obtain ⟨k2a, k2b, k2c⟩ := k2
  have hC := k1.2.far (fun j hj => (k2c j hj).trans (h34f j (by omega)))
  exact l_Lw_law hL 512 0 v2 S0 (by omega) (by omega) hC k2b k2a
end LW
