/-! The reference: its constructor, add, pack. -/
section MD
variable {G : ab_G} {w : ab_W} {nl dl fl ln md op pl tk rq : Int32} {xs ds : List Nat} {i : Nat} {S : CS} {fs : List FW}
theorem mA.zero {w : ab_W} {a cap : Nat} (h : w.1 a = some (.inl (0, cap, .inl (fun _ => 0)))) : mA w a cap [] := ⟨Nat.zero_le _, (fun x hx => by cases hx), _, h, fun j hj => absurd hj (Nat.not_lt_zero j)⟩
set_option maxRecDepth 100000 in
set_option maxHeartbeats 4000000 in
theorem c_Md_init {z : Nat} (h69 : w.1 69 = some (.inr (6, [.int 0, .null, .int 0, .null, .int 0, .null, .null, .null, .null, .null, .int 0, .null, .int 0, .null, .int 0, .null, .int 0, .int 0, .null, .int 0, .null]))) (hn : w.2 = (70, z)) : ab_E G mm_Md_init rr_Md_init 0 [(0, .ref 69)] [] w (pV fun w2 => w2.2 = (82, z + 2838) ∧ mRep w2 S0 ∧ ∀ j, j < 69 → w2.1 j = w.1 j) := by
  refine e_aload_n dd_Md_init_0 rfl ?_
  refine e_obj dd_Md_init_1 km_Md_1 ⟨by decide, Nat.le_of_ble_eq_true rfl⟩ ?_
  refine e_aload_n dd_Md_init_4 rfl ?_
  refine e_bipush_n 8 dd_Md_init_5 (by decide) ?_
  refine e_newax (t := 0) dd_Md_init_7 rfl ww_40 rfl (by omega) hn (fun w1 h2n h2v h2f => ?_)
  refine e_putFx (fs1 := [.int 0, .ref 70, .int 0, .null, .int 0, .null, .null, .null, .null, .null, .int 0, .null, .int 0, .null, .int 0, .null, .int 0, .int 0, .null, .int 0, .null]) dd_Md_init_9 kf_Md_7 rfl rfl ((h2f _ (by decide)).trans h69) (Nat.le_of_ble_eq_true rfl) rfl rfl rfl (fun w3 h4n h4v h4f => ?_)
  have n70 : w3.2 = (71, z + 8) := h4n.trans h2n
  have v70 : w3.1 70 = _ := (h4f 70 (by decide)).trans h2v
  have f70 : ∀ j, j ≠ 69 → j ≠ 70 → w3.1 j = w.1 j := fun j a b => (h4f j a).trans (h2f j b)
  refine e_aload_n dd_Md_init_12 rfl ?_
  refine e_bipush_n 60 dd_Md_init_13 (by decide) ?_
  refine e_newax (t := 0) dd_Md_init_15 rfl ww_40 rfl (by omega) n70 (fun w5 h6n h6v h6f => ?_)
  refine e_putFx (fs1 := [.int 0, .ref 70, .int 0, .ref 71, .int 0, .null, .null, .null, .null, .null, .int 0, .null, .int 0, .null, .int 0, .null, .int 0, .int 0, .null, .int 0, .null]) dd_Md_init_17 kf_Md_13 rfl rfl ((h6f _ (by decide)).trans h4v) (Nat.le_of_ble_eq_true rfl) rfl rfl rfl (fun w7 h8n h8v h8f => ?_)
  have n71 : w7.2 = (72, z + 68) := h8n.trans h6n
  have v71 : w7.1 71 = _ := (h8f 71 (by decide)).trans h6v
  have f71 : ∀ j, j ≠ 69 → j ≠ 71 → w7.1 j = w3.1 j := fun j a b => (h8f j a).trans (h6f j b)
  refine e_aload_n dd_Md_init_20 rfl ?_
  refine e_bipush_n 6 dd_Md_init_21 (by decide) ?_
  refine e_newax (t := 0) dd_Md_init_23 rfl ww_40 rfl (by omega) n71 (fun w9 h10n h10v h10f => ?_)
  refine e_putFx (fs1 := [.int 0, .ref 70, .int 0, .ref 71, .int 0, .ref 72, .null, .null, .null, .null, .int 0, .null, .int 0, .null, .int 0, .null, .int 0, .int 0, .null, .int 0, .null]) dd_Md_init_25 kf_Md_16 rfl rfl ((h10f _ (by decide)).trans h8v) (Nat.le_of_ble_eq_true rfl) rfl rfl rfl (fun w11 h12n h12v h12f => ?_)
  have n72 : w11.2 = (73, z + 74) := h12n.trans h10n
  have v72 : w11.1 72 = _ := (h12f 72 (by decide)).trans h10v
  have f72 : ∀ j, j ≠ 69 → j ≠ 72 → w11.1 j = w7.1 j := fun j a b => (h12f j a).trans (h10f j b)
  refine e_aload_n dd_Md_init_28 rfl ?_
  refine e_bipush_n 6 dd_Md_init_29 (by decide) ?_
  refine e_newax (t := 0) dd_Md_init_31 rfl ww_40 rfl (by omega) n72 (fun w13 h14n h14v h14f => ?_)
  refine e_putFx (fs1 := [.int 0, .ref 70, .int 0, .ref 71, .int 0, .ref 72, .ref 73, .null, .null, .null, .int 0, .null, .int 0, .null, .int 0, .null, .int 0, .int 0, .null, .int 0, .null]) dd_Md_init_33 kf_Md_19 rfl rfl ((h14f _ (by decide)).trans h12v) (Nat.le_of_ble_eq_true rfl) rfl rfl rfl (fun w15 h16n h16v h16f => ?_)
  have n73 : w15.2 = (74, z + 80) := h16n.trans h14n
  have v73 : w15.1 73 = _ := (h16f 73 (by decide)).trans h14v
  have f73 : ∀ j, j ≠ 69 → j ≠ 73 → w15.1 j = w11.1 j := fun j a b => (h16f j a).trans (h14f j b)
  refine e_aload_n dd_Md_init_36 rfl ?_
  refine e_bipush_n 48 dd_Md_init_37 (by decide) ?_
  refine e_newax (t := 0) dd_Md_init_39 rfl ww_40 rfl (by omega) n73 (fun w17 h18n h18v h18f => ?_)
  refine e_putFx (fs1 := [.int 0, .ref 70, .int 0, .ref 71, .int 0, .ref 72, .ref 73, .ref 74, .null, .null, .int 0, .null, .int 0, .null, .int 0, .null, .int 0, .int 0, .null, .int 0, .null]) dd_Md_init_41 kf_Md_22 rfl rfl ((h18f _ (by decide)).trans h16v) (Nat.le_of_ble_eq_true rfl) rfl rfl rfl (fun w19 h20n h20v h20f => ?_)
  have n74 : w19.2 = (75, z + 128) := h20n.trans h18n
  have v74 : w19.1 74 = _ := (h20f 74 (by decide)).trans h18v
  have f74 : ∀ j, j ≠ 69 → j ≠ 74 → w19.1 j = w15.1 j := fun j a b => (h20f j a).trans (h18f j b)
  refine e_aload_n dd_Md_init_44 rfl ?_
  refine e_bipush_n 6 dd_Md_init_45 (by decide) ?_
  refine e_newax (t := 0) dd_Md_init_47 rfl ww_40 rfl (by omega) n74 (fun w21 h22n h22v h22f => ?_)
  refine e_putFx (fs1 := [.int 0, .ref 70, .int 0, .ref 71, .int 0, .ref 72, .ref 73, .ref 74, .ref 75, .null, .int 0, .null, .int 0, .null, .int 0, .null, .int 0, .int 0, .null, .int 0, .null]) dd_Md_init_49 kf_Md_25 rfl rfl ((h22f _ (by decide)).trans h20v) (Nat.le_of_ble_eq_true rfl) rfl rfl rfl (fun w23 h24n h24v h24f => ?_)
  have n75 : w23.2 = (76, z + 134) := h24n.trans h22n
  have v75 : w23.1 75 = _ := (h24f 75 (by decide)).trans h22v
  have f75 : ∀ j, j ≠ 69 → j ≠ 75 → w23.1 j = w19.1 j := fun j a b => (h24f j a).trans (h22f j b)
  refine e_aload_n dd_Md_init_52 rfl ?_
  refine e_sipush_n 360 dd_Md_init_53 (by decide) ?_
  refine e_newax (t := 0) dd_Md_init_56 rfl ww_40 rfl (by omega) n75 (fun w25 h26n h26v h26f => ?_)
  refine e_putFx (fs1 := [.int 0, .ref 70, .int 0, .ref 71, .int 0, .ref 72, .ref 73, .ref 74, .ref 75, .ref 76, .int 0, .null, .int 0, .null, .int 0, .null, .int 0, .int 0, .null, .int 0, .null]) dd_Md_init_58 kf_Md_28 rfl rfl ((h26f _ (by decide)).trans h24v) (Nat.le_of_ble_eq_true rfl) rfl rfl rfl (fun w27 h28n h28v h28f => ?_)
  have n76 : w27.2 = (77, z + 494) := h28n.trans h26n
  have v76 : w27.1 76 = _ := (h28f 76 (by decide)).trans h26v
  have f76 : ∀ j, j ≠ 69 → j ≠ 76 → w27.1 j = w23.1 j := fun j a b => (h28f j a).trans (h26f j b)
  refine e_aload_n dd_Md_init_61 rfl ?_
  refine e_sipush_n 600 dd_Md_init_62 (by decide) ?_
  refine e_newax (t := 0) dd_Md_init_65 rfl ww_40 rfl (by omega) n76 (fun w29 h30n h30v h30f => ?_)
  refine e_putFx (fs1 := [.int 0, .ref 70, .int 0, .ref 71, .int 0, .ref 72, .ref 73, .ref 74, .ref 75, .ref 76, .int 0, .ref 77, .int 0, .null, .int 0, .null, .int 0, .int 0, .null, .int 0, .null]) dd_Md_init_67 kf_Md_31 rfl rfl ((h30f _ (by decide)).trans h28v) (Nat.le_of_ble_eq_true rfl) rfl rfl rfl (fun w31 h32n h32v h32f => ?_)
  have n77 : w31.2 = (78, z + 1094) := h32n.trans h30n
  have v77 : w31.1 77 = _ := (h32f 77 (by decide)).trans h30v
  have f77 : ∀ j, j ≠ 69 → j ≠ 77 → w31.1 j = w27.1 j := fun j a b => (h32f j a).trans (h30f j b)
  refine e_aload_n dd_Md_init_70 rfl ?_
  refine e_sipush_n 1200 dd_Md_init_71 (by decide) ?_
  refine e_newax (t := 0) dd_Md_init_74 rfl ww_40 rfl (by omega) n77 (fun w33 h34n h34v h34f => ?_)
  refine e_putFx (fs1 := [.int 0, .ref 70, .int 0, .ref 71, .int 0, .ref 72, .ref 73, .ref 74, .ref 75, .ref 76, .int 0, .ref 77, .int 0, .ref 78, .int 0, .null, .int 0, .int 0, .null, .int 0, .null]) dd_Md_init_76 kf_Md_34 rfl rfl ((h34f _ (by decide)).trans h32v) (Nat.le_of_ble_eq_true rfl) rfl rfl rfl (fun w35 h36n h36v h36f => ?_)
  have n78 : w35.2 = (79, z + 2294) := h36n.trans h34n
  have v78 : w35.1 78 = _ := (h36f 78 (by decide)).trans h34v
  have f78 : ∀ j, j ≠ 69 → j ≠ 78 → w35.1 j = w31.1 j := fun j a b => (h36f j a).trans (h34f j b)
  refine e_aload_n dd_Md_init_79 rfl ?_
  refine e_bipush_n 84 dd_Md_init_80 (by decide) ?_
  refine e_newax (t := 0) dd_Md_init_82 rfl ww_40 rfl (by omega) n78 (fun w37 h38n h38v h38f => ?_)
  refine e_putFx (fs1 := [.int 0, .ref 70, .int 0, .ref 71, .int 0, .ref 72, .ref 73, .ref 74, .ref 75, .ref 76, .int 0, .ref 77, .int 0, .ref 78, .int 0, .ref 79, .int 0, .int 0, .null, .int 0, .null]) dd_Md_init_84 kf_Md_37 rfl rfl ((h38f _ (by decide)).trans h36v) (Nat.le_of_ble_eq_true rfl) rfl rfl rfl (fun w39 h40n h40v h40f => ?_)
  have n79 : w39.2 = (80, z + 2378) := h40n.trans h38n
  have v79 : w39.1 79 = _ := (h40f 79 (by decide)).trans h38v
  have f79 : ∀ j, j ≠ 69 → j ≠ 79 → w39.1 j = w35.1 j := fun j a b => (h40f j a).trans (h38f j b)
  refine e_aload_n dd_Md_init_87 rfl ?_
  refine e_iconst (v := -1) dd_Md_init_88 (by decide) ?_
  refine e_putx (fs1 := [.int 0, .ref 70, .int 0, .ref 71, .int 0, .ref 72, .ref 73, .ref 74, .ref 75, .ref 76, .int 0, .ref 77, .int 0, .ref 78, .int 0, .ref 79, .int (-1), .int 0, .null, .int 0, .null]) dd_Md_init_89 kf_Md_40 h40v (Nat.le_of_ble_eq_true rfl) rfl rfl rfl (fun w41 h42n h42v h42f => ?_)
  have n79 : w41.2 = (80, z + 2378) := h42n.trans n79
  have v79 : w41.1 79 = _ := (h42f 79 (by decide)).trans v79
  have f79 : ∀ j, j ≠ 69 → j ≠ 79 → w41.1 j = _ := fun j a b => (h42f j a).trans (f79 j a b)
  refine e_aload_n dd_Md_init_92 rfl ?_
  refine e_bipush_n 60 dd_Md_init_93 (by decide) ?_
  refine e_newax (t := 0) dd_Md_init_95 rfl ww_40 rfl (by omega) n79 (fun w43 h44n h44v h44f => ?_)
  refine e_putFx (fs1 := [.int 0, .ref 70, .int 0, .ref 71, .int 0, .ref 72, .ref 73, .ref 74, .ref 75, .ref 76, .int 0, .ref 77, .int 0, .ref 78, .int 0, .ref 79, .int (-1), .int 0, .ref 80, .int 0, .null]) dd_Md_init_97 kf_Md_44 rfl rfl ((h44f _ (by decide)).trans h42v) (Nat.le_of_ble_eq_true rfl) rfl rfl rfl (fun w45 h46n h46v h46f => ?_)
  have n80 : w45.2 = (81, z + 2438) := h46n.trans h44n
  have v80 : w45.1 80 = _ := (h46f 80 (by decide)).trans h44v
  have f80 : ∀ j, j ≠ 69 → j ≠ 80 → w45.1 j = w41.1 j := fun j a b => (h46f j a).trans (h44f j b)
  refine e_aload_n dd_Md_init_100 rfl ?_
  refine e_sipush_n 400 dd_Md_init_101 (by decide) ?_
  refine e_newax (t := 0) dd_Md_init_104 rfl ww_40 rfl (by omega) n80 (fun w47 h48n h48v h48f => ?_)
  refine e_putFx (fs1 := [.int 0, .ref 70, .int 0, .ref 71, .int 0, .ref 72, .ref 73, .ref 74, .ref 75, .ref 76, .int 0, .ref 77, .int 0, .ref 78, .int 0, .ref 79, .int (-1), .int 0, .ref 80, .int 0, .ref 81]) dd_Md_init_106 kf_Md_47 rfl rfl ((h48f _ (by decide)).trans h46v) (Nat.le_of_ble_eq_true rfl) rfl rfl rfl (fun w49 h50n h50v h50f => ?_)
  have n81 : w49.2 = (82, z + 2838) := h50n.trans h48n
  have v81 : w49.1 81 = _ := (h50f 81 (by decide)).trans h48v
  have f81 : ∀ j, j ≠ 69 → j ≠ 81 → w49.1 j = w45.1 j := fun j a b => (h50f j a).trans (h48f j b)
  exact e_vret dd_Md_init_109 rfl (pV_of ⟨n81, ⟨⟨0, 0, h50v⟩, mA.zero ((f81 70 (by decide) (by decide)).trans ((f80 70 (by decide) (by decide)).trans ((f79 70 (by decide) (by decide)).trans ((f78 70 (by decide) (by decide)).trans ((f77 70 (by decide) (by decide)).trans ((f76 70 (by decide) (by decide)).trans ((f75 70 (by decide) (by decide)).trans ((f74 70 (by decide) (by decide)).trans ((f73 70 (by decide) (by decide)).trans ((f72 70 (by decide) (by decide)).trans ((f71 70 (by decide) (by decide)).trans (v70)))))))))))), mA.zero ((f81 71 (by decide) (by decide)).trans ((f80 71 (by decide) (by decide)).trans ((f79 71 (by decide) (by decide)).trans ((f78 71 (by decide) (by decide)).trans ((f77 71 (by decide) (by decide)).trans ((f76 71 (by decide) (by decide)).trans ((f75 71 (by decide) (by decide)).trans ((f74 71 (by decide) (by decide)).trans ((f73 71 (by decide) (by decide)).trans ((f72 71 (by decide) (by decide)).trans (v71))))))))))), ⟨Nat.zero_le _, _, _, _, _, _, ⟨(f81 72 (by decide) (by decide)).trans ((f80 72 (by decide) (by decide)).trans ((f79 72 (by decide) (by decide)).trans ((f78 72 (by decide) (by decide)).trans ((f77 72 (by decide) (by decide)).trans ((f76 72 (by decide) (by decide)).trans ((f75 72 (by decide) (by decide)).trans ((f74 72 (by decide) (by decide)).trans ((f73 72 (by decide) (by decide)).trans (v72))))))))), (f81 73 (by decide) (by decide)).trans ((f80 73 (by decide) (by decide)).trans ((f79 73 (by decide) (by decide)).trans ((f78 73 (by decide) (by decide)).trans ((f77 73 (by decide) (by decide)).trans ((f76 73 (by decide) (by decide)).trans ((f75 73 (by decide) (by decide)).trans ((f74 73 (by decide) (by decide)).trans (v73)))))))), (f81 74 (by decide) (by decide)).trans ((f80 74 (by decide) (by decide)).trans ((f79 74 (by decide) (by decide)).trans ((f78 74 (by decide) (by decide)).trans ((f77 74 (by decide) (by decide)).trans ((f76 74 (by decide) (by decide)).trans ((f75 74 (by decide) (by decide)).trans (v74))))))), (f81 75 (by decide) (by decide)).trans ((f80 75 (by decide) (by decide)).trans ((f79 75 (by decide) (by decide)).trans ((f78 75 (by decide) (by decide)).trans ((f77 75 (by decide) (by decide)).trans ((f76 75 (by decide) (by decide)).trans (v75)))))), (f81 76 (by decide) (by decide)).trans ((f80 76 (by decide) (by decide)).trans ((f79 76 (by decide) (by decide)).trans ((f78 76 (by decide) (by decide)).trans ((f77 76 (by decide) (by decide)).trans (v76)))))⟩, fun i f hf => by simp at hf⟩, mA.zero ((f81 77 (by decide) (by decide)).trans ((f80 77 (by decide) (by decide)).trans ((f79 77 (by decide) (by decide)).trans ((f78 77 (by decide) (by decide)).trans (v77))))), ⟨[], mA.zero ((f81 78 (by decide) (by decide)).trans ((f80 78 (by decide) (by decide)).trans ((f79 78 (by decide) (by decide)).trans (v78))))⟩, ⟨Nat.zero_le _, (fun q hq => by cases hq), _, (f81 79 (by decide) (by decide)).trans ((f80 79 (by decide) (by decide)).trans (v79)), fun j q hq => by simp at hq⟩, mA.zero ((f81 80 (by decide) (by decide)).trans (v80)), [], mA.zero (v81)⟩, fun j hj => (f81 j (by omega) (by omega)).trans ((f80 j (by omega) (by omega)).trans ((f79 j (by omega) (by omega)).trans ((f78 j (by omega) (by omega)).trans ((f77 j (by omega) (by omega)).trans ((f76 j (by omega) (by omega)).trans ((f75 j (by omega) (by omega)).trans ((f74 j (by omega) (by omega)).trans ((f73 j (by omega) (by omega)).trans ((f72 j (by omega) (by omega)).trans ((f71 j (by omega) (by omega)).trans (f70 j (by omega) (by omega))))))))))))⟩)
set_option maxRecDepth 100000 in
set_option maxHeartbeats 4000000 in
theorem l_Md_addName {F : Nat} {m : Int32} {g0 gs : Nat → Int32} {P : Option Value → ab_W → Prop} (hF6 : F < 6) (h : mO w nl dl (nI F) ln md op pl tk rq) (hs : w.1 70 = some (.inl (0, 8, .inl gs))) (K : ∀ w2 g, rS w w2 74 74 → w2.1 74 = some (.inl (0, 48, .inl g)) → (∀ t, t < 8 * F → g t = g0 t) → (∀ t, t < 8 → g (8 * F + t) = gs t) → ab_E G mm_Md_add rr_Md_add 100 [(0, .ref 69), (1, .int m), (2, .int (nI 8))] [] w2 P) : ∀ (k i : Nat) (w1 : ab_W) (g : Nat → Int32), i + k = 8 → rS w w1 74 74 → w1.1 74 = some (.inl (0, 48, .inl g)) → (∀ t, t < 8 * F → g t = g0 t) → (∀ t, t < i → g (8 * F + t) = gs t) → ab_E G mm_Md_add rr_Md_add 68 [(0, .ref 69), (1, .int m), (2, .int (nI i))] [] w1 P := by
  intro k
  induction k with
  | zero =>
    intro i w1 g hi hS hd h1 h2
    have e0 : i = 8 := by omega
    subst e0
    refine e_iload_n dd_Md_add_68 rfl ?_
    refine e_bipush_n 8 dd_Md_add_69 (by decide) ?_
    refine e_icmp_ge_n (tgt := 100) dd_Md_add_71 (by decide) (by omega) (by omega) (fun _ => ?_) (fun h9 => absurd h9 (by decide))
    exact K w1 g hS hd h1 h2
  | succ k ih =>
    intro i w1 g hi hS hd h1 h2
    have h69 : w1.1 69 = _ := (hS.2 69 (by decide) (by decide)).trans h
    have hs1 := (hS.2 70 (by decide) (by decide)).trans hs
    refine e_iload_n dd_Md_add_68 rfl ?_
    refine e_bipush_n 8 dd_Md_add_69 (by decide) ?_
    refine e_icmp_ge_n (tgt := 100) dd_Md_add_71 (by decide) (by omega) (by omega) (fun h9 => absurd h9 (by omega)) (fun _ => ?_)
    refine e_aload_n dd_Md_add_74 rfl ?_
    refine e_get dd_Md_add_75 kf_Md_22 h69 rfl ?_
    refine e_bipush_n 8 dd_Md_add_78 (by decide) ?_
    refine e_aload_n dd_Md_add_80 rfl ?_
    refine e_get dd_Md_add_81 kf_Md_64 h69 rfl ?_
    refine e_imul_n dd_Md_add_84 ?_
    refine e_iload_n dd_Md_add_85 rfl ?_
    refine e_iadd_n dd_Md_add_86 ?_
    refine e_aload_n dd_Md_add_87 rfl ?_
    refine e_get dd_Md_add_88 kf_Md_7 h69 rfl ?_
    refine e_iload_n dd_Md_add_91 rfl ?_
    refine e_iald dd_Md_add_92 hs1 rfl rfl (by omega) (by decide) ?_
    refine e_iastx dd_Md_add_93 hd rfl rfl (by omega) (by decide) (fun w1 h2n h2v h2f => ?_)
    refine e_iinc_n (a := i) (k := 1) (lv1 := [(0, .ref 69), (1, .int m), (2, .int (nI (i + 1)))]) dd_Md_add_94 rfl (by decide) (by decide) rfl ?_
    refine e_goto (tgt := 68) dd_Md_add_97 (by decide) ?_
    exact ih (i + 1) w1 _ (by omega) ⟨h2n.trans hS.1, fun j a b => (h2f j a).trans (hS.2 j a b)⟩ h2v (fun t ht => by
      rw [show upd g (8 * F + i) (gs i) t = g t from if_neg (by omega)]
      exact h1 t ht) (fun t ht => by
      by_cases e : t = i
      · subst e
        exact if_pos rfl
      · rw [show upd g (8 * F + i) (gs i) (8 * F + t) = g (8 * F + t) from if_neg (by omega)]
        exact h2 t (by omega))
set_option maxRecDepth 100000 in
set_option maxHeartbeats 4000000 in
theorem l_Md_addData {F : Nat} {m : Int32} {g0 gs : Nat → Int32} {P : Option Value → ab_W → Prop} (hF6 : F < 6) (h : mO w nl dl (nI F) ln md op pl tk rq) (hs : w.1 71 = some (.inl (0, 60, .inl gs))) (K : ∀ w2 g, rS w w2 76 76 → w2.1 76 = some (.inl (0, 360, .inl g)) → (∀ t, t < 60 * F → g t = g0 t) → (∀ t, t < 60 → g (60 * F + t) = gs t) → ab_E G mm_Md_add rr_Md_add 134 [(0, .ref 69), (1, .int m), (2, .int (nI 60))] [] w2 P) : ∀ (k i : Nat) (w1 : ab_W) (g : Nat → Int32), i + k = 60 → rS w w1 76 76 → w1.1 76 = some (.inl (0, 360, .inl g)) → (∀ t, t < 60 * F → g t = g0 t) → (∀ t, t < i → g (60 * F + t) = gs t) → ab_E G mm_Md_add rr_Md_add 102 [(0, .ref 69), (1, .int m), (2, .int (nI i))] [] w1 P := by
  intro k
  induction k with
  | zero =>
    intro i w1 g hi hS hd h1 h2
    have e0 : i = 60 := by omega
    subst e0
    refine e_iload_n dd_Md_add_102 rfl ?_
    refine e_bipush_n 60 dd_Md_add_103 (by decide) ?_
    refine e_icmp_ge_n (tgt := 134) dd_Md_add_105 (by decide) (by omega) (by omega) (fun _ => ?_) (fun h9 => absurd h9 (by decide))
    exact K w1 g hS hd h1 h2
  | succ k ih =>
    intro i w1 g hi hS hd h1 h2
    have h69 : w1.1 69 = _ := (hS.2 69 (by decide) (by decide)).trans h
    have hs1 := (hS.2 71 (by decide) (by decide)).trans hs
    refine e_iload_n dd_Md_add_102 rfl ?_
    refine e_bipush_n 60 dd_Md_add_103 (by decide) ?_
    refine e_icmp_ge_n (tgt := 134) dd_Md_add_105 (by decide) (by omega) (by omega) (fun h9 => absurd h9 (by omega)) (fun _ => ?_)
    refine e_aload_n dd_Md_add_108 rfl ?_
    refine e_get dd_Md_add_109 kf_Md_28 h69 rfl ?_
    refine e_bipush_n 60 dd_Md_add_112 (by decide) ?_
    refine e_aload_n dd_Md_add_114 rfl ?_
    refine e_get dd_Md_add_115 kf_Md_64 h69 rfl ?_
    refine e_imul_n dd_Md_add_118 ?_
    refine e_iload_n dd_Md_add_119 rfl ?_
    refine e_iadd_n dd_Md_add_120 ?_
    refine e_aload_n dd_Md_add_121 rfl ?_
    refine e_get dd_Md_add_122 kf_Md_13 h69 rfl ?_
    refine e_iload_n dd_Md_add_125 rfl ?_
    refine e_iald dd_Md_add_126 hs1 rfl rfl (by omega) (by decide) ?_
    refine e_iastx dd_Md_add_127 hd rfl rfl (by omega) (by decide) (fun w1 h2n h2v h2f => ?_)
    refine e_iinc_n (a := i) (k := 1) (lv1 := [(0, .ref 69), (1, .int m), (2, .int (nI (i + 1)))]) dd_Md_add_128 rfl (by decide) (by decide) rfl ?_
    refine e_goto (tgt := 102) dd_Md_add_131 (by decide) ?_
    exact ih (i + 1) w1 _ (by omega) ⟨h2n.trans hS.1, fun j a b => (h2f j a).trans (hS.2 j a b)⟩ h2v (fun t ht => by
      rw [show upd g (60 * F + i) (gs i) t = g t from if_neg (by omega)]
      exact h1 t ht) (fun t ht => by
      by_cases e : t = i
      · subst e
        exact if_pos rfl
      · rw [show upd g (60 * F + i) (gs i) (60 * F + t) = g (60 * F + t) from if_neg (by omega)]
        exact h2 t (by omega))
theorem mfI.far {f72 f73 f74 f75 f76 g72 g73 g74 g75 g76 : Nat → Int32} {i F : Nat} {f : FW} (h : mfI f72 f73 f74 f75 f76 i f) (hi : i < F) (hn : f.1.length ≤ 8) (hd : f.2.2.length ≤ 60) (h72 : ∀ t, t < F → g72 t = f72 t) (h73 : ∀ t, t < F → g73 t = f73 t) (h74 : ∀ t, t < 8 * F → g74 t = f74 t) (h75 : ∀ t, t < F → g75 t = f75 t) (h76 : ∀ t, t < 60 * F → g76 t = f76 t) : mfI g72 g73 g74 g75 g76 i f := by
  obtain ⟨a1, a2, a3, a4, a5⟩ := h
  exact ⟨(h72 i hi).trans a1, (h73 i hi).trans a2, (h75 i hi).trans a3, fun j hj => (h74 _ (by omega)).trans (a4 j hj), fun j hj => (h76 _ (by omega)).trans (a5 j hj)⟩
set_option maxRecDepth 100000 in
set_option maxHeartbeats 4000000 in
theorem c_Md_add (h : mRep w S) (m : Int32) : ab_E G mm_Md_add rr_Md_add 0 [(0, .ref 69), (1, .int m)] [] w (mEnd w (mAdd m S)) := by
  obtain ⟨nm, by_, fs, im, op, pl, tk⟩ := S
  have h0 := h
  obtain ⟨⟨md, rq, hO⟩, hnm, hby, hF, him, ⟨ds, hds⟩, hP, htk, ⟨xs, hxs⟩⟩ := h
  have h69 : w.1 69 = _ := hO
  have hnl := hnm.1
  have hbl := hby.1
  have hfl := hF.1
  have hil := him.1
  have hpl := hP.1
  have htl := htk.1
  obtain ⟨-, f72, f73, f74, f75, f76, ⟨h72, h73, h74, h75, h76⟩, hfs⟩ := id hF
  obtain ⟨-, hnb, g70, h70, hg70⟩ := id hnm
  obtain ⟨-, hbb, g71, h71, hg71⟩ := id hby
  refine e_iload_n dd_Md_add_0 rfl ?_
  refine e_iconst_n 0 dd_Md_add_1 (by decide) ?_
  refine e_iconst_n 2 dd_Md_add_2 (by decide) ?_
  refine e_callSp (d1 := rr_Md_in) (As := [.int m, .int (nI 0), .int (nI 2)]) (st := []) dd_Md_add_3 km_Md_50 (by decide) rfl (Nat.le_of_ble_eq_true rfl) (Nat.le_of_ble_eq_true rfl) rfl rfl (c_Md_in m (nI 0) (nI 2)) ?_
  refine e_if_eq_b (tgt := 16) dd_Md_add_6 (by decide) (fun c6 => ?_) (fun c6 => ?_)
  · have c6 := of_decide_eq_false c6
    refine e_iconst (v := -1) dd_Md_add_16 (by decide) ?_
    exact e_iret dd_Md_add_17 rfl (mEnd_of (q := (_, (nm, by_, fs, im, op, pl, tk))) (by simp only [mAdd]; rw [if_neg (fun h9 => c6 h9.1)]) rfl h0 rG.rf)
  · have c6 := of_decide_eq_true c6
    refine e_aload_n dd_Md_add_9 rfl ?_
    refine e_get dd_Md_add_10 kf_Md_58 h69 rfl ?_
    refine e_if_ne_n (tgt := 18) dd_Md_add_13 (by decide) (by omega) (fun c13 => ?_) (fun c13 => ?_)
    · have hin : (0 ≤ m ∧ m ≤ nI 2) ∧ nm.length ≠ 0 := ⟨c6, by omega⟩
      obtain ⟨m, hm, rfl, em⟩ := nI_self (Int32.not_lt.mpr c6.1)
      have hm2 : m ≤ 2 := (nI_leI hm (by decide)).mp c6.2
      refine e_aload_n dd_Md_add_18 rfl ?_
      refine e_get dd_Md_add_19 kf_Md_64 h69 rfl ?_
      refine e_bipush_n 6 dd_Md_add_22 (by decide) ?_
      refine e_icmp_ne_n (tgt := 30) dd_Md_add_24 (by decide) (by omega) (by omega) (fun c24 => ?_) (fun c24 => ?_)
      · refine e_aload_n dd_Md_add_30 rfl ?_
        refine e_get dd_Md_add_31 kf_Md_16 h69 rfl ?_
        refine e_aload_n dd_Md_add_34 rfl ?_
        refine e_get dd_Md_add_35 kf_Md_64 h69 rfl ?_
        refine e_iload_n dd_Md_add_38 rfl ?_
        refine e_iastx dd_Md_add_39 h72 rfl rfl (by omega) (by decide) (fun w21 h22n h22v h22f => ?_)
        refine e_aload_n dd_Md_add_40 rfl ?_
        refine e_get dd_Md_add_41 kf_Md_19 ((h22f _ (by decide)).trans h69) rfl ?_
        refine e_aload_n dd_Md_add_44 rfl ?_
        refine e_get dd_Md_add_45 kf_Md_64 ((h22f _ (by decide)).trans h69) rfl ?_
        refine e_aload_n dd_Md_add_48 rfl ?_
        refine e_get dd_Md_add_49 kf_Md_58 ((h22f _ (by decide)).trans h69) rfl ?_
        refine e_iastx dd_Md_add_52 ((h22f _ (by decide)).trans h73) rfl rfl (by omega) (by decide) (fun w23 h24n h24v h24f => ?_)
        refine e_aload_n dd_Md_add_53 rfl ?_
        refine e_get dd_Md_add_54 kf_Md_25 ((h24f _ (by decide)).trans ((h22f _ (by decide)).trans h69)) rfl ?_
        refine e_aload_n dd_Md_add_57 rfl ?_
        refine e_get dd_Md_add_58 kf_Md_64 ((h24f _ (by decide)).trans ((h22f _ (by decide)).trans h69)) rfl ?_
        refine e_aload_n dd_Md_add_61 rfl ?_
        refine e_get dd_Md_add_62 kf_Md_61 ((h24f _ (by decide)).trans ((h22f _ (by decide)).trans h69)) rfl ?_
        refine e_iastx dd_Md_add_65 ((h24f _ (by decide)).trans ((h22f _ (by decide)).trans h75)) rfl rfl (by omega) (by decide) (fun w25 h26n h26v h26f => ?_)
        refine e_iconst_n 0 dd_Md_add_66 (by decide) ?_
        refine e_istore_n (lv1 := [(0, .ref 69), (1, .int (nI m)), (2, .int (nI 0))]) dd_Md_add_67 (by decide) rfl ?_
        have hA : ∀ j, j ≠ 72 → j ≠ 73 → j ≠ 75 → w25.1 j = w.1 j := fun j a b c => (h26f j c).trans ((h24f j b).trans (h22f j a))
        have e72 := (h26f 72 (by decide)).trans ((h24f 72 (by decide)).trans h22v)
        have e73 := (h26f 73 (by decide)).trans h24v
        have e75 := h26v
        have hO3 : mO w25 _ _ _ _ _ _ _ _ _ := (hA 69 (by decide) (by decide) (by decide)).trans hO
        refine l_Md_addName (g0 := f74) (by omega) hO3 ((hA 70 (by decide) (by decide) (by decide)).trans h70) (fun w4 g74 hS4 e74 q1 q2 => ?_) 8 0 w25 f74 (by decide) rS.rf ((hA 74 (by decide) (by decide) (by decide)).trans h74) (fun t _ => rfl) (fun t ht => absurd ht (Nat.not_lt_zero t))
        refine e_iconst_n 0 dd_Md_add_100 (by decide) ?_
        refine e_istore_n (lv1 := [(0, .ref 69), (1, .int (nI m)), (2, .int (nI 0))]) dd_Md_add_101 (by decide) rfl ?_
        have hO4 : mO w4 _ _ _ _ _ _ _ _ _ := (hS4.2 69 (by decide) (by decide)).trans hO3
        refine l_Md_addData (g0 := f76) (by omega) hO4 ((hS4.2 71 (by decide) (by decide)).trans ((hA 71 (by decide) (by decide) (by decide)).trans h71)) (fun w5 g76 hS5 e76 q3 q4 => ?_) 60 0 w4 f76 (by decide) rS.rf ((hS4.2 76 (by decide) (by decide)).trans ((hA 76 (by decide) (by decide) (by decide)).trans h76)) (fun t _ => rfl) (fun t ht => absurd ht (Nat.not_lt_zero t))
        have h69e : w5.1 69 = _ := (hS5.2 69 (by decide) (by decide)).trans hO4
        refine e_aload_n dd_Md_add_134 rfl ?_
        refine e_dup dd_Md_add_135 rfl ?_
        refine e_get dd_Md_add_136 kf_Md_64 h69e rfl ?_
        refine e_iconst_n 1 dd_Md_add_139 (by decide) ?_
        refine e_iadd_n dd_Md_add_140 ?_
        refine e_putx (fs1 := [.int (nI nm.length), .ref 70, .int (nI by_.length), .ref 71, .int (nI (fs.length + 1)), .ref 72, .ref 73, .ref 74, .ref 75, .ref 76, .int (nI im.length), .ref 77, .int md, .ref 78, .int (nI op.length), .ref 79, .int pl, .int (nI tk.length), .ref 80, .int rq, .ref 81]) dd_Md_add_141 kf_Md_64 h69e (Nat.le_of_ble_eq_true rfl) rfl rfl rfl (fun w61 h62n h62v h62f => ?_)
        refine e_aload_n dd_Md_add_144 rfl ?_
        refine e_iconst_n 0 dd_Md_add_145 (by decide) ?_
        refine e_putx (fs1 := [.int (nI 0), .ref 70, .int (nI by_.length), .ref 71, .int (nI (fs.length + 1)), .ref 72, .ref 73, .ref 74, .ref 75, .ref 76, .int (nI im.length), .ref 77, .int md, .ref 78, .int (nI op.length), .ref 79, .int pl, .int (nI tk.length), .ref 80, .int rq, .ref 81]) dd_Md_add_146 kf_Md_58 h62v (Nat.le_of_ble_eq_true rfl) rfl rfl rfl (fun w63 h64n h64v h64f => ?_)
        refine e_aload_n dd_Md_add_149 rfl ?_
        refine e_iconst_n 0 dd_Md_add_150 (by decide) ?_
        refine e_putx (fs1 := [.int (nI 0), .ref 70, .int (nI 0), .ref 71, .int (nI (fs.length + 1)), .ref 72, .ref 73, .ref 74, .ref 75, .ref 76, .int (nI im.length), .ref 77, .int md, .ref 78, .int (nI op.length), .ref 79, .int pl, .int (nI tk.length), .ref 80, .int rq, .ref 81]) dd_Md_add_151 kf_Md_61 h64v (Nat.le_of_ble_eq_true rfl) rfl rfl rfl (fun w65 h66n h66v h66f => ?_)
        refine e_aload_n dd_Md_add_154 rfl ?_
        refine e_get dd_Md_add_155 kf_Md_64 h66v rfl ?_
        refine e_iconst_n 1 dd_Md_add_158 (by decide) ?_
        refine e_isub_n dd_Md_add_159 (by omega) ?_
        have hB : ∀ j, j ≠ 69 → w65.1 j = w5.1 j := fun j a => (h66f j a).trans ((h64f j a).trans (h62f j a))
        have hC : ∀ j, j ≠ 74 → j ≠ 76 → w5.1 j = w25.1 j := fun j a b => (hS5.2 j b b).trans (hS4.2 j a a)
        have hf : ∀ j, (j < 69 ∨ (69 < j ∧ j < 72) ∨ 76 < j) → w65.1 j = w.1 j := fun j hj => (hB j (by omega)).trans ((hC j (by omega) (by omega)).trans (hA j (by omega) (by omega) (by omega)))
        have hv : w65.2 = w.2 := h66n.trans (h64n.trans (h62n.trans (hS5.1.trans (hS4.1.trans (h26n.trans (h24n.trans h22n))))))
        have hF2 : mF w65 (fs ++ [(nm, m, by_)]) := by
          refine ⟨by simp; omega, _, _, _, _, _, ⟨(hB 72 (by decide)).trans ((hC 72 (by decide) (by decide)).trans e72), (hB 73 (by decide)).trans ((hC 73 (by decide) (by decide)).trans e73), (hB 74 (by decide)).trans ((hS5.2 74 (by decide) (by decide)).trans e74), (hB 75 (by decide)).trans ((hC 75 (by decide) (by decide)).trans e75), (hB 76 (by decide)).trans e76⟩, fun i f hf0 => ?_⟩
          by_cases hi : i < fs.length
          · rw [List.getElem?_append_left hi] at hf0
            obtain ⟨k1, k2⟩ := hfs i f hf0
            exact ⟨k1, k2.far hi k1.2.1 k1.2.2.2.1 (fun t ht => if_neg (by omega)) (fun t ht => if_neg (by omega)) q1 (fun t ht => if_neg (by omega)) q3⟩
          · have hi2 : i = fs.length := by
              have := (List.getElem?_eq_some_iff.mp hf0).1
              simp at this
              omega
            subst hi2
            rw [List.getElem?_append_right (Nat.le_refl _), Nat.sub_self] at hf0
            cases hf0
            exact ⟨⟨Nat.pos_of_ne_zero hin.2, hnl, hm2, hbl, hnb, hbb⟩, if_pos rfl, if_pos rfl, if_pos rfl, fun j (hj : j < nm.length) => (q2 j (by omega)).trans (hg70 j hj), fun j (hj : j < by_.length) => (q4 j (by omega)).trans (hg71 j hj)⟩
        have eans : nI (fs.length + 1 - 1) = nI fs.length := rfl
        exact e_iret dd_Md_add_160 rfl (mEnd_of (q := (nI fs.length, ([], [], fs ++ [(nm, m, by_)], im, op, pl, tk))) (by simp only [mAdd]; rw [if_pos hin, if_pos (by omega), em]) rfl ⟨⟨md, rq, by rw [List.length_append]; exact h66v⟩, (hnm.take (hf 70 (by decide)) 0), (hby.take (hf 71 (by decide)) 0), hF2, him.keep (hf 77 (by decide)), ⟨ds, hds.keep (hf 78 (by decide))⟩, hP.keep (hf 79 (by decide)), htk.keep (hf 80 (by decide)), ⟨xs, hxs.keep (hf 81 (by decide))⟩⟩ ⟨hv, fun j hj => hf j (by omega)⟩)
      · refine e_bipush (v := -2) dd_Md_add_27 (by decide) ?_
        exact e_iret dd_Md_add_29 rfl (mEnd_of (q := (_, (nm, by_, fs, im, op, pl, tk))) (by simp only [mAdd]; rw [if_pos hin, if_neg (by omega)]) rfl h0 rG.rf)
    · refine e_iconst (v := -1) dd_Md_add_16 (by decide) ?_
      exact e_iret dd_Md_add_17 rfl (mEnd_of (q := (_, (nm, by_, fs, im, op, pl, tk))) (by simp only [mAdd]; rw [if_neg (fun h9 => h9.2 c13)]) rfl h0 rG.rf)
set_option maxRecDepth 100000 in
set_option maxHeartbeats 4000000 in
theorem l_Md_copyDraft {f : Int32} {P : Option Value → ab_W → Prop} (hd : mA w 78 1200 ds) (hl : ds.length ≤ 600) (h : mO w nl dl fl ln (nI ds.length) op pl tk rq) (K : ∀ w2, rS w w2 77 77 → mA w2 77 600 ds → ab_E G mm_Md_pack rr_Md_pack 72 [(0, .ref 69), (1, .int f), (2, .int (nI ds.length))] [] w2 P) : ∀ (k i : Nat) (w1 : ab_W), i + k = ds.length → rS w w1 77 77 → mA w1 77 600 (ds.take i) → ab_E G mm_Md_pack rr_Md_pack 46 [(0, .ref 69), (1, .int f), (2, .int (nI i))] [] w1 P := by
  intro k
  induction k with
  | zero =>
    intro i w1 hi hS hA
    have e0 : i = ds.length := by omega
    subst e0
    have h69 : w1.1 69 = _ := (hS.2 69 (by decide) (by decide)).trans h
    rw [List.take_length] at hA
    refine e_iload_n dd_Md_pack_46 rfl ?_
    refine e_aload_n dd_Md_pack_47 rfl ?_
    refine e_get dd_Md_pack_48 kf_Md_96 h69 rfl ?_
    refine e_icmp_ge_n (tgt := 72) dd_Md_pack_51 (by decide) (by omega) (by omega) (fun _ => ?_) (fun h9 => absurd h9 (by omega))
    exact K w1 hS hA
  | succ k ih =>
    intro i w1 hi hS hA
    have h69 : w1.1 69 = _ := (hS.2 69 (by decide) (by decide)).trans h
    obtain ⟨-, hb, g78, h78, hg78⟩ := hd.keep (hS.2 78 (by decide) (by decide))
    obtain ⟨hl7, -, g77, h77, hg77⟩ := id hA
    have hlt : (ds.take i).length = i := by rw [List.length_take]; omega
    have hil : i < ds.length := by omega
    refine e_iload_n dd_Md_pack_46 rfl ?_
    refine e_aload_n dd_Md_pack_47 rfl ?_
    refine e_get dd_Md_pack_48 kf_Md_96 h69 rfl ?_
    refine e_icmp_ge_n (tgt := 72) dd_Md_pack_51 (by decide) (by omega) (by omega) (fun h9 => absurd h9 (by omega)) (fun _ => ?_)
    refine e_aload_n dd_Md_pack_54 rfl ?_
    refine e_get dd_Md_pack_55 kf_Md_31 h69 rfl ?_
    refine e_iload_n dd_Md_pack_58 rfl ?_
    refine e_aload_n dd_Md_pack_59 rfl ?_
    refine e_get dd_Md_pack_60 kf_Md_34 h69 rfl ?_
    refine e_iload_n dd_Md_pack_63 rfl ?_
    refine e_iald dd_Md_pack_64 h78 rfl rfl (by omega) (by decide) ?_
    refine e_top (y := nI (ds.getD i 0)) (hg78 i hil) ?_
    refine e_iastx dd_Md_pack_65 h77 rfl rfl (by omega) (by decide) (fun w1 h2n h2v h2f => ?_)
    refine e_iinc_n (a := i) (k := 1) (lv1 := [(0, .ref 69), (1, .int f), (2, .int (nI (i + 1)))]) dd_Md_pack_66 rfl (by decide) (by decide) rfl ?_
    refine e_goto (tgt := 46) dd_Md_pack_69 (by decide) ?_
    exact ih (i + 1) w1 (by omega) ⟨h2n.trans hS.1, fun j a b => (h2f j a).trans (hS.2 j a b)⟩ (by
      have q := hA.snocAt (getD_lt hb hil) (by omega) hlt.symm h2v hg77
      rwa [← take_snoc (f := ds.getD i 0) (by rw [List.getD_eq_getElem?_getD, List.getElem?_eq_getElem hil]; rfl)] at q)
set_option maxRecDepth 100000 in
set_option maxHeartbeats 4000000 in
theorem l_Md_pack {nm by_ : List Nat} {fs : List FW} {im : List Nat} {op : List FO} {pl : Int32} {tk : List Nat} {f : Int32} {w0 : ab_W} (hf0 : f = 0 ∨ f = nI 1) (h : mRep w0 (nm, by_, fs, im, op, pl, tk)) (hT : rT w0 w) (hO : mO w (nI nm.length) (nI by_.length) (nI fs.length) (nI im.length) (nI (pkd f fs).length) (nI op.length) pl (nI tk.length) rq) (hA : mA w 78 1200 (pkd f fs)) (hX : mA w 81 400 xs) : ab_E G mm_Md_pack rr_Md_pack 31 [(0, .ref 69), (1, .int f)] [] w (mEnd w0 (mPack f (nm, by_, fs, im, op, pl, tk))) := by
  obtain ⟨-, hnm, hby, hF, him, -, hP, htk, -⟩ := h
  have h69 : w.1 69 = _ := hO
  have hpl := hA.1
  have hf : ∀ j, j ≠ 69 → j ≠ 78 → j ≠ 81 → w.1 j = w0.1 j := hT.2
  generalize hpk : pkd f fs = D at hO hA h69 hpl
  refine e_aload_n dd_Md_pack_31 rfl ?_
  refine e_get dd_Md_pack_32 kf_Md_96 h69 rfl ?_
  refine e_sipush_n 600 dd_Md_pack_35 (by decide) ?_
  refine e_icmp_le_n (tgt := 44) dd_Md_pack_38 (by decide) (by omega) (by omega) (fun c38 => ?_) (fun c38 => ?_)
  · refine e_iconst_n 0 dd_Md_pack_44 (by decide) ?_
    refine e_istore_n (lv1 := [(0, .ref 69), (1, .int f), (2, .int (nI 0))]) dd_Md_pack_45 (by decide) rfl ?_
    refine l_Md_copyDraft hA c38 hO (fun w2 hS h77 => ?_) D.length 0 w (by omega) rS.rf ((him.keep (hf 77 (by decide) (by decide) (by decide))).take rfl 0)
    have h69b := (hS.2 69 (by decide) (by decide)).trans h69
    refine e_aload_n dd_Md_pack_72 rfl ?_
    refine e_aload_n dd_Md_pack_73 rfl ?_
    refine e_get dd_Md_pack_74 kf_Md_96 h69b rfl ?_
    refine e_putx (fs1 := [.int (nI nm.length), .ref 70, .int (nI by_.length), .ref 71, .int (nI fs.length), .ref 72, .ref 73, .ref 74, .ref 75, .ref 76, .int (nI D.length), .ref 77, .int (nI D.length), .ref 78, .int (nI op.length), .ref 79, .int pl, .int (nI tk.length), .ref 80, .int rq, .ref 81]) dd_Md_pack_77 kf_Md_124 h69b (Nat.le_of_ble_eq_true rfl) rfl rfl rfl (fun w31 h32n h32v h32f => ?_)
    refine e_aload_n dd_Md_pack_80 rfl ?_
    refine e_iconst_n 0 dd_Md_pack_81 (by decide) ?_
    refine e_putx (fs1 := [.int (nI nm.length), .ref 70, .int (nI by_.length), .ref 71, .int (nI 0), .ref 72, .ref 73, .ref 74, .ref 75, .ref 76, .int (nI D.length), .ref 77, .int (nI D.length), .ref 78, .int (nI op.length), .ref 79, .int pl, .int (nI tk.length), .ref 80, .int rq, .ref 81]) dd_Md_pack_82 kf_Md_64 h32v (Nat.le_of_ble_eq_true rfl) rfl rfl rfl (fun w33 h34n h34v h34f => ?_)
    refine e_aload_n dd_Md_pack_85 rfl ?_
    refine e_iconst_n 0 dd_Md_pack_86 (by decide) ?_
    refine e_putx (fs1 := [.int (nI nm.length), .ref 70, .int (nI by_.length), .ref 71, .int (nI 0), .ref 72, .ref 73, .ref 74, .ref 75, .ref 76, .int (nI D.length), .ref 77, .int (nI D.length), .ref 78, .int (nI 0), .ref 79, .int pl, .int (nI tk.length), .ref 80, .int rq, .ref 81]) dd_Md_pack_87 kf_Md_127 h34v (Nat.le_of_ble_eq_true rfl) rfl rfl rfl (fun w35 h36n h36v h36f => ?_)
    refine e_aload_n dd_Md_pack_90 rfl ?_
    refine e_get dd_Md_pack_91 kf_Md_124 h36v rfl ?_
    have hB : ∀ j, j ≠ 69 → w35.1 j = w2.1 j := fun j a => (h36f j a).trans ((h34f j a).trans (h32f j a))
    have hg : ∀ j, j ≠ 69 → j ≠ 77 → j ≠ 78 → j ≠ 81 → w35.1 j = w0.1 j := fun j a b c d => (hB j a).trans ((hS.2 j b b).trans (hf j a c d))
    have hv : w35.2 = w0.2 := h36n.trans (h34n.trans (h32n.trans (hS.1.trans hT.1)))
    have hF2 : mF w35 [] := by
      obtain ⟨-, f72, f73, f74, f75, f76, a2, -⟩ := hF
      exact ⟨Nat.zero_le _, f72, f73, f74, f75, f76, a2.keep (fun j a b => hg j (by omega) (by omega) (by omega) (by omega)), fun i f hf => by simp at hf⟩
    exact e_iret dd_Md_pack_94 rfl (mEnd_of (q := (nI D.length, (nm, by_, [], D, [], pl, tk))) (by simp only [mPack]; rw [if_pos hf0, hpk, if_pos c38]) rfl ⟨⟨_, _, h36v⟩, hnm.keep (hg 70 (by decide) (by decide) (by decide) (by decide)), hby.keep (hg 71 (by decide) (by decide) (by decide) (by decide)), hF2, h77.keep (hB 77 (by decide)), ⟨D, hA.keep ((hB 78 (by decide)).trans (hS.2 78 (by decide) (by decide)))⟩, hP.nil (hg 79 (by decide) (by decide) (by decide) (by decide)), htk.keep (hg 80 (by decide) (by decide) (by decide) (by decide)), ⟨xs, hX.keep ((hB 81 (by decide)).trans (hS.2 81 (by decide) (by decide)))⟩⟩ ⟨hv, fun j hj => hg j (by omega) (by omega) (by omega) (by omega)⟩)
  · refine e_bipush (v := -2) dd_Md_pack_41 (by decide) ?_
    exact e_iret dd_Md_pack_43 rfl (mEnd_of (q := (-2, (nm, by_, fs, im, op, pl, tk))) (by simp only [mPack]; rw [if_pos hf0, hpk, if_neg (by omega)]) rfl ⟨⟨_, _, hO⟩, hnm.keep (hf 70 (by decide) (by decide) (by decide)), hby.keep (hf 71 (by decide) (by decide) (by decide)), hF.keep (fun j a b => hf j (by omega) (by omega) (by omega)), him.keep (hf 77 (by decide) (by decide) (by decide)), ⟨D, hA⟩, hP.keep (hf 79 (by decide) (by decide) (by decide)), htk.keep (hf 80 (by decide) (by decide) (by decide)), ⟨xs, hX⟩⟩ ⟨hT.1, fun j hj => hf j (by omega) (by omega) (by omega)⟩)
set_option maxRecDepth 100000 in
set_option maxHeartbeats 4000000 in
theorem c_Md_pack (h : mRep w S) (f : Int32) : ab_E G mm_Md_pack rr_Md_pack 0 [(0, .ref 69), (1, .int f)] [] w (mEnd w (mPack f S)) := by
  obtain ⟨nm, by_, fs, im, op, pl, tk⟩ := S
  have h0 := h
  obtain ⟨⟨md, rq, hO⟩, hnm, hby, hF, him, ⟨ds, hds⟩, hP, htk, ⟨xs, hxs⟩⟩ := h
  have h69 : w.1 69 = _ := hO
  have hnl := hnm.1
  have hbl := hby.1
  have hfl := hF.1
  have hil := him.1
  have hpl := hP.1
  have htl := htk.1
  have e01 : (nI 0 ≤ f ∧ f ≤ nI 1) ↔ (f = 0 ∨ f = nI 1) := by
    constructor
    · intro h9
      obtain ⟨j, hj, rfl, -⟩ := nI_self (Int32.not_lt.mpr h9.1)
      have := (nI_leI hj (by decide)).mp h9.2
      have h2 : j = 0 ∨ j = 1 := by omega
      rcases h2 with rfl | rfl
      · exact Or.inl rfl
      · exact Or.inr rfl
    · intro h9
      rcases h9 with rfl | rfl
      · decide
      · decide
  refine e_iload_n dd_Md_pack_0 rfl ?_
  refine e_iconst_n 0 dd_Md_pack_1 (by decide) ?_
  refine e_iconst_n 1 dd_Md_pack_2 (by decide) ?_
  refine e_callSp (d1 := rr_Md_in) (As := [.int f, .int (nI 0), .int (nI 1)]) (st := []) dd_Md_pack_3 km_Md_50 (by decide) rfl (Nat.le_of_ble_eq_true rfl) (Nat.le_of_ble_eq_true rfl) rfl rfl (c_Md_in f (nI 0) (nI 1)) ?_
  refine e_if_ne_b (tgt := 11) dd_Md_pack_6 (by decide) (fun c6 => ?_) (fun c6 => ?_)
  · have hf0 := e01.mp (of_decide_eq_true c6)
    refine e_aload_n dd_Md_pack_11 rfl ?_
    refine e_iconst_n 0 dd_Md_pack_12 (by decide) ?_
    refine e_putx (fs1 := [.int (nI nm.length), .ref 70, .int (nI by_.length), .ref 71, .int (nI fs.length), .ref 72, .ref 73, .ref 74, .ref 75, .ref 76, .int (nI im.length), .ref 77, .int (nI 0), .ref 78, .int (nI op.length), .ref 79, .int pl, .int (nI tk.length), .ref 80, .int rq, .ref 81]) dd_Md_pack_13 kf_Md_96 h69 (Nat.le_of_ble_eq_true rfl) rfl rfl rfl (fun w1 h2n h2v h2f => ?_)
    have hT : rT w w1 := ⟨h2n, fun j a _ _ => h2f j a⟩
    have hA : mA w1 78 1200 [] := hds.take (h2f 78 (by decide)) 0
    have hX := hxs.keep (h2f 81 (by decide))
    have hF1 := hF.T hT
    refine e_iload_n dd_Md_pack_16 rfl ?_
    refine e_if_ne (tgt := 27) dd_Md_pack_17 (by decide) (fun c17 => ?_) (fun c17 => ?_)
    · refine e_aload_n dd_Md_pack_27 rfl ?_
      refine e_callVv (d1 := rr_Md_index) (As := []) (st := []) dd_Md_pack_28 km_Md_121 h2v rfl (by decide) rfl (Nat.le_of_ble_eq_true rfl) (Nat.le_of_ble_eq_true rfl) rfl rfl (c_Md_index h2v hA hX hF1) (fun v1 k1 => ?_)
      obtain ⟨k1, ⟨rl1, k2⟩, k3, xs1, k4⟩ := k1
      have ep : pkd f fs = index fs := if_neg c17
      exact l_Md_pack hf0 h0 (hT.tr k1) (by rw [ep]; exact k2) (by rw [ep]; exact k3) k4
    · refine e_aload_n dd_Md_pack_20 rfl ?_
      refine e_callVv (d1 := rr_Md_chain) (As := []) (st := []) dd_Md_pack_21 km_Md_118 h2v rfl (by decide) rfl (Nat.le_of_ble_eq_true rfl) (Nat.le_of_ble_eq_true rfl) rfl rfl (c_Md_chain h2v hA hX hF1) (fun v1 k1 => ?_)
      refine e_goto (tgt := 31) dd_Md_pack_24 (by decide) ?_
      obtain ⟨k1, ⟨rl1, k2⟩, k3, xs1, k4⟩ := k1
      have ep : pkd f fs = chain fs := if_pos c17
      exact l_Md_pack hf0 h0 (hT.tr k1) (by rw [ep]; exact k2) (by rw [ep]; exact k3) k4
  · refine e_iconst (v := -1) dd_Md_pack_9 (by decide) ?_
    exact e_iret dd_Md_pack_10 rfl (mEnd_of (q := (_, (nm, by_, fs, im, op, pl, tk))) (by simp only [mPack]; rw [if_neg (fun h9 => (of_decide_eq_false c6) (e01.mpr h9))]) rfl h0 rG.rf)
end MD
