theorem nd_inj {l : List Nat} (h : l.Nodup) {i j : Nat} (hi : i < l.length) (hj : j < l.length) (e : l.getD i 0 = l.getD j 0) : i = j := by
  rw [List.getD_eq_getElem?_getD, List.getD_eq_getElem?_getD, List.getElem?_eq_getElem hi, List.getElem?_eq_getElem hj] at e
  exact (List.getElem_inj h).mp e
theorem d_MO_init_0 : decode b_MO_init 0 = .ok (.aload_n 0, 1) := by decide +kernel
theorem d_MO_init_1 : decode b_MO_init 1 = .ok (.invokespecial 1, 3) := by decide +kernel
theorem d_MO_init_4 : decode b_MO_init 4 = .ok (.aload_n 0, 1) := by decide +kernel
theorem d_MO_init_5 : decode b_MO_init 5 = .ok (.bipush 101, 2) := by decide +kernel
theorem d_MO_init_7 : decode b_MO_init 7 = .ok (.newarray .int, 2) := by decide +kernel
theorem d_MO_init_9 : decode b_MO_init 9 = .ok (.putfield 7, 3) := by decide +kernel
theorem d_MO_init_12 : decode b_MO_init 12 = .ok (.aload_n 0, 1) := by decide +kernel
theorem d_MO_init_13 : decode b_MO_init 13 = .ok (.bipush 101, 2) := by decide +kernel
theorem d_MO_init_15 : decode b_MO_init 15 = .ok (.newarray .int, 2) := by decide +kernel
theorem d_MO_init_17 : decode b_MO_init 17 = .ok (.putfield 13, 3) := by decide +kernel
theorem d_MO_init_20 : decode b_MO_init 20 = .ok (.aload_n 0, 1) := by decide +kernel
theorem d_MO_init_21 : decode b_MO_init 21 = .ok (.bipush 101, 2) := by decide +kernel
theorem d_MO_init_23 : decode b_MO_init 23 = .ok (.newarray .int, 2) := by decide +kernel
theorem d_MO_init_25 : decode b_MO_init 25 = .ok (.putfield 16, 3) := by decide +kernel
theorem d_MO_init_28 : decode b_MO_init 28 = .ok (.aload_n 0, 1) := by decide +kernel
theorem d_MO_init_29 : decode b_MO_init 29 = .ok (.sipush 1010, 3) := by decide +kernel
theorem d_MO_init_32 : decode b_MO_init 32 = .ok (.newarray .int, 2) := by decide +kernel
theorem d_MO_init_34 : decode b_MO_init 34 = .ok (.putfield 19, 3) := by decide +kernel
theorem d_MO_init_37 : decode b_MO_init 37 = .ok (.aload_n 0, 1) := by decide +kernel
theorem d_MO_init_38 : decode b_MO_init 38 = .ok (.sipush 301, 3) := by decide +kernel
theorem d_MO_init_41 : decode b_MO_init 41 = .ok (.newarray .int, 2) := by decide +kernel
theorem d_MO_init_43 : decode b_MO_init 43 = .ok (.putfield 22, 3) := by decide +kernel
theorem d_MO_init_46 : decode b_MO_init 46 = .ok (.aload_n 0, 1) := by decide +kernel
theorem d_MO_init_47 : decode b_MO_init 47 = .ok (.sipush 301, 3) := by decide +kernel
theorem d_MO_init_50 : decode b_MO_init 50 = .ok (.newarray .int, 2) := by decide +kernel
theorem d_MO_init_52 : decode b_MO_init 52 = .ok (.putfield 25, 3) := by decide +kernel
theorem d_MO_init_55 : decode b_MO_init 55 = .ok (.aload_n 0, 1) := by decide +kernel
theorem d_MO_init_56 : decode b_MO_init 56 = .ok (.sipush 301, 3) := by decide +kernel
theorem d_MO_init_59 : decode b_MO_init 59 = .ok (.newarray .boolean, 2) := by decide +kernel
theorem d_MO_init_61 : decode b_MO_init 61 = .ok (.putfield 28, 3) := by decide +kernel
theorem d_MO_init_64 : decode b_MO_init 64 = .ok (.aload_n 0, 1) := by decide +kernel
theorem d_MO_init_65 : decode b_MO_init 65 = .ok (.sipush 301, 3) := by decide +kernel
theorem d_MO_init_68 : decode b_MO_init 68 = .ok (.newarray .boolean, 2) := by decide +kernel
theorem d_MO_init_70 : decode b_MO_init 70 = .ok (.putfield 32, 3) := by decide +kernel
theorem d_MO_init_73 : decode b_MO_init 73 = .ok (.aload_n 0, 1) := by decide +kernel
theorem d_MO_init_74 : decode b_MO_init 74 = .ok (.sipush 10000, 3) := by decide +kernel
theorem d_MO_init_77 : decode b_MO_init 77 = .ok (.newarray .int, 2) := by decide +kernel
theorem d_MO_init_79 : decode b_MO_init 79 = .ok (.putfield 35, 3) := by decide +kernel
theorem d_MO_init_82 : decode b_MO_init 82 = .ok (.aload_n 0, 1) := by decide +kernel
theorem d_MO_init_83 : decode b_MO_init 83 = .ok (.bipush 41, 2) := by decide +kernel
theorem d_MO_init_85 : decode b_MO_init 85 = .ok (.newarray .int, 2) := by decide +kernel
theorem d_MO_init_87 : decode b_MO_init 87 = .ok (.putfield 38, 3) := by decide +kernel
theorem d_MO_init_90 : decode b_MO_init 90 = .ok (.aload_n 0, 1) := by decide +kernel
theorem d_MO_init_91 : decode b_MO_init 91 = .ok (.sipush 10000, 3) := by decide +kernel
theorem d_MO_init_94 : decode b_MO_init 94 = .ok (.newarray .boolean, 2) := by decide +kernel
theorem d_MO_init_96 : decode b_MO_init 96 = .ok (.putfield 41, 3) := by decide +kernel
theorem d_MO_init_99 : decode b_MO_init 99 = .ok (.aload_n 0, 1) := by decide +kernel
theorem d_MO_init_100 : decode b_MO_init 100 = .ok (.bipush 41, 2) := by decide +kernel
theorem d_MO_init_102 : decode b_MO_init 102 = .ok (.newarray .long, 2) := by decide +kernel
theorem d_MO_init_104 : decode b_MO_init 104 = .ok (.putfield 44, 3) := by decide +kernel
theorem d_MO_init_107 : decode b_MO_init 107 = .ok (.aload_n 0, 1) := by decide +kernel
theorem d_MO_init_108 : decode b_MO_init 108 = .ok (.bipush 61, 2) := by decide +kernel
theorem d_MO_init_110 : decode b_MO_init 110 = .ok (.newarray .int, 2) := by decide +kernel
theorem d_MO_init_112 : decode b_MO_init 112 = .ok (.putfield 48, 3) := by decide +kernel
theorem d_MO_init_115 : decode b_MO_init 115 = .ok (.aload_n 0, 1) := by decide +kernel
theorem d_MO_init_116 : decode b_MO_init 116 = .ok (.bipush 61, 2) := by decide +kernel
theorem d_MO_init_118 : decode b_MO_init 118 = .ok (.newarray .int, 2) := by decide +kernel
theorem d_MO_init_120 : decode b_MO_init 120 = .ok (.putfield 51, 3) := by decide +kernel
theorem d_MO_init_123 : decode b_MO_init 123 = .ok (.aload_n 0, 1) := by decide +kernel
theorem d_MO_init_124 : decode b_MO_init 124 = .ok (.bipush 61, 2) := by decide +kernel
theorem d_MO_init_126 : decode b_MO_init 126 = .ok (.newarray .int, 2) := by decide +kernel
theorem d_MO_init_128 : decode b_MO_init 128 = .ok (.putfield 54, 3) := by decide +kernel
theorem d_MO_init_131 : decode b_MO_init 131 = .ok (.aload_n 0, 1) := by decide +kernel
theorem d_MO_init_132 : decode b_MO_init 132 = .ok (.sipush 250, 3) := by decide +kernel
theorem d_MO_init_135 : decode b_MO_init 135 = .ok (.newarray .int, 2) := by decide +kernel
theorem d_MO_init_137 : decode b_MO_init 137 = .ok (.putfield 57, 3) := by decide +kernel
theorem d_MO_init_140 : decode b_MO_init 140 = .ok (.return_, 1) := by decide +kernel
set_option maxHeartbeats 4000000 in
set_option maxRecDepth 100000 in
theorem c_MO_init (l : Launch) (D : va_G) (dA : Nat → ClassId) (M : mm_M) (x : Nat) (hx : M x = some (.inr (9, [.int 0, .int 0, .int 0, .int 0, .int 0, .int 0, .null, .null, .null, .null, .null, .null, .null, .null, .null, .null, .null, .null, .null, .null, .null, .null]))) : mm_Cv l y_MO_init w_MO_init ({ frames := 1, cells := 16, slots := 23032, locals := 20 }) 16 23032 D vC (tyL dA) [.ref x] M (fun M' => ∃ g : Nat → Nat, mP dA M' x g (fun _ => 0) (fun _ _ => 0) (fun _ => 0)) := by
  intro sz
  refine mm_start (by decide) (Nat.le_of_ble_eq_true rfl) ?_
  intro p e s m below meth c A Q ls hA hQ S hr hlocks hin hK hw hl
  have hl : lv_has ls 1 [(0, .ref x)] := hl
  refine lv_aload_n S.1 S.2.1 d_MO_init_0 rfl (lv_at hl 0 rfl) ?_
  refine mm_obj S gw_369 gw_25 oi_c hl.1 d_MO_init_1 (by decide) (by decide) ?_
  refine lv_aload_n S.1 S.2.1 d_MO_init_4 rfl (lv_at hl 0 rfl) ?_
  refine lv_bipush (v := 101) S.1 S.2.1 d_MO_init_5 (by decide) ?_
  refine mm_newa (atype := .int) (ty := .int) (N' := 101) (a0 := (101, .inl (fun _ => 0))) S hK.1 hw 0 gw_46 rfl rfl ((hK.1.2 0 _ rfl).2) (fun _ => rfl) (by decide) (by decide) (by decide) (Nat.le_of_ble_eq_true rfl) (Nat.le_of_ble_eq_true rfl) (fun _ h => by cases h) d_MO_init_7 (fun a0 H hqa0 hw => ?_)
  obtain ⟨M1, eM1⟩ : ∃ zM : mm_M, zM = mm_up M a0 (.inl (dA 0, 101, .inl (fun _ => 0))) := ⟨_, rfl⟩
  have hw : mm_w D vC _ _ (mm_up M a0 (.inl (dA 0, 101, .inl (fun _ => 0)))) H _ := hw
  rw [← eM1] at hw
  have hx_1 : M1 x = some (.inr (9, [.int 0, .int 0, .int 0, .int 0, .int 0, .int 0, .null, .null, .null, .null, .null, .null, .null, .null, .null, .null, .null, .null, .null, .null, .null, .null])) := by rw [eM1]; exact mm_fk hqa0 hx
  have ha0_1 : M1 a0 = some (.inl (dA 0, 101, .inl (fun _ => 0))) := by rw [eM1]; exact mm_us
  refine mm_putF (C := R_MO) (T := T_MO) (N := 22) (ty := .array .int) (v := .ref a0) S hK.1 hw hx_1 rfl in_MO t_MO k_MO n_MO 6 (by decide) gw_376 rfl rfl hin rfl (by decide +kernel) (rfl) (rfl) (Nat.le_of_ble_eq_true rfl) d_MO_init_9 (fun H locs hw => ?_)
  obtain ⟨M2, eM2⟩ : ∃ zM : mm_M, zM = mm_up M1 x (.inr (9, [.int 0, .int 0, .int 0, .int 0, .int 0, .int 0, .ref a0, .null, .null, .null, .null, .null, .null, .null, .null, .null, .null, .null, .null, .null, .null, .null])) := ⟨_, rfl⟩
  have hw : mm_w D vC _ _ (mm_up M1 x (.inr (9, [.int 0, .int 0, .int 0, .int 0, .int 0, .int 0, .ref a0, .null, .null, .null, .null, .null, .null, .null, .null, .null, .null, .null, .null, .null, .null, .null]))) H _ := hw
  rw [← eM2] at hw
  have ha0_2 : M2 a0 = some (.inl (dA 0, 101, .inl (fun _ => 0))) := by rw [eM2]; exact mm_uk hx_1 ha0_1 (by simp)
  have hx_2 : M2 x = some (.inr (9, [.int 0, .int 0, .int 0, .int 0, .int 0, .int 0, .ref a0, .null, .null, .null, .null, .null, .null, .null, .null, .null, .null, .null, .null, .null, .null, .null])) := by rw [eM2]; exact mm_us
  refine lv_aload_n S.1 S.2.1 d_MO_init_12 rfl (lv_at hl 0 rfl) ?_
  refine lv_bipush (v := 101) S.1 S.2.1 d_MO_init_13 (by decide) ?_
  refine mm_newa (atype := .int) (ty := .int) (N' := 101) (a0 := (101, .inl (fun _ => 0))) S hK.1 hw 0 gw_46 rfl rfl ((hK.1.2 0 _ rfl).2) (fun _ => rfl) (by decide) (by decide) (by decide) (Nat.le_of_ble_eq_true rfl) (Nat.le_of_ble_eq_true rfl) (fun _ h => by cases h) d_MO_init_15 (fun a1 H hqa1 hw => ?_)
  obtain ⟨M3, eM3⟩ : ∃ zM : mm_M, zM = mm_up M2 a1 (.inl (dA 0, 101, .inl (fun _ => 0))) := ⟨_, rfl⟩
  have hw : mm_w D vC _ _ (mm_up M2 a1 (.inl (dA 0, 101, .inl (fun _ => 0)))) H _ := hw
  rw [← eM3] at hw
  have hx_3 : M3 x = some (.inr (9, [.int 0, .int 0, .int 0, .int 0, .int 0, .int 0, .ref a0, .null, .null, .null, .null, .null, .null, .null, .null, .null, .null, .null, .null, .null, .null, .null])) := by rw [eM3]; exact mm_fk hqa1 hx_2
  have ha0_3 : M3 a0 = some (.inl (dA 0, 101, .inl (fun _ => 0))) := by rw [eM3]; exact mm_fk hqa1 ha0_2
  have ha1_3 : M3 a1 = some (.inl (dA 0, 101, .inl (fun _ => 0))) := by rw [eM3]; exact mm_us
  have ne_a0_a1 : a0 ≠ a1 := fun h => by rw [h, hqa1] at ha0_2; cases ha0_2
  refine mm_putF (C := R_MO) (T := T_MO) (N := 22) (ty := .array .int) (v := .ref a1) S hK.1 hw hx_3 rfl in_MO t_MO k_MO n_MO 7 (by decide) gw_377 rfl rfl hin rfl (by decide +kernel) (rfl) (rfl) (Nat.le_of_ble_eq_true rfl) d_MO_init_17 (fun H locs hw => ?_)
  obtain ⟨M4, eM4⟩ : ∃ zM : mm_M, zM = mm_up M3 x (.inr (9, [.int 0, .int 0, .int 0, .int 0, .int 0, .int 0, .ref a0, .ref a1, .null, .null, .null, .null, .null, .null, .null, .null, .null, .null, .null, .null, .null, .null])) := ⟨_, rfl⟩
  have hw : mm_w D vC _ _ (mm_up M3 x (.inr (9, [.int 0, .int 0, .int 0, .int 0, .int 0, .int 0, .ref a0, .ref a1, .null, .null, .null, .null, .null, .null, .null, .null, .null, .null, .null, .null, .null, .null]))) H _ := hw
  rw [← eM4] at hw
  have ha0_4 : M4 a0 = some (.inl (dA 0, 101, .inl (fun _ => 0))) := by rw [eM4]; exact mm_uk hx_3 ha0_3 (by simp)
  have ha1_4 : M4 a1 = some (.inl (dA 0, 101, .inl (fun _ => 0))) := by rw [eM4]; exact mm_uk hx_3 ha1_3 (by simp)
  have hx_4 : M4 x = some (.inr (9, [.int 0, .int 0, .int 0, .int 0, .int 0, .int 0, .ref a0, .ref a1, .null, .null, .null, .null, .null, .null, .null, .null, .null, .null, .null, .null, .null, .null])) := by rw [eM4]; exact mm_us
  refine lv_aload_n S.1 S.2.1 d_MO_init_20 rfl (lv_at hl 0 rfl) ?_
  refine lv_bipush (v := 101) S.1 S.2.1 d_MO_init_21 (by decide) ?_
  refine mm_newa (atype := .int) (ty := .int) (N' := 101) (a0 := (101, .inl (fun _ => 0))) S hK.1 hw 0 gw_46 rfl rfl ((hK.1.2 0 _ rfl).2) (fun _ => rfl) (by decide) (by decide) (by decide) (Nat.le_of_ble_eq_true rfl) (Nat.le_of_ble_eq_true rfl) (fun _ h => by cases h) d_MO_init_23 (fun a2 H hqa2 hw => ?_)
  obtain ⟨M5, eM5⟩ : ∃ zM : mm_M, zM = mm_up M4 a2 (.inl (dA 0, 101, .inl (fun _ => 0))) := ⟨_, rfl⟩
  have hw : mm_w D vC _ _ (mm_up M4 a2 (.inl (dA 0, 101, .inl (fun _ => 0)))) H _ := hw
  rw [← eM5] at hw
  have hx_5 : M5 x = some (.inr (9, [.int 0, .int 0, .int 0, .int 0, .int 0, .int 0, .ref a0, .ref a1, .null, .null, .null, .null, .null, .null, .null, .null, .null, .null, .null, .null, .null, .null])) := by rw [eM5]; exact mm_fk hqa2 hx_4
  have ha0_5 : M5 a0 = some (.inl (dA 0, 101, .inl (fun _ => 0))) := by rw [eM5]; exact mm_fk hqa2 ha0_4
  have ha1_5 : M5 a1 = some (.inl (dA 0, 101, .inl (fun _ => 0))) := by rw [eM5]; exact mm_fk hqa2 ha1_4
  have ha2_5 : M5 a2 = some (.inl (dA 0, 101, .inl (fun _ => 0))) := by rw [eM5]; exact mm_us
  have ne_a0_a2 : a0 ≠ a2 := fun h => by rw [h, hqa2] at ha0_4; cases ha0_4
  have ne_a1_a2 : a1 ≠ a2 := fun h => by rw [h, hqa2] at ha1_4; cases ha1_4
  refine mm_putF (C := R_MO) (T := T_MO) (N := 22) (ty := .array .int) (v := .ref a2) S hK.1 hw hx_5 rfl in_MO t_MO k_MO n_MO 8 (by decide) gw_378 rfl rfl hin rfl (by decide +kernel) (rfl) (rfl) (Nat.le_of_ble_eq_true rfl) d_MO_init_25 (fun H locs hw => ?_)
  obtain ⟨M6, eM6⟩ : ∃ zM : mm_M, zM = mm_up M5 x (.inr (9, [.int 0, .int 0, .int 0, .int 0, .int 0, .int 0, .ref a0, .ref a1, .ref a2, .null, .null, .null, .null, .null, .null, .null, .null, .null, .null, .null, .null, .null])) := ⟨_, rfl⟩
  have hw : mm_w D vC _ _ (mm_up M5 x (.inr (9, [.int 0, .int 0, .int 0, .int 0, .int 0, .int 0, .ref a0, .ref a1, .ref a2, .null, .null, .null, .null, .null, .null, .null, .null, .null, .null, .null, .null, .null]))) H _ := hw
  rw [← eM6] at hw
  have ha0_6 : M6 a0 = some (.inl (dA 0, 101, .inl (fun _ => 0))) := by rw [eM6]; exact mm_uk hx_5 ha0_5 (by simp)
  have ha1_6 : M6 a1 = some (.inl (dA 0, 101, .inl (fun _ => 0))) := by rw [eM6]; exact mm_uk hx_5 ha1_5 (by simp)
  have ha2_6 : M6 a2 = some (.inl (dA 0, 101, .inl (fun _ => 0))) := by rw [eM6]; exact mm_uk hx_5 ha2_5 (by simp)
  have hx_6 : M6 x = some (.inr (9, [.int 0, .int 0, .int 0, .int 0, .int 0, .int 0, .ref a0, .ref a1, .ref a2, .null, .null, .null, .null, .null, .null, .null, .null, .null, .null, .null, .null, .null])) := by rw [eM6]; exact mm_us
  refine lv_aload_n S.1 S.2.1 d_MO_init_28 rfl (lv_at hl 0 rfl) ?_
  refine lv_sipush (v := 1010) S.1 S.2.1 d_MO_init_29 (by decide) ?_
  refine mm_newa (atype := .int) (ty := .int) (N' := 1010) (a0 := (1010, .inl (fun _ => 0))) S hK.1 hw 0 gw_46 rfl rfl ((hK.1.2 0 _ rfl).2) (fun _ => rfl) (by decide) (by decide) (by decide) (Nat.le_of_ble_eq_true rfl) (Nat.le_of_ble_eq_true rfl) (fun _ h => by cases h) d_MO_init_32 (fun a3 H hqa3 hw => ?_)
  obtain ⟨M7, eM7⟩ : ∃ zM : mm_M, zM = mm_up M6 a3 (.inl (dA 0, 1010, .inl (fun _ => 0))) := ⟨_, rfl⟩
  have hw : mm_w D vC _ _ (mm_up M6 a3 (.inl (dA 0, 1010, .inl (fun _ => 0)))) H _ := hw
  rw [← eM7] at hw
  have hx_7 : M7 x = some (.inr (9, [.int 0, .int 0, .int 0, .int 0, .int 0, .int 0, .ref a0, .ref a1, .ref a2, .null, .null, .null, .null, .null, .null, .null, .null, .null, .null, .null, .null, .null])) := by rw [eM7]; exact mm_fk hqa3 hx_6
  have ha0_7 : M7 a0 = some (.inl (dA 0, 101, .inl (fun _ => 0))) := by rw [eM7]; exact mm_fk hqa3 ha0_6
  have ha1_7 : M7 a1 = some (.inl (dA 0, 101, .inl (fun _ => 0))) := by rw [eM7]; exact mm_fk hqa3 ha1_6
  have ha2_7 : M7 a2 = some (.inl (dA 0, 101, .inl (fun _ => 0))) := by rw [eM7]; exact mm_fk hqa3 ha2_6
  have ha3_7 : M7 a3 = some (.inl (dA 0, 1010, .inl (fun _ => 0))) := by rw [eM7]; exact mm_us
  have ne_a0_a3 : a0 ≠ a3 := fun h => by rw [h, hqa3] at ha0_6; cases ha0_6
  have ne_a1_a3 : a1 ≠ a3 := fun h => by rw [h, hqa3] at ha1_6; cases ha1_6
  have ne_a2_a3 : a2 ≠ a3 := fun h => by rw [h, hqa3] at ha2_6; cases ha2_6
  refine mm_putF (C := R_MO) (T := T_MO) (N := 22) (ty := .array .int) (v := .ref a3) S hK.1 hw hx_7 rfl in_MO t_MO k_MO n_MO 9 (by decide) gw_379 rfl rfl hin rfl (by decide +kernel) (rfl) (rfl) (Nat.le_of_ble_eq_true rfl) d_MO_init_34 (fun H locs hw => ?_)
  obtain ⟨M8, eM8⟩ : ∃ zM : mm_M, zM = mm_up M7 x (.inr (9, [.int 0, .int 0, .int 0, .int 0, .int 0, .int 0, .ref a0, .ref a1, .ref a2, .ref a3, .null, .null, .null, .null, .null, .null, .null, .null, .null, .null, .null, .null])) := ⟨_, rfl⟩
  have hw : mm_w D vC _ _ (mm_up M7 x (.inr (9, [.int 0, .int 0, .int 0, .int 0, .int 0, .int 0, .ref a0, .ref a1, .ref a2, .ref a3, .null, .null, .null, .null, .null, .null, .null, .null, .null, .null, .null, .null]))) H _ := hw
  rw [← eM8] at hw
  have ha0_8 : M8 a0 = some (.inl (dA 0, 101, .inl (fun _ => 0))) := by rw [eM8]; exact mm_uk hx_7 ha0_7 (by simp)
  have ha1_8 : M8 a1 = some (.inl (dA 0, 101, .inl (fun _ => 0))) := by rw [eM8]; exact mm_uk hx_7 ha1_7 (by simp)
  have ha2_8 : M8 a2 = some (.inl (dA 0, 101, .inl (fun _ => 0))) := by rw [eM8]; exact mm_uk hx_7 ha2_7 (by simp)
  have ha3_8 : M8 a3 = some (.inl (dA 0, 1010, .inl (fun _ => 0))) := by rw [eM8]; exact mm_uk hx_7 ha3_7 (by simp)
  have hx_8 : M8 x = some (.inr (9, [.int 0, .int 0, .int 0, .int 0, .int 0, .int 0, .ref a0, .ref a1, .ref a2, .ref a3, .null, .null, .null, .null, .null, .null, .null, .null, .null, .null, .null, .null])) := by rw [eM8]; exact mm_us
  refine lv_aload_n S.1 S.2.1 d_MO_init_37 rfl (lv_at hl 0 rfl) ?_
  refine lv_sipush (v := 301) S.1 S.2.1 d_MO_init_38 (by decide) ?_
  refine mm_newa (atype := .int) (ty := .int) (N' := 301) (a0 := (301, .inl (fun _ => 0))) S hK.1 hw 0 gw_46 rfl rfl ((hK.1.2 0 _ rfl).2) (fun _ => rfl) (by decide) (by decide) (by decide) (Nat.le_of_ble_eq_true rfl) (Nat.le_of_ble_eq_true rfl) (fun _ h => by cases h) d_MO_init_41 (fun a4 H hqa4 hw => ?_)
  obtain ⟨M9, eM9⟩ : ∃ zM : mm_M, zM = mm_up M8 a4 (.inl (dA 0, 301, .inl (fun _ => 0))) := ⟨_, rfl⟩
  have hw : mm_w D vC _ _ (mm_up M8 a4 (.inl (dA 0, 301, .inl (fun _ => 0)))) H _ := hw
  rw [← eM9] at hw
  have hx_9 : M9 x = some (.inr (9, [.int 0, .int 0, .int 0, .int 0, .int 0, .int 0, .ref a0, .ref a1, .ref a2, .ref a3, .null, .null, .null, .null, .null, .null, .null, .null, .null, .null, .null, .null])) := by rw [eM9]; exact mm_fk hqa4 hx_8
  have ha0_9 : M9 a0 = some (.inl (dA 0, 101, .inl (fun _ => 0))) := by rw [eM9]; exact mm_fk hqa4 ha0_8
  have ha1_9 : M9 a1 = some (.inl (dA 0, 101, .inl (fun _ => 0))) := by rw [eM9]; exact mm_fk hqa4 ha1_8
  have ha2_9 : M9 a2 = some (.inl (dA 0, 101, .inl (fun _ => 0))) := by rw [eM9]; exact mm_fk hqa4 ha2_8
  have ha3_9 : M9 a3 = some (.inl (dA 0, 1010, .inl (fun _ => 0))) := by rw [eM9]; exact mm_fk hqa4 ha3_8
  have ha4_9 : M9 a4 = some (.inl (dA 0, 301, .inl (fun _ => 0))) := by rw [eM9]; exact mm_us
  have ne_a0_a4 : a0 ≠ a4 := fun h => by rw [h, hqa4] at ha0_8; cases ha0_8
  have ne_a1_a4 : a1 ≠ a4 := fun h => by rw [h, hqa4] at ha1_8; cases ha1_8
  have ne_a2_a4 : a2 ≠ a4 := fun h => by rw [h, hqa4] at ha2_8; cases ha2_8
  have ne_a3_a4 : a3 ≠ a4 := fun h => by rw [h, hqa4] at ha3_8; cases ha3_8
  refine mm_putF (C := R_MO) (T := T_MO) (N := 22) (ty := .array .int) (v := .ref a4) S hK.1 hw hx_9 rfl in_MO t_MO k_MO n_MO 10 (by decide) gw_380 rfl rfl hin rfl (by decide +kernel) (rfl) (rfl) (Nat.le_of_ble_eq_true rfl) d_MO_init_43 (fun H locs hw => ?_)
  obtain ⟨M10, eM10⟩ : ∃ zM : mm_M, zM = mm_up M9 x (.inr (9, [.int 0, .int 0, .int 0, .int 0, .int 0, .int 0, .ref a0, .ref a1, .ref a2, .ref a3, .ref a4, .null, .null, .null, .null, .null, .null, .null, .null, .null, .null, .null])) := ⟨_, rfl⟩
  have hw : mm_w D vC _ _ (mm_up M9 x (.inr (9, [.int 0, .int 0, .int 0, .int 0, .int 0, .int 0, .ref a0, .ref a1, .ref a2, .ref a3, .ref a4, .null, .null, .null, .null, .null, .null, .null, .null, .null, .null, .null]))) H _ := hw
  rw [← eM10] at hw
  have ha0_10 : M10 a0 = some (.inl (dA 0, 101, .inl (fun _ => 0))) := by rw [eM10]; exact mm_uk hx_9 ha0_9 (by simp)
  have ha1_10 : M10 a1 = some (.inl (dA 0, 101, .inl (fun _ => 0))) := by rw [eM10]; exact mm_uk hx_9 ha1_9 (by simp)
  have ha2_10 : M10 a2 = some (.inl (dA 0, 101, .inl (fun _ => 0))) := by rw [eM10]; exact mm_uk hx_9 ha2_9 (by simp)
  have ha3_10 : M10 a3 = some (.inl (dA 0, 1010, .inl (fun _ => 0))) := by rw [eM10]; exact mm_uk hx_9 ha3_9 (by simp)
  have ha4_10 : M10 a4 = some (.inl (dA 0, 301, .inl (fun _ => 0))) := by rw [eM10]; exact mm_uk hx_9 ha4_9 (by simp)
  have hx_10 : M10 x = some (.inr (9, [.int 0, .int 0, .int 0, .int 0, .int 0, .int 0, .ref a0, .ref a1, .ref a2, .ref a3, .ref a4, .null, .null, .null, .null, .null, .null, .null, .null, .null, .null, .null])) := by rw [eM10]; exact mm_us
  refine lv_aload_n S.1 S.2.1 d_MO_init_46 rfl (lv_at hl 0 rfl) ?_
  refine lv_sipush (v := 301) S.1 S.2.1 d_MO_init_47 (by decide) ?_
  refine mm_newa (atype := .int) (ty := .int) (N' := 301) (a0 := (301, .inl (fun _ => 0))) S hK.1 hw 0 gw_46 rfl rfl ((hK.1.2 0 _ rfl).2) (fun _ => rfl) (by decide) (by decide) (by decide) (Nat.le_of_ble_eq_true rfl) (Nat.le_of_ble_eq_true rfl) (fun _ h => by cases h) d_MO_init_50 (fun a5 H hqa5 hw => ?_)
  obtain ⟨M11, eM11⟩ : ∃ zM : mm_M, zM = mm_up M10 a5 (.inl (dA 0, 301, .inl (fun _ => 0))) := ⟨_, rfl⟩
  have hw : mm_w D vC _ _ (mm_up M10 a5 (.inl (dA 0, 301, .inl (fun _ => 0)))) H _ := hw
  rw [← eM11] at hw
  have hx_11 : M11 x = some (.inr (9, [.int 0, .int 0, .int 0, .int 0, .int 0, .int 0, .ref a0, .ref a1, .ref a2, .ref a3, .ref a4, .null, .null, .null, .null, .null, .null, .null, .null, .null, .null, .null])) := by rw [eM11]; exact mm_fk hqa5 hx_10
  have ha0_11 : M11 a0 = some (.inl (dA 0, 101, .inl (fun _ => 0))) := by rw [eM11]; exact mm_fk hqa5 ha0_10
  have ha1_11 : M11 a1 = some (.inl (dA 0, 101, .inl (fun _ => 0))) := by rw [eM11]; exact mm_fk hqa5 ha1_10
  have ha2_11 : M11 a2 = some (.inl (dA 0, 101, .inl (fun _ => 0))) := by rw [eM11]; exact mm_fk hqa5 ha2_10
  have ha3_11 : M11 a3 = some (.inl (dA 0, 1010, .inl (fun _ => 0))) := by rw [eM11]; exact mm_fk hqa5 ha3_10
  have ha4_11 : M11 a4 = some (.inl (dA 0, 301, .inl (fun _ => 0))) := by rw [eM11]; exact mm_fk hqa5 ha4_10
  have ha5_11 : M11 a5 = some (.inl (dA 0, 301, .inl (fun _ => 0))) := by rw [eM11]; exact mm_us
  have ne_a0_a5 : a0 ≠ a5 := fun h => by rw [h, hqa5] at ha0_10; cases ha0_10
  have ne_a1_a5 : a1 ≠ a5 := fun h => by rw [h, hqa5] at ha1_10; cases ha1_10
  have ne_a2_a5 : a2 ≠ a5 := fun h => by rw [h, hqa5] at ha2_10; cases ha2_10
  have ne_a3_a5 : a3 ≠ a5 := fun h => by rw [h, hqa5] at ha3_10; cases ha3_10
  have ne_a4_a5 : a4 ≠ a5 := fun h => by rw [h, hqa5] at ha4_10; cases ha4_10
  refine mm_putF (C := R_MO) (T := T_MO) (N := 22) (ty := .array .int) (v := .ref a5) S hK.1 hw hx_11 rfl in_MO t_MO k_MO n_MO 11 (by decide) gw_381 rfl rfl hin rfl (by decide +kernel) (rfl) (rfl) (Nat.le_of_ble_eq_true rfl) d_MO_init_52 (fun H locs hw => ?_)
  obtain ⟨M12, eM12⟩ : ∃ zM : mm_M, zM = mm_up M11 x (.inr (9, [.int 0, .int 0, .int 0, .int 0, .int 0, .int 0, .ref a0, .ref a1, .ref a2, .ref a3, .ref a4, .ref a5, .null, .null, .null, .null, .null, .null, .null, .null, .null, .null])) := ⟨_, rfl⟩
  have hw : mm_w D vC _ _ (mm_up M11 x (.inr (9, [.int 0, .int 0, .int 0, .int 0, .int 0, .int 0, .ref a0, .ref a1, .ref a2, .ref a3, .ref a4, .ref a5, .null, .null, .null, .null, .null, .null, .null, .null, .null, .null]))) H _ := hw
  rw [← eM12] at hw
  have ha0_12 : M12 a0 = some (.inl (dA 0, 101, .inl (fun _ => 0))) := by rw [eM12]; exact mm_uk hx_11 ha0_11 (by simp)
  have ha1_12 : M12 a1 = some (.inl (dA 0, 101, .inl (fun _ => 0))) := by rw [eM12]; exact mm_uk hx_11 ha1_11 (by simp)
  have ha2_12 : M12 a2 = some (.inl (dA 0, 101, .inl (fun _ => 0))) := by rw [eM12]; exact mm_uk hx_11 ha2_11 (by simp)
  have ha3_12 : M12 a3 = some (.inl (dA 0, 1010, .inl (fun _ => 0))) := by rw [eM12]; exact mm_uk hx_11 ha3_11 (by simp)
  have ha4_12 : M12 a4 = some (.inl (dA 0, 301, .inl (fun _ => 0))) := by rw [eM12]; exact mm_uk hx_11 ha4_11 (by simp)
  have ha5_12 : M12 a5 = some (.inl (dA 0, 301, .inl (fun _ => 0))) := by rw [eM12]; exact mm_uk hx_11 ha5_11 (by simp)
  have hx_12 : M12 x = some (.inr (9, [.int 0, .int 0, .int 0, .int 0, .int 0, .int 0, .ref a0, .ref a1, .ref a2, .ref a3, .ref a4, .ref a5, .null, .null, .null, .null, .null, .null, .null, .null, .null, .null])) := by rw [eM12]; exact mm_us
  refine lv_aload_n S.1 S.2.1 d_MO_init_55 rfl (lv_at hl 0 rfl) ?_
  refine lv_sipush (v := 301) S.1 S.2.1 d_MO_init_56 (by decide) ?_
  refine mm_newa (atype := .boolean) (ty := .boolean) (N' := 301) (a0 := (301, .inl (fun _ => 0))) S hK.1 hw 2 gw_437 rfl rfl ((hK.1.2 2 _ rfl).2) (fun _ => rfl) (by decide) (by decide) (by decide) (Nat.le_of_ble_eq_true rfl) (Nat.le_of_ble_eq_true rfl) (fun _ h => by cases h) d_MO_init_59 (fun a6 H hqa6 hw => ?_)
  obtain ⟨M13, eM13⟩ : ∃ zM : mm_M, zM = mm_up M12 a6 (.inl (dA 2, 301, .inl (fun _ => 0))) := ⟨_, rfl⟩
  have hw : mm_w D vC _ _ (mm_up M12 a6 (.inl (dA 2, 301, .inl (fun _ => 0)))) H _ := hw
  rw [← eM13] at hw
  have hx_13 : M13 x = some (.inr (9, [.int 0, .int 0, .int 0, .int 0, .int 0, .int 0, .ref a0, .ref a1, .ref a2, .ref a3, .ref a4, .ref a5, .null, .null, .null, .null, .null, .null, .null, .null, .null, .null])) := by rw [eM13]; exact mm_fk hqa6 hx_12
  have ha0_13 : M13 a0 = some (.inl (dA 0, 101, .inl (fun _ => 0))) := by rw [eM13]; exact mm_fk hqa6 ha0_12
  have ha1_13 : M13 a1 = some (.inl (dA 0, 101, .inl (fun _ => 0))) := by rw [eM13]; exact mm_fk hqa6 ha1_12
  have ha2_13 : M13 a2 = some (.inl (dA 0, 101, .inl (fun _ => 0))) := by rw [eM13]; exact mm_fk hqa6 ha2_12
  have ha3_13 : M13 a3 = some (.inl (dA 0, 1010, .inl (fun _ => 0))) := by rw [eM13]; exact mm_fk hqa6 ha3_12
  have ha4_13 : M13 a4 = some (.inl (dA 0, 301, .inl (fun _ => 0))) := by rw [eM13]; exact mm_fk hqa6 ha4_12
  have ha5_13 : M13 a5 = some (.inl (dA 0, 301, .inl (fun _ => 0))) := by rw [eM13]; exact mm_fk hqa6 ha5_12
  have ha6_13 : M13 a6 = some (.inl (dA 2, 301, .inl (fun _ => 0))) := by rw [eM13]; exact mm_us
  have ne_a0_a6 : a0 ≠ a6 := fun h => by rw [h, hqa6] at ha0_12; cases ha0_12
  have ne_a1_a6 : a1 ≠ a6 := fun h => by rw [h, hqa6] at ha1_12; cases ha1_12
  have ne_a2_a6 : a2 ≠ a6 := fun h => by rw [h, hqa6] at ha2_12; cases ha2_12
  have ne_a3_a6 : a3 ≠ a6 := fun h => by rw [h, hqa6] at ha3_12; cases ha3_12
  have ne_a4_a6 : a4 ≠ a6 := fun h => by rw [h, hqa6] at ha4_12; cases ha4_12
  have ne_a5_a6 : a5 ≠ a6 := fun h => by rw [h, hqa6] at ha5_12; cases ha5_12
  refine mm_putF (C := R_MO) (T := T_MO) (N := 22) (ty := .array .boolean) (v := .ref a6) S hK.1 hw hx_13 rfl in_MO t_MO k_MO n_MO 12 (by decide) gw_382 rfl rfl hin rfl (by decide +kernel) (rfl) (rfl) (Nat.le_of_ble_eq_true rfl) d_MO_init_61 (fun H locs hw => ?_)
  obtain ⟨M14, eM14⟩ : ∃ zM : mm_M, zM = mm_up M13 x (.inr (9, [.int 0, .int 0, .int 0, .int 0, .int 0, .int 0, .ref a0, .ref a1, .ref a2, .ref a3, .ref a4, .ref a5, .ref a6, .null, .null, .null, .null, .null, .null, .null, .null, .null])) := ⟨_, rfl⟩
  have hw : mm_w D vC _ _ (mm_up M13 x (.inr (9, [.int 0, .int 0, .int 0, .int 0, .int 0, .int 0, .ref a0, .ref a1, .ref a2, .ref a3, .ref a4, .ref a5, .ref a6, .null, .null, .null, .null, .null, .null, .null, .null, .null]))) H _ := hw
  rw [← eM14] at hw
  have ha0_14 : M14 a0 = some (.inl (dA 0, 101, .inl (fun _ => 0))) := by rw [eM14]; exact mm_uk hx_13 ha0_13 (by simp)
  have ha1_14 : M14 a1 = some (.inl (dA 0, 101, .inl (fun _ => 0))) := by rw [eM14]; exact mm_uk hx_13 ha1_13 (by simp)
  have ha2_14 : M14 a2 = some (.inl (dA 0, 101, .inl (fun _ => 0))) := by rw [eM14]; exact mm_uk hx_13 ha2_13 (by simp)
  have ha3_14 : M14 a3 = some (.inl (dA 0, 1010, .inl (fun _ => 0))) := by rw [eM14]; exact mm_uk hx_13 ha3_13 (by simp)
  have ha4_14 : M14 a4 = some (.inl (dA 0, 301, .inl (fun _ => 0))) := by rw [eM14]; exact mm_uk hx_13 ha4_13 (by simp)
  have ha5_14 : M14 a5 = some (.inl (dA 0, 301, .inl (fun _ => 0))) := by rw [eM14]; exact mm_uk hx_13 ha5_13 (by simp)
  have ha6_14 : M14 a6 = some (.inl (dA 2, 301, .inl (fun _ => 0))) := by rw [eM14]; exact mm_uk hx_13 ha6_13 (by simp)
  have hx_14 : M14 x = some (.inr (9, [.int 0, .int 0, .int 0, .int 0, .int 0, .int 0, .ref a0, .ref a1, .ref a2, .ref a3, .ref a4, .ref a5, .ref a6, .null, .null, .null, .null, .null, .null, .null, .null, .null])) := by rw [eM14]; exact mm_us
  refine lv_aload_n S.1 S.2.1 d_MO_init_64 rfl (lv_at hl 0 rfl) ?_
  refine lv_sipush (v := 301) S.1 S.2.1 d_MO_init_65 (by decide) ?_
  refine mm_newa (atype := .boolean) (ty := .boolean) (N' := 301) (a0 := (301, .inl (fun _ => 0))) S hK.1 hw 2 gw_437 rfl rfl ((hK.1.2 2 _ rfl).2) (fun _ => rfl) (by decide) (by decide) (by decide) (Nat.le_of_ble_eq_true rfl) (Nat.le_of_ble_eq_true rfl) (fun _ h => by cases h) d_MO_init_68 (fun a7 H hqa7 hw => ?_)
  obtain ⟨M15, eM15⟩ : ∃ zM : mm_M, zM = mm_up M14 a7 (.inl (dA 2, 301, .inl (fun _ => 0))) := ⟨_, rfl⟩
  have hw : mm_w D vC _ _ (mm_up M14 a7 (.inl (dA 2, 301, .inl (fun _ => 0)))) H _ := hw
  rw [← eM15] at hw
  have hx_15 : M15 x = some (.inr (9, [.int 0, .int 0, .int 0, .int 0, .int 0, .int 0, .ref a0, .ref a1, .ref a2, .ref a3, .ref a4, .ref a5, .ref a6, .null, .null, .null, .null, .null, .null, .null, .null, .null])) := by rw [eM15]; exact mm_fk hqa7 hx_14
  have ha0_15 : M15 a0 = some (.inl (dA 0, 101, .inl (fun _ => 0))) := by rw [eM15]; exact mm_fk hqa7 ha0_14
  have ha1_15 : M15 a1 = some (.inl (dA 0, 101, .inl (fun _ => 0))) := by rw [eM15]; exact mm_fk hqa7 ha1_14
  have ha2_15 : M15 a2 = some (.inl (dA 0, 101, .inl (fun _ => 0))) := by rw [eM15]; exact mm_fk hqa7 ha2_14
  have ha3_15 : M15 a3 = some (.inl (dA 0, 1010, .inl (fun _ => 0))) := by rw [eM15]; exact mm_fk hqa7 ha3_14
  have ha4_15 : M15 a4 = some (.inl (dA 0, 301, .inl (fun _ => 0))) := by rw [eM15]; exact mm_fk hqa7 ha4_14
  have ha5_15 : M15 a5 = some (.inl (dA 0, 301, .inl (fun _ => 0))) := by rw [eM15]; exact mm_fk hqa7 ha5_14
  have ha6_15 : M15 a6 = some (.inl (dA 2, 301, .inl (fun _ => 0))) := by rw [eM15]; exact mm_fk hqa7 ha6_14
  have ha7_15 : M15 a7 = some (.inl (dA 2, 301, .inl (fun _ => 0))) := by rw [eM15]; exact mm_us
  have ne_a0_a7 : a0 ≠ a7 := fun h => by rw [h, hqa7] at ha0_14; cases ha0_14
  have ne_a1_a7 : a1 ≠ a7 := fun h => by rw [h, hqa7] at ha1_14; cases ha1_14
  have ne_a2_a7 : a2 ≠ a7 := fun h => by rw [h, hqa7] at ha2_14; cases ha2_14
  have ne_a3_a7 : a3 ≠ a7 := fun h => by rw [h, hqa7] at ha3_14; cases ha3_14
  have ne_a4_a7 : a4 ≠ a7 := fun h => by rw [h, hqa7] at ha4_14; cases ha4_14
  have ne_a5_a7 : a5 ≠ a7 := fun h => by rw [h, hqa7] at ha5_14; cases ha5_14
  have ne_a6_a7 : a6 ≠ a7 := fun h => by rw [h, hqa7] at ha6_14; cases ha6_14
  refine mm_putF (C := R_MO) (T := T_MO) (N := 22) (ty := .array .boolean) (v := .ref a7) S hK.1 hw hx_15 rfl in_MO t_MO k_MO n_MO 13 (by decide) gw_383 rfl rfl hin rfl (by decide +kernel) (rfl) (rfl) (Nat.le_of_ble_eq_true rfl) d_MO_init_70 (fun H locs hw => ?_)
  obtain ⟨M16, eM16⟩ : ∃ zM : mm_M, zM = mm_up M15 x (.inr (9, [.int 0, .int 0, .int 0, .int 0, .int 0, .int 0, .ref a0, .ref a1, .ref a2, .ref a3, .ref a4, .ref a5, .ref a6, .ref a7, .null, .null, .null, .null, .null, .null, .null, .null])) := ⟨_, rfl⟩
  have hw : mm_w D vC _ _ (mm_up M15 x (.inr (9, [.int 0, .int 0, .int 0, .int 0, .int 0, .int 0, .ref a0, .ref a1, .ref a2, .ref a3, .ref a4, .ref a5, .ref a6, .ref a7, .null, .null, .null, .null, .null, .null, .null, .null]))) H _ := hw
  rw [← eM16] at hw
  have ha0_16 : M16 a0 = some (.inl (dA 0, 101, .inl (fun _ => 0))) := by rw [eM16]; exact mm_uk hx_15 ha0_15 (by simp)
  have ha1_16 : M16 a1 = some (.inl (dA 0, 101, .inl (fun _ => 0))) := by rw [eM16]; exact mm_uk hx_15 ha1_15 (by simp)
  have ha2_16 : M16 a2 = some (.inl (dA 0, 101, .inl (fun _ => 0))) := by rw [eM16]; exact mm_uk hx_15 ha2_15 (by simp)
  have ha3_16 : M16 a3 = some (.inl (dA 0, 1010, .inl (fun _ => 0))) := by rw [eM16]; exact mm_uk hx_15 ha3_15 (by simp)
  have ha4_16 : M16 a4 = some (.inl (dA 0, 301, .inl (fun _ => 0))) := by rw [eM16]; exact mm_uk hx_15 ha4_15 (by simp)
  have ha5_16 : M16 a5 = some (.inl (dA 0, 301, .inl (fun _ => 0))) := by rw [eM16]; exact mm_uk hx_15 ha5_15 (by simp)
  have ha6_16 : M16 a6 = some (.inl (dA 2, 301, .inl (fun _ => 0))) := by rw [eM16]; exact mm_uk hx_15 ha6_15 (by simp)
  have ha7_16 : M16 a7 = some (.inl (dA 2, 301, .inl (fun _ => 0))) := by rw [eM16]; exact mm_uk hx_15 ha7_15 (by simp)
  have hx_16 : M16 x = some (.inr (9, [.int 0, .int 0, .int 0, .int 0, .int 0, .int 0, .ref a0, .ref a1, .ref a2, .ref a3, .ref a4, .ref a5, .ref a6, .ref a7, .null, .null, .null, .null, .null, .null, .null, .null])) := by rw [eM16]; exact mm_us
  refine lv_aload_n S.1 S.2.1 d_MO_init_73 rfl (lv_at hl 0 rfl) ?_
  refine lv_sipush (v := 10000) S.1 S.2.1 d_MO_init_74 (by decide) ?_
  refine mm_newa (atype := .int) (ty := .int) (N' := 10000) (a0 := (10000, .inl (fun _ => 0))) S hK.1 hw 0 gw_46 rfl rfl ((hK.1.2 0 _ rfl).2) (fun _ => rfl) (by decide) (by decide) (by decide) (Nat.le_of_ble_eq_true rfl) (Nat.le_of_ble_eq_true rfl) (fun _ h => by cases h) d_MO_init_77 (fun a8 H hqa8 hw => ?_)
  obtain ⟨M17, eM17⟩ : ∃ zM : mm_M, zM = mm_up M16 a8 (.inl (dA 0, 10000, .inl (fun _ => 0))) := ⟨_, rfl⟩
  have hw : mm_w D vC _ _ (mm_up M16 a8 (.inl (dA 0, 10000, .inl (fun _ => 0)))) H _ := hw
  rw [← eM17] at hw
  have hx_17 : M17 x = some (.inr (9, [.int 0, .int 0, .int 0, .int 0, .int 0, .int 0, .ref a0, .ref a1, .ref a2, .ref a3, .ref a4, .ref a5, .ref a6, .ref a7, .null, .null, .null, .null, .null, .null, .null, .null])) := by rw [eM17]; exact mm_fk hqa8 hx_16
  have ha0_17 : M17 a0 = some (.inl (dA 0, 101, .inl (fun _ => 0))) := by rw [eM17]; exact mm_fk hqa8 ha0_16
  have ha1_17 : M17 a1 = some (.inl (dA 0, 101, .inl (fun _ => 0))) := by rw [eM17]; exact mm_fk hqa8 ha1_16
  have ha2_17 : M17 a2 = some (.inl (dA 0, 101, .inl (fun _ => 0))) := by rw [eM17]; exact mm_fk hqa8 ha2_16
  have ha3_17 : M17 a3 = some (.inl (dA 0, 1010, .inl (fun _ => 0))) := by rw [eM17]; exact mm_fk hqa8 ha3_16
  have ha4_17 : M17 a4 = some (.inl (dA 0, 301, .inl (fun _ => 0))) := by rw [eM17]; exact mm_fk hqa8 ha4_16
  have ha5_17 : M17 a5 = some (.inl (dA 0, 301, .inl (fun _ => 0))) := by rw [eM17]; exact mm_fk hqa8 ha5_16
  have ha6_17 : M17 a6 = some (.inl (dA 2, 301, .inl (fun _ => 0))) := by rw [eM17]; exact mm_fk hqa8 ha6_16
  have ha7_17 : M17 a7 = some (.inl (dA 2, 301, .inl (fun _ => 0))) := by rw [eM17]; exact mm_fk hqa8 ha7_16
  have ha8_17 : M17 a8 = some (.inl (dA 0, 10000, .inl (fun _ => 0))) := by rw [eM17]; exact mm_us
  have ne_a0_a8 : a0 ≠ a8 := fun h => by rw [h, hqa8] at ha0_16; cases ha0_16
  have ne_a1_a8 : a1 ≠ a8 := fun h => by rw [h, hqa8] at ha1_16; cases ha1_16
  have ne_a2_a8 : a2 ≠ a8 := fun h => by rw [h, hqa8] at ha2_16; cases ha2_16
  have ne_a3_a8 : a3 ≠ a8 := fun h => by rw [h, hqa8] at ha3_16; cases ha3_16
  have ne_a4_a8 : a4 ≠ a8 := fun h => by rw [h, hqa8] at ha4_16; cases ha4_16
  have ne_a5_a8 : a5 ≠ a8 := fun h => by rw [h, hqa8] at ha5_16; cases ha5_16
  have ne_a6_a8 : a6 ≠ a8 := fun h => by rw [h, hqa8] at ha6_16; cases ha6_16
  have ne_a7_a8 : a7 ≠ a8 := fun h => by rw [h, hqa8] at ha7_16; cases ha7_16
  refine mm_putF (C := R_MO) (T := T_MO) (N := 22) (ty := .array .int) (v := .ref a8) S hK.1 hw hx_17 rfl in_MO t_MO k_MO n_MO 14 (by decide) gw_384 rfl rfl hin rfl (by decide +kernel) (rfl) (rfl) (Nat.le_of_ble_eq_true rfl) d_MO_init_79 (fun H locs hw => ?_)
  obtain ⟨M18, eM18⟩ : ∃ zM : mm_M, zM = mm_up M17 x (.inr (9, [.int 0, .int 0, .int 0, .int 0, .int 0, .int 0, .ref a0, .ref a1, .ref a2, .ref a3, .ref a4, .ref a5, .ref a6, .ref a7, .ref a8, .null, .null, .null, .null, .null, .null, .null])) := ⟨_, rfl⟩
  have hw : mm_w D vC _ _ (mm_up M17 x (.inr (9, [.int 0, .int 0, .int 0, .int 0, .int 0, .int 0, .ref a0, .ref a1, .ref a2, .ref a3, .ref a4, .ref a5, .ref a6, .ref a7, .ref a8, .null, .null, .null, .null, .null, .null, .null]))) H _ := hw
  rw [← eM18] at hw
  have ha0_18 : M18 a0 = some (.inl (dA 0, 101, .inl (fun _ => 0))) := by rw [eM18]; exact mm_uk hx_17 ha0_17 (by simp)
  have ha1_18 : M18 a1 = some (.inl (dA 0, 101, .inl (fun _ => 0))) := by rw [eM18]; exact mm_uk hx_17 ha1_17 (by simp)
  have ha2_18 : M18 a2 = some (.inl (dA 0, 101, .inl (fun _ => 0))) := by rw [eM18]; exact mm_uk hx_17 ha2_17 (by simp)
  have ha3_18 : M18 a3 = some (.inl (dA 0, 1010, .inl (fun _ => 0))) := by rw [eM18]; exact mm_uk hx_17 ha3_17 (by simp)
  have ha4_18 : M18 a4 = some (.inl (dA 0, 301, .inl (fun _ => 0))) := by rw [eM18]; exact mm_uk hx_17 ha4_17 (by simp)
  have ha5_18 : M18 a5 = some (.inl (dA 0, 301, .inl (fun _ => 0))) := by rw [eM18]; exact mm_uk hx_17 ha5_17 (by simp)
  have ha6_18 : M18 a6 = some (.inl (dA 2, 301, .inl (fun _ => 0))) := by rw [eM18]; exact mm_uk hx_17 ha6_17 (by simp)
  have ha7_18 : M18 a7 = some (.inl (dA 2, 301, .inl (fun _ => 0))) := by rw [eM18]; exact mm_uk hx_17 ha7_17 (by simp)
  have ha8_18 : M18 a8 = some (.inl (dA 0, 10000, .inl (fun _ => 0))) := by rw [eM18]; exact mm_uk hx_17 ha8_17 (by simp)
  have hx_18 : M18 x = some (.inr (9, [.int 0, .int 0, .int 0, .int 0, .int 0, .int 0, .ref a0, .ref a1, .ref a2, .ref a3, .ref a4, .ref a5, .ref a6, .ref a7, .ref a8, .null, .null, .null, .null, .null, .null, .null])) := by rw [eM18]; exact mm_us
  refine lv_aload_n S.1 S.2.1 d_MO_init_82 rfl (lv_at hl 0 rfl) ?_
  refine lv_bipush (v := 41) S.1 S.2.1 d_MO_init_83 (by decide) ?_
  refine mm_newa (atype := .int) (ty := .int) (N' := 41) (a0 := (41, .inl (fun _ => 0))) S hK.1 hw 0 gw_46 rfl rfl ((hK.1.2 0 _ rfl).2) (fun _ => rfl) (by decide) (by decide) (by decide) (Nat.le_of_ble_eq_true rfl) (Nat.le_of_ble_eq_true rfl) (fun _ h => by cases h) d_MO_init_85 (fun a9 H hqa9 hw => ?_)
  obtain ⟨M19, eM19⟩ : ∃ zM : mm_M, zM = mm_up M18 a9 (.inl (dA 0, 41, .inl (fun _ => 0))) := ⟨_, rfl⟩
  have hw : mm_w D vC _ _ (mm_up M18 a9 (.inl (dA 0, 41, .inl (fun _ => 0)))) H _ := hw
  rw [← eM19] at hw
  have hx_19 : M19 x = some (.inr (9, [.int 0, .int 0, .int 0, .int 0, .int 0, .int 0, .ref a0, .ref a1, .ref a2, .ref a3, .ref a4, .ref a5, .ref a6, .ref a7, .ref a8, .null, .null, .null, .null, .null, .null, .null])) := by rw [eM19]; exact mm_fk hqa9 hx_18
  have ha0_19 : M19 a0 = some (.inl (dA 0, 101, .inl (fun _ => 0))) := by rw [eM19]; exact mm_fk hqa9 ha0_18
  have ha1_19 : M19 a1 = some (.inl (dA 0, 101, .inl (fun _ => 0))) := by rw [eM19]; exact mm_fk hqa9 ha1_18
  have ha2_19 : M19 a2 = some (.inl (dA 0, 101, .inl (fun _ => 0))) := by rw [eM19]; exact mm_fk hqa9 ha2_18
  have ha3_19 : M19 a3 = some (.inl (dA 0, 1010, .inl (fun _ => 0))) := by rw [eM19]; exact mm_fk hqa9 ha3_18
  have ha4_19 : M19 a4 = some (.inl (dA 0, 301, .inl (fun _ => 0))) := by rw [eM19]; exact mm_fk hqa9 ha4_18
  have ha5_19 : M19 a5 = some (.inl (dA 0, 301, .inl (fun _ => 0))) := by rw [eM19]; exact mm_fk hqa9 ha5_18
  have ha6_19 : M19 a6 = some (.inl (dA 2, 301, .inl (fun _ => 0))) := by rw [eM19]; exact mm_fk hqa9 ha6_18
  have ha7_19 : M19 a7 = some (.inl (dA 2, 301, .inl (fun _ => 0))) := by rw [eM19]; exact mm_fk hqa9 ha7_18
  have ha8_19 : M19 a8 = some (.inl (dA 0, 10000, .inl (fun _ => 0))) := by rw [eM19]; exact mm_fk hqa9 ha8_18
  have ha9_19 : M19 a9 = some (.inl (dA 0, 41, .inl (fun _ => 0))) := by rw [eM19]; exact mm_us
  have ne_a0_a9 : a0 ≠ a9 := fun h => by rw [h, hqa9] at ha0_18; cases ha0_18
  have ne_a1_a9 : a1 ≠ a9 := fun h => by rw [h, hqa9] at ha1_18; cases ha1_18
  have ne_a2_a9 : a2 ≠ a9 := fun h => by rw [h, hqa9] at ha2_18; cases ha2_18
  have ne_a3_a9 : a3 ≠ a9 := fun h => by rw [h, hqa9] at ha3_18; cases ha3_18
  have ne_a4_a9 : a4 ≠ a9 := fun h => by rw [h, hqa9] at ha4_18; cases ha4_18
  have ne_a5_a9 : a5 ≠ a9 := fun h => by rw [h, hqa9] at ha5_18; cases ha5_18
  have ne_a6_a9 : a6 ≠ a9 := fun h => by rw [h, hqa9] at ha6_18; cases ha6_18
  have ne_a7_a9 : a7 ≠ a9 := fun h => by rw [h, hqa9] at ha7_18; cases ha7_18
  have ne_a8_a9 : a8 ≠ a9 := fun h => by rw [h, hqa9] at ha8_18; cases ha8_18
  refine mm_putF (C := R_MO) (T := T_MO) (N := 22) (ty := .array .int) (v := .ref a9) S hK.1 hw hx_19 rfl in_MO t_MO k_MO n_MO 15 (by decide) gw_385 rfl rfl hin rfl (by decide +kernel) (rfl) (rfl) (Nat.le_of_ble_eq_true rfl) d_MO_init_87 (fun H locs hw => ?_)
  obtain ⟨M20, eM20⟩ : ∃ zM : mm_M, zM = mm_up M19 x (.inr (9, [.int 0, .int 0, .int 0, .int 0, .int 0, .int 0, .ref a0, .ref a1, .ref a2, .ref a3, .ref a4, .ref a5, .ref a6, .ref a7, .ref a8, .ref a9, .null, .null, .null, .null, .null, .null])) := ⟨_, rfl⟩
  have hw : mm_w D vC _ _ (mm_up M19 x (.inr (9, [.int 0, .int 0, .int 0, .int 0, .int 0, .int 0, .ref a0, .ref a1, .ref a2, .ref a3, .ref a4, .ref a5, .ref a6, .ref a7, .ref a8, .ref a9, .null, .null, .null, .null, .null, .null]))) H _ := hw
  rw [← eM20] at hw
  have ha0_20 : M20 a0 = some (.inl (dA 0, 101, .inl (fun _ => 0))) := by rw [eM20]; exact mm_uk hx_19 ha0_19 (by simp)
  have ha1_20 : M20 a1 = some (.inl (dA 0, 101, .inl (fun _ => 0))) := by rw [eM20]; exact mm_uk hx_19 ha1_19 (by simp)
  have ha2_20 : M20 a2 = some (.inl (dA 0, 101, .inl (fun _ => 0))) := by rw [eM20]; exact mm_uk hx_19 ha2_19 (by simp)
  have ha3_20 : M20 a3 = some (.inl (dA 0, 1010, .inl (fun _ => 0))) := by rw [eM20]; exact mm_uk hx_19 ha3_19 (by simp)
  have ha4_20 : M20 a4 = some (.inl (dA 0, 301, .inl (fun _ => 0))) := by rw [eM20]; exact mm_uk hx_19 ha4_19 (by simp)
  have ha5_20 : M20 a5 = some (.inl (dA 0, 301, .inl (fun _ => 0))) := by rw [eM20]; exact mm_uk hx_19 ha5_19 (by simp)
  have ha6_20 : M20 a6 = some (.inl (dA 2, 301, .inl (fun _ => 0))) := by rw [eM20]; exact mm_uk hx_19 ha6_19 (by simp)
  have ha7_20 : M20 a7 = some (.inl (dA 2, 301, .inl (fun _ => 0))) := by rw [eM20]; exact mm_uk hx_19 ha7_19 (by simp)
  have ha8_20 : M20 a8 = some (.inl (dA 0, 10000, .inl (fun _ => 0))) := by rw [eM20]; exact mm_uk hx_19 ha8_19 (by simp)
  have ha9_20 : M20 a9 = some (.inl (dA 0, 41, .inl (fun _ => 0))) := by rw [eM20]; exact mm_uk hx_19 ha9_19 (by simp)
  have hx_20 : M20 x = some (.inr (9, [.int 0, .int 0, .int 0, .int 0, .int 0, .int 0, .ref a0, .ref a1, .ref a2, .ref a3, .ref a4, .ref a5, .ref a6, .ref a7, .ref a8, .ref a9, .null, .null, .null, .null, .null, .null])) := by rw [eM20]; exact mm_us
  refine lv_aload_n S.1 S.2.1 d_MO_init_90 rfl (lv_at hl 0 rfl) ?_
  refine lv_sipush (v := 10000) S.1 S.2.1 d_MO_init_91 (by decide) ?_
  refine mm_newa (atype := .boolean) (ty := .boolean) (N' := 10000) (a0 := (10000, .inl (fun _ => 0))) S hK.1 hw 2 gw_437 rfl rfl ((hK.1.2 2 _ rfl).2) (fun _ => rfl) (by decide) (by decide) (by decide) (Nat.le_of_ble_eq_true rfl) (Nat.le_of_ble_eq_true rfl) (fun _ h => by cases h) d_MO_init_94 (fun a10 H hqa10 hw => ?_)
  obtain ⟨M21, eM21⟩ : ∃ zM : mm_M, zM = mm_up M20 a10 (.inl (dA 2, 10000, .inl (fun _ => 0))) := ⟨_, rfl⟩
  have hw : mm_w D vC _ _ (mm_up M20 a10 (.inl (dA 2, 10000, .inl (fun _ => 0)))) H _ := hw
  rw [← eM21] at hw
  have hx_21 : M21 x = some (.inr (9, [.int 0, .int 0, .int 0, .int 0, .int 0, .int 0, .ref a0, .ref a1, .ref a2, .ref a3, .ref a4, .ref a5, .ref a6, .ref a7, .ref a8, .ref a9, .null, .null, .null, .null, .null, .null])) := by rw [eM21]; exact mm_fk hqa10 hx_20
  have ha0_21 : M21 a0 = some (.inl (dA 0, 101, .inl (fun _ => 0))) := by rw [eM21]; exact mm_fk hqa10 ha0_20
  have ha1_21 : M21 a1 = some (.inl (dA 0, 101, .inl (fun _ => 0))) := by rw [eM21]; exact mm_fk hqa10 ha1_20
  have ha2_21 : M21 a2 = some (.inl (dA 0, 101, .inl (fun _ => 0))) := by rw [eM21]; exact mm_fk hqa10 ha2_20
  have ha3_21 : M21 a3 = some (.inl (dA 0, 1010, .inl (fun _ => 0))) := by rw [eM21]; exact mm_fk hqa10 ha3_20
  have ha4_21 : M21 a4 = some (.inl (dA 0, 301, .inl (fun _ => 0))) := by rw [eM21]; exact mm_fk hqa10 ha4_20
  have ha5_21 : M21 a5 = some (.inl (dA 0, 301, .inl (fun _ => 0))) := by rw [eM21]; exact mm_fk hqa10 ha5_20
  have ha6_21 : M21 a6 = some (.inl (dA 2, 301, .inl (fun _ => 0))) := by rw [eM21]; exact mm_fk hqa10 ha6_20
  have ha7_21 : M21 a7 = some (.inl (dA 2, 301, .inl (fun _ => 0))) := by rw [eM21]; exact mm_fk hqa10 ha7_20
  have ha8_21 : M21 a8 = some (.inl (dA 0, 10000, .inl (fun _ => 0))) := by rw [eM21]; exact mm_fk hqa10 ha8_20
  have ha9_21 : M21 a9 = some (.inl (dA 0, 41, .inl (fun _ => 0))) := by rw [eM21]; exact mm_fk hqa10 ha9_20
  have ha10_21 : M21 a10 = some (.inl (dA 2, 10000, .inl (fun _ => 0))) := by rw [eM21]; exact mm_us
  have ne_a0_a10 : a0 ≠ a10 := fun h => by rw [h, hqa10] at ha0_20; cases ha0_20
  have ne_a1_a10 : a1 ≠ a10 := fun h => by rw [h, hqa10] at ha1_20; cases ha1_20
  have ne_a2_a10 : a2 ≠ a10 := fun h => by rw [h, hqa10] at ha2_20; cases ha2_20
  have ne_a3_a10 : a3 ≠ a10 := fun h => by rw [h, hqa10] at ha3_20; cases ha3_20
  have ne_a4_a10 : a4 ≠ a10 := fun h => by rw [h, hqa10] at ha4_20; cases ha4_20
  have ne_a5_a10 : a5 ≠ a10 := fun h => by rw [h, hqa10] at ha5_20; cases ha5_20
  have ne_a6_a10 : a6 ≠ a10 := fun h => by rw [h, hqa10] at ha6_20; cases ha6_20
  have ne_a7_a10 : a7 ≠ a10 := fun h => by rw [h, hqa10] at ha7_20; cases ha7_20
  have ne_a8_a10 : a8 ≠ a10 := fun h => by rw [h, hqa10] at ha8_20; cases ha8_20
  have ne_a9_a10 : a9 ≠ a10 := fun h => by rw [h, hqa10] at ha9_20; cases ha9_20
  refine mm_putF (C := R_MO) (T := T_MO) (N := 22) (ty := .array .boolean) (v := .ref a10) S hK.1 hw hx_21 rfl in_MO t_MO k_MO n_MO 16 (by decide) gw_386 rfl rfl hin rfl (by decide +kernel) (rfl) (rfl) (Nat.le_of_ble_eq_true rfl) d_MO_init_96 (fun H locs hw => ?_)
  obtain ⟨M22, eM22⟩ : ∃ zM : mm_M, zM = mm_up M21 x (.inr (9, [.int 0, .int 0, .int 0, .int 0, .int 0, .int 0, .ref a0, .ref a1, .ref a2, .ref a3, .ref a4, .ref a5, .ref a6, .ref a7, .ref a8, .ref a9, .ref a10, .null, .null, .null, .null, .null])) := ⟨_, rfl⟩
  have hw : mm_w D vC _ _ (mm_up M21 x (.inr (9, [.int 0, .int 0, .int 0, .int 0, .int 0, .int 0, .ref a0, .ref a1, .ref a2, .ref a3, .ref a4, .ref a5, .ref a6, .ref a7, .ref a8, .ref a9, .ref a10, .null, .null, .null, .null, .null]))) H _ := hw
  rw [← eM22] at hw
  have ha0_22 : M22 a0 = some (.inl (dA 0, 101, .inl (fun _ => 0))) := by rw [eM22]; exact mm_uk hx_21 ha0_21 (by simp)
  have ha1_22 : M22 a1 = some (.inl (dA 0, 101, .inl (fun _ => 0))) := by rw [eM22]; exact mm_uk hx_21 ha1_21 (by simp)
  have ha2_22 : M22 a2 = some (.inl (dA 0, 101, .inl (fun _ => 0))) := by rw [eM22]; exact mm_uk hx_21 ha2_21 (by simp)
  have ha3_22 : M22 a3 = some (.inl (dA 0, 1010, .inl (fun _ => 0))) := by rw [eM22]; exact mm_uk hx_21 ha3_21 (by simp)
  have ha4_22 : M22 a4 = some (.inl (dA 0, 301, .inl (fun _ => 0))) := by rw [eM22]; exact mm_uk hx_21 ha4_21 (by simp)
  have ha5_22 : M22 a5 = some (.inl (dA 0, 301, .inl (fun _ => 0))) := by rw [eM22]; exact mm_uk hx_21 ha5_21 (by simp)
  have ha6_22 : M22 a6 = some (.inl (dA 2, 301, .inl (fun _ => 0))) := by rw [eM22]; exact mm_uk hx_21 ha6_21 (by simp)
  have ha7_22 : M22 a7 = some (.inl (dA 2, 301, .inl (fun _ => 0))) := by rw [eM22]; exact mm_uk hx_21 ha7_21 (by simp)
  have ha8_22 : M22 a8 = some (.inl (dA 0, 10000, .inl (fun _ => 0))) := by rw [eM22]; exact mm_uk hx_21 ha8_21 (by simp)
  have ha9_22 : M22 a9 = some (.inl (dA 0, 41, .inl (fun _ => 0))) := by rw [eM22]; exact mm_uk hx_21 ha9_21 (by simp)
  have ha10_22 : M22 a10 = some (.inl (dA 2, 10000, .inl (fun _ => 0))) := by rw [eM22]; exact mm_uk hx_21 ha10_21 (by simp)
  have hx_22 : M22 x = some (.inr (9, [.int 0, .int 0, .int 0, .int 0, .int 0, .int 0, .ref a0, .ref a1, .ref a2, .ref a3, .ref a4, .ref a5, .ref a6, .ref a7, .ref a8, .ref a9, .ref a10, .null, .null, .null, .null, .null])) := by rw [eM22]; exact mm_us
  refine lv_aload_n S.1 S.2.1 d_MO_init_99 rfl (lv_at hl 0 rfl) ?_
  refine lv_bipush (v := 41) S.1 S.2.1 d_MO_init_100 (by decide) ?_
  refine mm_newa (atype := .long) (ty := .long) (N' := 41) (a0 := (41, .inr (.inl (fun _ => 0)))) S hK.1 hw 1 gw_64 rfl rfl ((hK.1.2 1 _ rfl).2) (fun _ => rfl) (by decide) (by decide) (by decide) (Nat.le_of_ble_eq_true rfl) (Nat.le_of_ble_eq_true rfl) (fun _ h => by cases h) d_MO_init_102 (fun a11 H hqa11 hw => ?_)
  obtain ⟨M23, eM23⟩ : ∃ zM : mm_M, zM = mm_up M22 a11 (.inl (dA 1, 41, .inr (.inl (fun _ => 0)))) := ⟨_, rfl⟩
  have hw : mm_w D vC _ _ (mm_up M22 a11 (.inl (dA 1, 41, .inr (.inl (fun _ => 0))))) H _ := hw
  rw [← eM23] at hw
  have hx_23 : M23 x = some (.inr (9, [.int 0, .int 0, .int 0, .int 0, .int 0, .int 0, .ref a0, .ref a1, .ref a2, .ref a3, .ref a4, .ref a5, .ref a6, .ref a7, .ref a8, .ref a9, .ref a10, .null, .null, .null, .null, .null])) := by rw [eM23]; exact mm_fk hqa11 hx_22
  have ha0_23 : M23 a0 = some (.inl (dA 0, 101, .inl (fun _ => 0))) := by rw [eM23]; exact mm_fk hqa11 ha0_22
  have ha1_23 : M23 a1 = some (.inl (dA 0, 101, .inl (fun _ => 0))) := by rw [eM23]; exact mm_fk hqa11 ha1_22
  have ha2_23 : M23 a2 = some (.inl (dA 0, 101, .inl (fun _ => 0))) := by rw [eM23]; exact mm_fk hqa11 ha2_22
  have ha3_23 : M23 a3 = some (.inl (dA 0, 1010, .inl (fun _ => 0))) := by rw [eM23]; exact mm_fk hqa11 ha3_22
  have ha4_23 : M23 a4 = some (.inl (dA 0, 301, .inl (fun _ => 0))) := by rw [eM23]; exact mm_fk hqa11 ha4_22
  have ha5_23 : M23 a5 = some (.inl (dA 0, 301, .inl (fun _ => 0))) := by rw [eM23]; exact mm_fk hqa11 ha5_22
  have ha6_23 : M23 a6 = some (.inl (dA 2, 301, .inl (fun _ => 0))) := by rw [eM23]; exact mm_fk hqa11 ha6_22
  have ha7_23 : M23 a7 = some (.inl (dA 2, 301, .inl (fun _ => 0))) := by rw [eM23]; exact mm_fk hqa11 ha7_22
  have ha8_23 : M23 a8 = some (.inl (dA 0, 10000, .inl (fun _ => 0))) := by rw [eM23]; exact mm_fk hqa11 ha8_22
  have ha9_23 : M23 a9 = some (.inl (dA 0, 41, .inl (fun _ => 0))) := by rw [eM23]; exact mm_fk hqa11 ha9_22
  have ha10_23 : M23 a10 = some (.inl (dA 2, 10000, .inl (fun _ => 0))) := by rw [eM23]; exact mm_fk hqa11 ha10_22
  have ha11_23 : M23 a11 = some (.inl (dA 1, 41, .inr (.inl (fun _ => 0)))) := by rw [eM23]; exact mm_us
  have ne_a0_a11 : a0 ≠ a11 := fun h => by rw [h, hqa11] at ha0_22; cases ha0_22
  have ne_a1_a11 : a1 ≠ a11 := fun h => by rw [h, hqa11] at ha1_22; cases ha1_22
  have ne_a2_a11 : a2 ≠ a11 := fun h => by rw [h, hqa11] at ha2_22; cases ha2_22
  have ne_a3_a11 : a3 ≠ a11 := fun h => by rw [h, hqa11] at ha3_22; cases ha3_22
  have ne_a4_a11 : a4 ≠ a11 := fun h => by rw [h, hqa11] at ha4_22; cases ha4_22
  have ne_a5_a11 : a5 ≠ a11 := fun h => by rw [h, hqa11] at ha5_22; cases ha5_22
  have ne_a6_a11 : a6 ≠ a11 := fun h => by rw [h, hqa11] at ha6_22; cases ha6_22
  have ne_a7_a11 : a7 ≠ a11 := fun h => by rw [h, hqa11] at ha7_22; cases ha7_22
  have ne_a8_a11 : a8 ≠ a11 := fun h => by rw [h, hqa11] at ha8_22; cases ha8_22
  have ne_a9_a11 : a9 ≠ a11 := fun h => by rw [h, hqa11] at ha9_22; cases ha9_22
  have ne_a10_a11 : a10 ≠ a11 := fun h => by rw [h, hqa11] at ha10_22; cases ha10_22
  refine mm_putF (C := R_MO) (T := T_MO) (N := 22) (ty := .array .long) (v := .ref a11) S hK.1 hw hx_23 rfl in_MO t_MO k_MO n_MO 17 (by decide) gw_387 rfl rfl hin rfl (by decide +kernel) (rfl) (rfl) (Nat.le_of_ble_eq_true rfl) d_MO_init_104 (fun H locs hw => ?_)
  obtain ⟨M24, eM24⟩ : ∃ zM : mm_M, zM = mm_up M23 x (.inr (9, [.int 0, .int 0, .int 0, .int 0, .int 0, .int 0, .ref a0, .ref a1, .ref a2, .ref a3, .ref a4, .ref a5, .ref a6, .ref a7, .ref a8, .ref a9, .ref a10, .ref a11, .null, .null, .null, .null])) := ⟨_, rfl⟩
  have hw : mm_w D vC _ _ (mm_up M23 x (.inr (9, [.int 0, .int 0, .int 0, .int 0, .int 0, .int 0, .ref a0, .ref a1, .ref a2, .ref a3, .ref a4, .ref a5, .ref a6, .ref a7, .ref a8, .ref a9, .ref a10, .ref a11, .null, .null, .null, .null]))) H _ := hw
  rw [← eM24] at hw
  have ha0_24 : M24 a0 = some (.inl (dA 0, 101, .inl (fun _ => 0))) := by rw [eM24]; exact mm_uk hx_23 ha0_23 (by simp)
  have ha1_24 : M24 a1 = some (.inl (dA 0, 101, .inl (fun _ => 0))) := by rw [eM24]; exact mm_uk hx_23 ha1_23 (by simp)
  have ha2_24 : M24 a2 = some (.inl (dA 0, 101, .inl (fun _ => 0))) := by rw [eM24]; exact mm_uk hx_23 ha2_23 (by simp)
  have ha3_24 : M24 a3 = some (.inl (dA 0, 1010, .inl (fun _ => 0))) := by rw [eM24]; exact mm_uk hx_23 ha3_23 (by simp)
  have ha4_24 : M24 a4 = some (.inl (dA 0, 301, .inl (fun _ => 0))) := by rw [eM24]; exact mm_uk hx_23 ha4_23 (by simp)
  have ha5_24 : M24 a5 = some (.inl (dA 0, 301, .inl (fun _ => 0))) := by rw [eM24]; exact mm_uk hx_23 ha5_23 (by simp)
  have ha6_24 : M24 a6 = some (.inl (dA 2, 301, .inl (fun _ => 0))) := by rw [eM24]; exact mm_uk hx_23 ha6_23 (by simp)
  have ha7_24 : M24 a7 = some (.inl (dA 2, 301, .inl (fun _ => 0))) := by rw [eM24]; exact mm_uk hx_23 ha7_23 (by simp)
  have ha8_24 : M24 a8 = some (.inl (dA 0, 10000, .inl (fun _ => 0))) := by rw [eM24]; exact mm_uk hx_23 ha8_23 (by simp)
  have ha9_24 : M24 a9 = some (.inl (dA 0, 41, .inl (fun _ => 0))) := by rw [eM24]; exact mm_uk hx_23 ha9_23 (by simp)
  have ha10_24 : M24 a10 = some (.inl (dA 2, 10000, .inl (fun _ => 0))) := by rw [eM24]; exact mm_uk hx_23 ha10_23 (by simp)
  have ha11_24 : M24 a11 = some (.inl (dA 1, 41, .inr (.inl (fun _ => 0)))) := by rw [eM24]; exact mm_uk hx_23 ha11_23 (by simp)
  have hx_24 : M24 x = some (.inr (9, [.int 0, .int 0, .int 0, .int 0, .int 0, .int 0, .ref a0, .ref a1, .ref a2, .ref a3, .ref a4, .ref a5, .ref a6, .ref a7, .ref a8, .ref a9, .ref a10, .ref a11, .null, .null, .null, .null])) := by rw [eM24]; exact mm_us
  refine lv_aload_n S.1 S.2.1 d_MO_init_107 rfl (lv_at hl 0 rfl) ?_
  refine lv_bipush (v := 61) S.1 S.2.1 d_MO_init_108 (by decide) ?_
  refine mm_newa (atype := .int) (ty := .int) (N' := 61) (a0 := (61, .inl (fun _ => 0))) S hK.1 hw 0 gw_46 rfl rfl ((hK.1.2 0 _ rfl).2) (fun _ => rfl) (by decide) (by decide) (by decide) (Nat.le_of_ble_eq_true rfl) (Nat.le_of_ble_eq_true rfl) (fun _ h => by cases h) d_MO_init_110 (fun a12 H hqa12 hw => ?_)
  obtain ⟨M25, eM25⟩ : ∃ zM : mm_M, zM = mm_up M24 a12 (.inl (dA 0, 61, .inl (fun _ => 0))) := ⟨_, rfl⟩
  have hw : mm_w D vC _ _ (mm_up M24 a12 (.inl (dA 0, 61, .inl (fun _ => 0)))) H _ := hw
  rw [← eM25] at hw
  have hx_25 : M25 x = some (.inr (9, [.int 0, .int 0, .int 0, .int 0, .int 0, .int 0, .ref a0, .ref a1, .ref a2, .ref a3, .ref a4, .ref a5, .ref a6, .ref a7, .ref a8, .ref a9, .ref a10, .ref a11, .null, .null, .null, .null])) := by rw [eM25]; exact mm_fk hqa12 hx_24
  have ha0_25 : M25 a0 = some (.inl (dA 0, 101, .inl (fun _ => 0))) := by rw [eM25]; exact mm_fk hqa12 ha0_24
  have ha1_25 : M25 a1 = some (.inl (dA 0, 101, .inl (fun _ => 0))) := by rw [eM25]; exact mm_fk hqa12 ha1_24
  have ha2_25 : M25 a2 = some (.inl (dA 0, 101, .inl (fun _ => 0))) := by rw [eM25]; exact mm_fk hqa12 ha2_24
  have ha3_25 : M25 a3 = some (.inl (dA 0, 1010, .inl (fun _ => 0))) := by rw [eM25]; exact mm_fk hqa12 ha3_24
  have ha4_25 : M25 a4 = some (.inl (dA 0, 301, .inl (fun _ => 0))) := by rw [eM25]; exact mm_fk hqa12 ha4_24
  have ha5_25 : M25 a5 = some (.inl (dA 0, 301, .inl (fun _ => 0))) := by rw [eM25]; exact mm_fk hqa12 ha5_24
  have ha6_25 : M25 a6 = some (.inl (dA 2, 301, .inl (fun _ => 0))) := by rw [eM25]; exact mm_fk hqa12 ha6_24
  have ha7_25 : M25 a7 = some (.inl (dA 2, 301, .inl (fun _ => 0))) := by rw [eM25]; exact mm_fk hqa12 ha7_24
  have ha8_25 : M25 a8 = some (.inl (dA 0, 10000, .inl (fun _ => 0))) := by rw [eM25]; exact mm_fk hqa12 ha8_24
  have ha9_25 : M25 a9 = some (.inl (dA 0, 41, .inl (fun _ => 0))) := by rw [eM25]; exact mm_fk hqa12 ha9_24
  have ha10_25 : M25 a10 = some (.inl (dA 2, 10000, .inl (fun _ => 0))) := by rw [eM25]; exact mm_fk hqa12 ha10_24
  have ha11_25 : M25 a11 = some (.inl (dA 1, 41, .inr (.inl (fun _ => 0)))) := by rw [eM25]; exact mm_fk hqa12 ha11_24
  have ha12_25 : M25 a12 = some (.inl (dA 0, 61, .inl (fun _ => 0))) := by rw [eM25]; exact mm_us
  have ne_a0_a12 : a0 ≠ a12 := fun h => by rw [h, hqa12] at ha0_24; cases ha0_24
  have ne_a1_a12 : a1 ≠ a12 := fun h => by rw [h, hqa12] at ha1_24; cases ha1_24
  have ne_a2_a12 : a2 ≠ a12 := fun h => by rw [h, hqa12] at ha2_24; cases ha2_24
  have ne_a3_a12 : a3 ≠ a12 := fun h => by rw [h, hqa12] at ha3_24; cases ha3_24
  have ne_a4_a12 : a4 ≠ a12 := fun h => by rw [h, hqa12] at ha4_24; cases ha4_24
  have ne_a5_a12 : a5 ≠ a12 := fun h => by rw [h, hqa12] at ha5_24; cases ha5_24
  have ne_a6_a12 : a6 ≠ a12 := fun h => by rw [h, hqa12] at ha6_24; cases ha6_24
  have ne_a7_a12 : a7 ≠ a12 := fun h => by rw [h, hqa12] at ha7_24; cases ha7_24
  have ne_a8_a12 : a8 ≠ a12 := fun h => by rw [h, hqa12] at ha8_24; cases ha8_24
  have ne_a9_a12 : a9 ≠ a12 := fun h => by rw [h, hqa12] at ha9_24; cases ha9_24
  have ne_a10_a12 : a10 ≠ a12 := fun h => by rw [h, hqa12] at ha10_24; cases ha10_24
  have ne_a11_a12 : a11 ≠ a12 := fun h => by rw [h, hqa12] at ha11_24; cases ha11_24
  refine mm_putF (C := R_MO) (T := T_MO) (N := 22) (ty := .array .int) (v := .ref a12) S hK.1 hw hx_25 rfl in_MO t_MO k_MO n_MO 18 (by decide) gw_388 rfl rfl hin rfl (by decide +kernel) (rfl) (rfl) (Nat.le_of_ble_eq_true rfl) d_MO_init_112 (fun H locs hw => ?_)
  obtain ⟨M26, eM26⟩ : ∃ zM : mm_M, zM = mm_up M25 x (.inr (9, [.int 0, .int 0, .int 0, .int 0, .int 0, .int 0, .ref a0, .ref a1, .ref a2, .ref a3, .ref a4, .ref a5, .ref a6, .ref a7, .ref a8, .ref a9, .ref a10, .ref a11, .ref a12, .null, .null, .null])) := ⟨_, rfl⟩
  have hw : mm_w D vC _ _ (mm_up M25 x (.inr (9, [.int 0, .int 0, .int 0, .int 0, .int 0, .int 0, .ref a0, .ref a1, .ref a2, .ref a3, .ref a4, .ref a5, .ref a6, .ref a7, .ref a8, .ref a9, .ref a10, .ref a11, .ref a12, .null, .null, .null]))) H _ := hw
  rw [← eM26] at hw
  have ha0_26 : M26 a0 = some (.inl (dA 0, 101, .inl (fun _ => 0))) := by rw [eM26]; exact mm_uk hx_25 ha0_25 (by simp)
  have ha1_26 : M26 a1 = some (.inl (dA 0, 101, .inl (fun _ => 0))) := by rw [eM26]; exact mm_uk hx_25 ha1_25 (by simp)
  have ha2_26 : M26 a2 = some (.inl (dA 0, 101, .inl (fun _ => 0))) := by rw [eM26]; exact mm_uk hx_25 ha2_25 (by simp)
  have ha3_26 : M26 a3 = some (.inl (dA 0, 1010, .inl (fun _ => 0))) := by rw [eM26]; exact mm_uk hx_25 ha3_25 (by simp)
  have ha4_26 : M26 a4 = some (.inl (dA 0, 301, .inl (fun _ => 0))) := by rw [eM26]; exact mm_uk hx_25 ha4_25 (by simp)
  have ha5_26 : M26 a5 = some (.inl (dA 0, 301, .inl (fun _ => 0))) := by rw [eM26]; exact mm_uk hx_25 ha5_25 (by simp)
  have ha6_26 : M26 a6 = some (.inl (dA 2, 301, .inl (fun _ => 0))) := by rw [eM26]; exact mm_uk hx_25 ha6_25 (by simp)
  have ha7_26 : M26 a7 = some (.inl (dA 2, 301, .inl (fun _ => 0))) := by rw [eM26]; exact mm_uk hx_25 ha7_25 (by simp)
  have ha8_26 : M26 a8 = some (.inl (dA 0, 10000, .inl (fun _ => 0))) := by rw [eM26]; exact mm_uk hx_25 ha8_25 (by simp)
  have ha9_26 : M26 a9 = some (.inl (dA 0, 41, .inl (fun _ => 0))) := by rw [eM26]; exact mm_uk hx_25 ha9_25 (by simp)
  have ha10_26 : M26 a10 = some (.inl (dA 2, 10000, .inl (fun _ => 0))) := by rw [eM26]; exact mm_uk hx_25 ha10_25 (by simp)
  have ha11_26 : M26 a11 = some (.inl (dA 1, 41, .inr (.inl (fun _ => 0)))) := by rw [eM26]; exact mm_uk hx_25 ha11_25 (by simp)
  have ha12_26 : M26 a12 = some (.inl (dA 0, 61, .inl (fun _ => 0))) := by rw [eM26]; exact mm_uk hx_25 ha12_25 (by simp)
  have hx_26 : M26 x = some (.inr (9, [.int 0, .int 0, .int 0, .int 0, .int 0, .int 0, .ref a0, .ref a1, .ref a2, .ref a3, .ref a4, .ref a5, .ref a6, .ref a7, .ref a8, .ref a9, .ref a10, .ref a11, .ref a12, .null, .null, .null])) := by rw [eM26]; exact mm_us
  refine lv_aload_n S.1 S.2.1 d_MO_init_115 rfl (lv_at hl 0 rfl) ?_
  refine lv_bipush (v := 61) S.1 S.2.1 d_MO_init_116 (by decide) ?_
  refine mm_newa (atype := .int) (ty := .int) (N' := 61) (a0 := (61, .inl (fun _ => 0))) S hK.1 hw 0 gw_46 rfl rfl ((hK.1.2 0 _ rfl).2) (fun _ => rfl) (by decide) (by decide) (by decide) (Nat.le_of_ble_eq_true rfl) (Nat.le_of_ble_eq_true rfl) (fun _ h => by cases h) d_MO_init_118 (fun a13 H hqa13 hw => ?_)
  obtain ⟨M27, eM27⟩ : ∃ zM : mm_M, zM = mm_up M26 a13 (.inl (dA 0, 61, .inl (fun _ => 0))) := ⟨_, rfl⟩
  have hw : mm_w D vC _ _ (mm_up M26 a13 (.inl (dA 0, 61, .inl (fun _ => 0)))) H _ := hw
  rw [← eM27] at hw
  have hx_27 : M27 x = some (.inr (9, [.int 0, .int 0, .int 0, .int 0, .int 0, .int 0, .ref a0, .ref a1, .ref a2, .ref a3, .ref a4, .ref a5, .ref a6, .ref a7, .ref a8, .ref a9, .ref a10, .ref a11, .ref a12, .null, .null, .null])) := by rw [eM27]; exact mm_fk hqa13 hx_26
  have ha0_27 : M27 a0 = some (.inl (dA 0, 101, .inl (fun _ => 0))) := by rw [eM27]; exact mm_fk hqa13 ha0_26
  have ha1_27 : M27 a1 = some (.inl (dA 0, 101, .inl (fun _ => 0))) := by rw [eM27]; exact mm_fk hqa13 ha1_26
  have ha2_27 : M27 a2 = some (.inl (dA 0, 101, .inl (fun _ => 0))) := by rw [eM27]; exact mm_fk hqa13 ha2_26
  have ha3_27 : M27 a3 = some (.inl (dA 0, 1010, .inl (fun _ => 0))) := by rw [eM27]; exact mm_fk hqa13 ha3_26
  have ha4_27 : M27 a4 = some (.inl (dA 0, 301, .inl (fun _ => 0))) := by rw [eM27]; exact mm_fk hqa13 ha4_26
  have ha5_27 : M27 a5 = some (.inl (dA 0, 301, .inl (fun _ => 0))) := by rw [eM27]; exact mm_fk hqa13 ha5_26
  have ha6_27 : M27 a6 = some (.inl (dA 2, 301, .inl (fun _ => 0))) := by rw [eM27]; exact mm_fk hqa13 ha6_26
  have ha7_27 : M27 a7 = some (.inl (dA 2, 301, .inl (fun _ => 0))) := by rw [eM27]; exact mm_fk hqa13 ha7_26
  have ha8_27 : M27 a8 = some (.inl (dA 0, 10000, .inl (fun _ => 0))) := by rw [eM27]; exact mm_fk hqa13 ha8_26
  have ha9_27 : M27 a9 = some (.inl (dA 0, 41, .inl (fun _ => 0))) := by rw [eM27]; exact mm_fk hqa13 ha9_26
  have ha10_27 : M27 a10 = some (.inl (dA 2, 10000, .inl (fun _ => 0))) := by rw [eM27]; exact mm_fk hqa13 ha10_26
  have ha11_27 : M27 a11 = some (.inl (dA 1, 41, .inr (.inl (fun _ => 0)))) := by rw [eM27]; exact mm_fk hqa13 ha11_26
  have ha12_27 : M27 a12 = some (.inl (dA 0, 61, .inl (fun _ => 0))) := by rw [eM27]; exact mm_fk hqa13 ha12_26
  have ha13_27 : M27 a13 = some (.inl (dA 0, 61, .inl (fun _ => 0))) := by rw [eM27]; exact mm_us
  have ne_a0_a13 : a0 ≠ a13 := fun h => by rw [h, hqa13] at ha0_26; cases ha0_26
  have ne_a1_a13 : a1 ≠ a13 := fun h => by rw [h, hqa13] at ha1_26; cases ha1_26
  have ne_a2_a13 : a2 ≠ a13 := fun h => by rw [h, hqa13] at ha2_26; cases ha2_26
  have ne_a3_a13 : a3 ≠ a13 := fun h => by rw [h, hqa13] at ha3_26; cases ha3_26
  have ne_a4_a13 : a4 ≠ a13 := fun h => by rw [h, hqa13] at ha4_26; cases ha4_26
  have ne_a5_a13 : a5 ≠ a13 := fun h => by rw [h, hqa13] at ha5_26; cases ha5_26
  have ne_a6_a13 : a6 ≠ a13 := fun h => by rw [h, hqa13] at ha6_26; cases ha6_26
  have ne_a7_a13 : a7 ≠ a13 := fun h => by rw [h, hqa13] at ha7_26; cases ha7_26
  have ne_a8_a13 : a8 ≠ a13 := fun h => by rw [h, hqa13] at ha8_26; cases ha8_26
  have ne_a9_a13 : a9 ≠ a13 := fun h => by rw [h, hqa13] at ha9_26; cases ha9_26
  have ne_a10_a13 : a10 ≠ a13 := fun h => by rw [h, hqa13] at ha10_26; cases ha10_26
  have ne_a11_a13 : a11 ≠ a13 := fun h => by rw [h, hqa13] at ha11_26; cases ha11_26
  have ne_a12_a13 : a12 ≠ a13 := fun h => by rw [h, hqa13] at ha12_26; cases ha12_26
  refine mm_putF (C := R_MO) (T := T_MO) (N := 22) (ty := .array .int) (v := .ref a13) S hK.1 hw hx_27 rfl in_MO t_MO k_MO n_MO 19 (by decide) gw_389 rfl rfl hin rfl (by decide +kernel) (rfl) (rfl) (Nat.le_of_ble_eq_true rfl) d_MO_init_120 (fun H locs hw => ?_)
  obtain ⟨M28, eM28⟩ : ∃ zM : mm_M, zM = mm_up M27 x (.inr (9, [.int 0, .int 0, .int 0, .int 0, .int 0, .int 0, .ref a0, .ref a1, .ref a2, .ref a3, .ref a4, .ref a5, .ref a6, .ref a7, .ref a8, .ref a9, .ref a10, .ref a11, .ref a12, .ref a13, .null, .null])) := ⟨_, rfl⟩
  have hw : mm_w D vC _ _ (mm_up M27 x (.inr (9, [.int 0, .int 0, .int 0, .int 0, .int 0, .int 0, .ref a0, .ref a1, .ref a2, .ref a3, .ref a4, .ref a5, .ref a6, .ref a7, .ref a8, .ref a9, .ref a10, .ref a11, .ref a12, .ref a13, .null, .null]))) H _ := hw
  rw [← eM28] at hw
  have ha0_28 : M28 a0 = some (.inl (dA 0, 101, .inl (fun _ => 0))) := by rw [eM28]; exact mm_uk hx_27 ha0_27 (by simp)
  have ha1_28 : M28 a1 = some (.inl (dA 0, 101, .inl (fun _ => 0))) := by rw [eM28]; exact mm_uk hx_27 ha1_27 (by simp)
  have ha2_28 : M28 a2 = some (.inl (dA 0, 101, .inl (fun _ => 0))) := by rw [eM28]; exact mm_uk hx_27 ha2_27 (by simp)
  have ha3_28 : M28 a3 = some (.inl (dA 0, 1010, .inl (fun _ => 0))) := by rw [eM28]; exact mm_uk hx_27 ha3_27 (by simp)
  have ha4_28 : M28 a4 = some (.inl (dA 0, 301, .inl (fun _ => 0))) := by rw [eM28]; exact mm_uk hx_27 ha4_27 (by simp)
  have ha5_28 : M28 a5 = some (.inl (dA 0, 301, .inl (fun _ => 0))) := by rw [eM28]; exact mm_uk hx_27 ha5_27 (by simp)
  have ha6_28 : M28 a6 = some (.inl (dA 2, 301, .inl (fun _ => 0))) := by rw [eM28]; exact mm_uk hx_27 ha6_27 (by simp)
  have ha7_28 : M28 a7 = some (.inl (dA 2, 301, .inl (fun _ => 0))) := by rw [eM28]; exact mm_uk hx_27 ha7_27 (by simp)
  have ha8_28 : M28 a8 = some (.inl (dA 0, 10000, .inl (fun _ => 0))) := by rw [eM28]; exact mm_uk hx_27 ha8_27 (by simp)
  have ha9_28 : M28 a9 = some (.inl (dA 0, 41, .inl (fun _ => 0))) := by rw [eM28]; exact mm_uk hx_27 ha9_27 (by simp)
  have ha10_28 : M28 a10 = some (.inl (dA 2, 10000, .inl (fun _ => 0))) := by rw [eM28]; exact mm_uk hx_27 ha10_27 (by simp)
  have ha11_28 : M28 a11 = some (.inl (dA 1, 41, .inr (.inl (fun _ => 0)))) := by rw [eM28]; exact mm_uk hx_27 ha11_27 (by simp)
  have ha12_28 : M28 a12 = some (.inl (dA 0, 61, .inl (fun _ => 0))) := by rw [eM28]; exact mm_uk hx_27 ha12_27 (by simp)
  have ha13_28 : M28 a13 = some (.inl (dA 0, 61, .inl (fun _ => 0))) := by rw [eM28]; exact mm_uk hx_27 ha13_27 (by simp)
  have hx_28 : M28 x = some (.inr (9, [.int 0, .int 0, .int 0, .int 0, .int 0, .int 0, .ref a0, .ref a1, .ref a2, .ref a3, .ref a4, .ref a5, .ref a6, .ref a7, .ref a8, .ref a9, .ref a10, .ref a11, .ref a12, .ref a13, .null, .null])) := by rw [eM28]; exact mm_us
  refine lv_aload_n S.1 S.2.1 d_MO_init_123 rfl (lv_at hl 0 rfl) ?_
  refine lv_bipush (v := 61) S.1 S.2.1 d_MO_init_124 (by decide) ?_
  refine mm_newa (atype := .int) (ty := .int) (N' := 61) (a0 := (61, .inl (fun _ => 0))) S hK.1 hw 0 gw_46 rfl rfl ((hK.1.2 0 _ rfl).2) (fun _ => rfl) (by decide) (by decide) (by decide) (Nat.le_of_ble_eq_true rfl) (Nat.le_of_ble_eq_true rfl) (fun _ h => by cases h) d_MO_init_126 (fun a14 H hqa14 hw => ?_)
  obtain ⟨M29, eM29⟩ : ∃ zM : mm_M, zM = mm_up M28 a14 (.inl (dA 0, 61, .inl (fun _ => 0))) := ⟨_, rfl⟩
  have hw : mm_w D vC _ _ (mm_up M28 a14 (.inl (dA 0, 61, .inl (fun _ => 0)))) H _ := hw
  rw [← eM29] at hw
  have hx_29 : M29 x = some (.inr (9, [.int 0, .int 0, .int 0, .int 0, .int 0, .int 0, .ref a0, .ref a1, .ref a2, .ref a3, .ref a4, .ref a5, .ref a6, .ref a7, .ref a8, .ref a9, .ref a10, .ref a11, .ref a12, .ref a13, .null, .null])) := by rw [eM29]; exact mm_fk hqa14 hx_28
  have ha0_29 : M29 a0 = some (.inl (dA 0, 101, .inl (fun _ => 0))) := by rw [eM29]; exact mm_fk hqa14 ha0_28
  have ha1_29 : M29 a1 = some (.inl (dA 0, 101, .inl (fun _ => 0))) := by rw [eM29]; exact mm_fk hqa14 ha1_28
  have ha2_29 : M29 a2 = some (.inl (dA 0, 101, .inl (fun _ => 0))) := by rw [eM29]; exact mm_fk hqa14 ha2_28
  have ha3_29 : M29 a3 = some (.inl (dA 0, 1010, .inl (fun _ => 0))) := by rw [eM29]; exact mm_fk hqa14 ha3_28
  have ha4_29 : M29 a4 = some (.inl (dA 0, 301, .inl (fun _ => 0))) := by rw [eM29]; exact mm_fk hqa14 ha4_28
  have ha5_29 : M29 a5 = some (.inl (dA 0, 301, .inl (fun _ => 0))) := by rw [eM29]; exact mm_fk hqa14 ha5_28
  have ha6_29 : M29 a6 = some (.inl (dA 2, 301, .inl (fun _ => 0))) := by rw [eM29]; exact mm_fk hqa14 ha6_28
  have ha7_29 : M29 a7 = some (.inl (dA 2, 301, .inl (fun _ => 0))) := by rw [eM29]; exact mm_fk hqa14 ha7_28
  have ha8_29 : M29 a8 = some (.inl (dA 0, 10000, .inl (fun _ => 0))) := by rw [eM29]; exact mm_fk hqa14 ha8_28
  have ha9_29 : M29 a9 = some (.inl (dA 0, 41, .inl (fun _ => 0))) := by rw [eM29]; exact mm_fk hqa14 ha9_28
  have ha10_29 : M29 a10 = some (.inl (dA 2, 10000, .inl (fun _ => 0))) := by rw [eM29]; exact mm_fk hqa14 ha10_28
  have ha11_29 : M29 a11 = some (.inl (dA 1, 41, .inr (.inl (fun _ => 0)))) := by rw [eM29]; exact mm_fk hqa14 ha11_28
  have ha12_29 : M29 a12 = some (.inl (dA 0, 61, .inl (fun _ => 0))) := by rw [eM29]; exact mm_fk hqa14 ha12_28
  have ha13_29 : M29 a13 = some (.inl (dA 0, 61, .inl (fun _ => 0))) := by rw [eM29]; exact mm_fk hqa14 ha13_28
  have ha14_29 : M29 a14 = some (.inl (dA 0, 61, .inl (fun _ => 0))) := by rw [eM29]; exact mm_us
  have ne_a0_a14 : a0 ≠ a14 := fun h => by rw [h, hqa14] at ha0_28; cases ha0_28
  have ne_a1_a14 : a1 ≠ a14 := fun h => by rw [h, hqa14] at ha1_28; cases ha1_28
  have ne_a2_a14 : a2 ≠ a14 := fun h => by rw [h, hqa14] at ha2_28; cases ha2_28
  have ne_a3_a14 : a3 ≠ a14 := fun h => by rw [h, hqa14] at ha3_28; cases ha3_28
  have ne_a4_a14 : a4 ≠ a14 := fun h => by rw [h, hqa14] at ha4_28; cases ha4_28
  have ne_a5_a14 : a5 ≠ a14 := fun h => by rw [h, hqa14] at ha5_28; cases ha5_28
  have ne_a6_a14 : a6 ≠ a14 := fun h => by rw [h, hqa14] at ha6_28; cases ha6_28
  have ne_a7_a14 : a7 ≠ a14 := fun h => by rw [h, hqa14] at ha7_28; cases ha7_28
  have ne_a8_a14 : a8 ≠ a14 := fun h => by rw [h, hqa14] at ha8_28; cases ha8_28
  have ne_a9_a14 : a9 ≠ a14 := fun h => by rw [h, hqa14] at ha9_28; cases ha9_28
  have ne_a10_a14 : a10 ≠ a14 := fun h => by rw [h, hqa14] at ha10_28; cases ha10_28
  have ne_a11_a14 : a11 ≠ a14 := fun h => by rw [h, hqa14] at ha11_28; cases ha11_28
  have ne_a12_a14 : a12 ≠ a14 := fun h => by rw [h, hqa14] at ha12_28; cases ha12_28
  have ne_a13_a14 : a13 ≠ a14 := fun h => by rw [h, hqa14] at ha13_28; cases ha13_28
  refine mm_putF (C := R_MO) (T := T_MO) (N := 22) (ty := .array .int) (v := .ref a14) S hK.1 hw hx_29 rfl in_MO t_MO k_MO n_MO 20 (by decide) gw_390 rfl rfl hin rfl (by decide +kernel) (rfl) (rfl) (Nat.le_of_ble_eq_true rfl) d_MO_init_128 (fun H locs hw => ?_)
  obtain ⟨M30, eM30⟩ : ∃ zM : mm_M, zM = mm_up M29 x (.inr (9, [.int 0, .int 0, .int 0, .int 0, .int 0, .int 0, .ref a0, .ref a1, .ref a2, .ref a3, .ref a4, .ref a5, .ref a6, .ref a7, .ref a8, .ref a9, .ref a10, .ref a11, .ref a12, .ref a13, .ref a14, .null])) := ⟨_, rfl⟩
  have hw : mm_w D vC _ _ (mm_up M29 x (.inr (9, [.int 0, .int 0, .int 0, .int 0, .int 0, .int 0, .ref a0, .ref a1, .ref a2, .ref a3, .ref a4, .ref a5, .ref a6, .ref a7, .ref a8, .ref a9, .ref a10, .ref a11, .ref a12, .ref a13, .ref a14, .null]))) H _ := hw
  rw [← eM30] at hw
  have ha0_30 : M30 a0 = some (.inl (dA 0, 101, .inl (fun _ => 0))) := by rw [eM30]; exact mm_uk hx_29 ha0_29 (by simp)
  have ha1_30 : M30 a1 = some (.inl (dA 0, 101, .inl (fun _ => 0))) := by rw [eM30]; exact mm_uk hx_29 ha1_29 (by simp)
  have ha2_30 : M30 a2 = some (.inl (dA 0, 101, .inl (fun _ => 0))) := by rw [eM30]; exact mm_uk hx_29 ha2_29 (by simp)
  have ha3_30 : M30 a3 = some (.inl (dA 0, 1010, .inl (fun _ => 0))) := by rw [eM30]; exact mm_uk hx_29 ha3_29 (by simp)
  have ha4_30 : M30 a4 = some (.inl (dA 0, 301, .inl (fun _ => 0))) := by rw [eM30]; exact mm_uk hx_29 ha4_29 (by simp)
  have ha5_30 : M30 a5 = some (.inl (dA 0, 301, .inl (fun _ => 0))) := by rw [eM30]; exact mm_uk hx_29 ha5_29 (by simp)
  have ha6_30 : M30 a6 = some (.inl (dA 2, 301, .inl (fun _ => 0))) := by rw [eM30]; exact mm_uk hx_29 ha6_29 (by simp)
  have ha7_30 : M30 a7 = some (.inl (dA 2, 301, .inl (fun _ => 0))) := by rw [eM30]; exact mm_uk hx_29 ha7_29 (by simp)
  have ha8_30 : M30 a8 = some (.inl (dA 0, 10000, .inl (fun _ => 0))) := by rw [eM30]; exact mm_uk hx_29 ha8_29 (by simp)
  have ha9_30 : M30 a9 = some (.inl (dA 0, 41, .inl (fun _ => 0))) := by rw [eM30]; exact mm_uk hx_29 ha9_29 (by simp)
  have ha10_30 : M30 a10 = some (.inl (dA 2, 10000, .inl (fun _ => 0))) := by rw [eM30]; exact mm_uk hx_29 ha10_29 (by simp)
  have ha11_30 : M30 a11 = some (.inl (dA 1, 41, .inr (.inl (fun _ => 0)))) := by rw [eM30]; exact mm_uk hx_29 ha11_29 (by simp)
  have ha12_30 : M30 a12 = some (.inl (dA 0, 61, .inl (fun _ => 0))) := by rw [eM30]; exact mm_uk hx_29 ha12_29 (by simp)
  have ha13_30 : M30 a13 = some (.inl (dA 0, 61, .inl (fun _ => 0))) := by rw [eM30]; exact mm_uk hx_29 ha13_29 (by simp)
  have ha14_30 : M30 a14 = some (.inl (dA 0, 61, .inl (fun _ => 0))) := by rw [eM30]; exact mm_uk hx_29 ha14_29 (by simp)
  have hx_30 : M30 x = some (.inr (9, [.int 0, .int 0, .int 0, .int 0, .int 0, .int 0, .ref a0, .ref a1, .ref a2, .ref a3, .ref a4, .ref a5, .ref a6, .ref a7, .ref a8, .ref a9, .ref a10, .ref a11, .ref a12, .ref a13, .ref a14, .null])) := by rw [eM30]; exact mm_us
  refine lv_aload_n S.1 S.2.1 d_MO_init_131 rfl (lv_at hl 0 rfl) ?_
  refine lv_sipush (v := 250) S.1 S.2.1 d_MO_init_132 (by decide) ?_
  refine mm_newa (atype := .int) (ty := .int) (N' := 250) (a0 := (250, .inl (fun _ => 0))) S hK.1 hw 0 gw_46 rfl rfl ((hK.1.2 0 _ rfl).2) (fun _ => rfl) (by decide) (by decide) (by decide) (Nat.le_of_ble_eq_true rfl) (Nat.le_of_ble_eq_true rfl) (fun _ h => by cases h) d_MO_init_135 (fun a15 H hqa15 hw => ?_)
  obtain ⟨M31, eM31⟩ : ∃ zM : mm_M, zM = mm_up M30 a15 (.inl (dA 0, 250, .inl (fun _ => 0))) := ⟨_, rfl⟩
  have hw : mm_w D vC _ _ (mm_up M30 a15 (.inl (dA 0, 250, .inl (fun _ => 0)))) H _ := hw
  rw [← eM31] at hw
  have hx_31 : M31 x = some (.inr (9, [.int 0, .int 0, .int 0, .int 0, .int 0, .int 0, .ref a0, .ref a1, .ref a2, .ref a3, .ref a4, .ref a5, .ref a6, .ref a7, .ref a8, .ref a9, .ref a10, .ref a11, .ref a12, .ref a13, .ref a14, .null])) := by rw [eM31]; exact mm_fk hqa15 hx_30
  have ha0_31 : M31 a0 = some (.inl (dA 0, 101, .inl (fun _ => 0))) := by rw [eM31]; exact mm_fk hqa15 ha0_30
  have ha1_31 : M31 a1 = some (.inl (dA 0, 101, .inl (fun _ => 0))) := by rw [eM31]; exact mm_fk hqa15 ha1_30
  have ha2_31 : M31 a2 = some (.inl (dA 0, 101, .inl (fun _ => 0))) := by rw [eM31]; exact mm_fk hqa15 ha2_30
  have ha3_31 : M31 a3 = some (.inl (dA 0, 1010, .inl (fun _ => 0))) := by rw [eM31]; exact mm_fk hqa15 ha3_30
  have ha4_31 : M31 a4 = some (.inl (dA 0, 301, .inl (fun _ => 0))) := by rw [eM31]; exact mm_fk hqa15 ha4_30
  have ha5_31 : M31 a5 = some (.inl (dA 0, 301, .inl (fun _ => 0))) := by rw [eM31]; exact mm_fk hqa15 ha5_30
  have ha6_31 : M31 a6 = some (.inl (dA 2, 301, .inl (fun _ => 0))) := by rw [eM31]; exact mm_fk hqa15 ha6_30
  have ha7_31 : M31 a7 = some (.inl (dA 2, 301, .inl (fun _ => 0))) := by rw [eM31]; exact mm_fk hqa15 ha7_30
  have ha8_31 : M31 a8 = some (.inl (dA 0, 10000, .inl (fun _ => 0))) := by rw [eM31]; exact mm_fk hqa15 ha8_30
  have ha9_31 : M31 a9 = some (.inl (dA 0, 41, .inl (fun _ => 0))) := by rw [eM31]; exact mm_fk hqa15 ha9_30
  have ha10_31 : M31 a10 = some (.inl (dA 2, 10000, .inl (fun _ => 0))) := by rw [eM31]; exact mm_fk hqa15 ha10_30
  have ha11_31 : M31 a11 = some (.inl (dA 1, 41, .inr (.inl (fun _ => 0)))) := by rw [eM31]; exact mm_fk hqa15 ha11_30
  have ha12_31 : M31 a12 = some (.inl (dA 0, 61, .inl (fun _ => 0))) := by rw [eM31]; exact mm_fk hqa15 ha12_30
  have ha13_31 : M31 a13 = some (.inl (dA 0, 61, .inl (fun _ => 0))) := by rw [eM31]; exact mm_fk hqa15 ha13_30
  have ha14_31 : M31 a14 = some (.inl (dA 0, 61, .inl (fun _ => 0))) := by rw [eM31]; exact mm_fk hqa15 ha14_30
  have ha15_31 : M31 a15 = some (.inl (dA 0, 250, .inl (fun _ => 0))) := by rw [eM31]; exact mm_us
  have ne_a0_a15 : a0 ≠ a15 := fun h => by rw [h, hqa15] at ha0_30; cases ha0_30
  have ne_a1_a15 : a1 ≠ a15 := fun h => by rw [h, hqa15] at ha1_30; cases ha1_30
  have ne_a2_a15 : a2 ≠ a15 := fun h => by rw [h, hqa15] at ha2_30; cases ha2_30
  have ne_a3_a15 : a3 ≠ a15 := fun h => by rw [h, hqa15] at ha3_30; cases ha3_30
  have ne_a4_a15 : a4 ≠ a15 := fun h => by rw [h, hqa15] at ha4_30; cases ha4_30
  have ne_a5_a15 : a5 ≠ a15 := fun h => by rw [h, hqa15] at ha5_30; cases ha5_30
  have ne_a6_a15 : a6 ≠ a15 := fun h => by rw [h, hqa15] at ha6_30; cases ha6_30
  have ne_a7_a15 : a7 ≠ a15 := fun h => by rw [h, hqa15] at ha7_30; cases ha7_30
  have ne_a8_a15 : a8 ≠ a15 := fun h => by rw [h, hqa15] at ha8_30; cases ha8_30
  have ne_a9_a15 : a9 ≠ a15 := fun h => by rw [h, hqa15] at ha9_30; cases ha9_30
  have ne_a10_a15 : a10 ≠ a15 := fun h => by rw [h, hqa15] at ha10_30; cases ha10_30
  have ne_a11_a15 : a11 ≠ a15 := fun h => by rw [h, hqa15] at ha11_30; cases ha11_30
  have ne_a12_a15 : a12 ≠ a15 := fun h => by rw [h, hqa15] at ha12_30; cases ha12_30
  have ne_a13_a15 : a13 ≠ a15 := fun h => by rw [h, hqa15] at ha13_30; cases ha13_30
  have ne_a14_a15 : a14 ≠ a15 := fun h => by rw [h, hqa15] at ha14_30; cases ha14_30
  refine mm_putF (C := R_MO) (T := T_MO) (N := 22) (ty := .array .int) (v := .ref a15) S hK.1 hw hx_31 rfl in_MO t_MO k_MO n_MO 21 (by decide) gw_391 rfl rfl hin rfl (by decide +kernel) (rfl) (rfl) (Nat.le_of_ble_eq_true rfl) d_MO_init_137 (fun H locs hw => ?_)
  obtain ⟨M32, eM32⟩ : ∃ zM : mm_M, zM = mm_up M31 x (.inr (9, [.int 0, .int 0, .int 0, .int 0, .int 0, .int 0, .ref a0, .ref a1, .ref a2, .ref a3, .ref a4, .ref a5, .ref a6, .ref a7, .ref a8, .ref a9, .ref a10, .ref a11, .ref a12, .ref a13, .ref a14, .ref a15])) := ⟨_, rfl⟩
  have hw : mm_w D vC _ _ (mm_up M31 x (.inr (9, [.int 0, .int 0, .int 0, .int 0, .int 0, .int 0, .ref a0, .ref a1, .ref a2, .ref a3, .ref a4, .ref a5, .ref a6, .ref a7, .ref a8, .ref a9, .ref a10, .ref a11, .ref a12, .ref a13, .ref a14, .ref a15]))) H _ := hw
  rw [← eM32] at hw
  have ha0_32 : M32 a0 = some (.inl (dA 0, 101, .inl (fun _ => 0))) := by rw [eM32]; exact mm_uk hx_31 ha0_31 (by simp)
  have ha1_32 : M32 a1 = some (.inl (dA 0, 101, .inl (fun _ => 0))) := by rw [eM32]; exact mm_uk hx_31 ha1_31 (by simp)
  have ha2_32 : M32 a2 = some (.inl (dA 0, 101, .inl (fun _ => 0))) := by rw [eM32]; exact mm_uk hx_31 ha2_31 (by simp)
  have ha3_32 : M32 a3 = some (.inl (dA 0, 1010, .inl (fun _ => 0))) := by rw [eM32]; exact mm_uk hx_31 ha3_31 (by simp)
  have ha4_32 : M32 a4 = some (.inl (dA 0, 301, .inl (fun _ => 0))) := by rw [eM32]; exact mm_uk hx_31 ha4_31 (by simp)
  have ha5_32 : M32 a5 = some (.inl (dA 0, 301, .inl (fun _ => 0))) := by rw [eM32]; exact mm_uk hx_31 ha5_31 (by simp)
  have ha6_32 : M32 a6 = some (.inl (dA 2, 301, .inl (fun _ => 0))) := by rw [eM32]; exact mm_uk hx_31 ha6_31 (by simp)
  have ha7_32 : M32 a7 = some (.inl (dA 2, 301, .inl (fun _ => 0))) := by rw [eM32]; exact mm_uk hx_31 ha7_31 (by simp)
  have ha8_32 : M32 a8 = some (.inl (dA 0, 10000, .inl (fun _ => 0))) := by rw [eM32]; exact mm_uk hx_31 ha8_31 (by simp)
  have ha9_32 : M32 a9 = some (.inl (dA 0, 41, .inl (fun _ => 0))) := by rw [eM32]; exact mm_uk hx_31 ha9_31 (by simp)
  have ha10_32 : M32 a10 = some (.inl (dA 2, 10000, .inl (fun _ => 0))) := by rw [eM32]; exact mm_uk hx_31 ha10_31 (by simp)
  have ha11_32 : M32 a11 = some (.inl (dA 1, 41, .inr (.inl (fun _ => 0)))) := by rw [eM32]; exact mm_uk hx_31 ha11_31 (by simp)
  have ha12_32 : M32 a12 = some (.inl (dA 0, 61, .inl (fun _ => 0))) := by rw [eM32]; exact mm_uk hx_31 ha12_31 (by simp)
  have ha13_32 : M32 a13 = some (.inl (dA 0, 61, .inl (fun _ => 0))) := by rw [eM32]; exact mm_uk hx_31 ha13_31 (by simp)
  have ha14_32 : M32 a14 = some (.inl (dA 0, 61, .inl (fun _ => 0))) := by rw [eM32]; exact mm_uk hx_31 ha14_31 (by simp)
  have ha15_32 : M32 a15 = some (.inl (dA 0, 250, .inl (fun _ => 0))) := by rw [eM32]; exact mm_uk hx_31 ha15_31 (by simp)
  have hx_32 : M32 x = some (.inr (9, [.int 0, .int 0, .int 0, .int 0, .int 0, .int 0, .ref a0, .ref a1, .ref a2, .ref a3, .ref a4, .ref a5, .ref a6, .ref a7, .ref a8, .ref a9, .ref a10, .ref a11, .ref a12, .ref a13, .ref a14, .ref a15])) := by rw [eM32]; exact mm_us
  have hnd : [a0, a1, a2, a3, a4, a5, a6, a7, a8, a9, a10, a11, a12, a13, a14, a15].Nodup := by simp [ne_a0_a1, ne_a0_a2, ne_a0_a3, ne_a0_a4, ne_a0_a5, ne_a0_a6, ne_a0_a7, ne_a0_a8, ne_a0_a9, ne_a0_a10, ne_a0_a11, ne_a0_a12, ne_a0_a13, ne_a0_a14, ne_a0_a15, ne_a1_a2, ne_a1_a3, ne_a1_a4, ne_a1_a5, ne_a1_a6, ne_a1_a7, ne_a1_a8, ne_a1_a9, ne_a1_a10, ne_a1_a11, ne_a1_a12, ne_a1_a13, ne_a1_a14, ne_a1_a15, ne_a2_a3, ne_a2_a4, ne_a2_a5, ne_a2_a6, ne_a2_a7, ne_a2_a8, ne_a2_a9, ne_a2_a10, ne_a2_a11, ne_a2_a12, ne_a2_a13, ne_a2_a14, ne_a2_a15, ne_a3_a4, ne_a3_a5, ne_a3_a6, ne_a3_a7, ne_a3_a8, ne_a3_a9, ne_a3_a10, ne_a3_a11, ne_a3_a12, ne_a3_a13, ne_a3_a14, ne_a3_a15, ne_a4_a5, ne_a4_a6, ne_a4_a7, ne_a4_a8, ne_a4_a9, ne_a4_a10, ne_a4_a11, ne_a4_a12, ne_a4_a13, ne_a4_a14, ne_a4_a15, ne_a5_a6, ne_a5_a7, ne_a5_a8, ne_a5_a9, ne_a5_a10, ne_a5_a11, ne_a5_a12, ne_a5_a13, ne_a5_a14, ne_a5_a15, ne_a6_a7, ne_a6_a8, ne_a6_a9, ne_a6_a10, ne_a6_a11, ne_a6_a12, ne_a6_a13, ne_a6_a14, ne_a6_a15, ne_a7_a8, ne_a7_a9, ne_a7_a10, ne_a7_a11, ne_a7_a12, ne_a7_a13, ne_a7_a14, ne_a7_a15, ne_a8_a9, ne_a8_a10, ne_a8_a11, ne_a8_a12, ne_a8_a13, ne_a8_a14, ne_a8_a15, ne_a9_a10, ne_a9_a11, ne_a9_a12, ne_a9_a13, ne_a9_a14, ne_a9_a15, ne_a10_a11, ne_a10_a12, ne_a10_a13, ne_a10_a14, ne_a10_a15, ne_a11_a12, ne_a11_a13, ne_a11_a14, ne_a11_a15, ne_a12_a13, ne_a12_a14, ne_a12_a15, ne_a13_a14, ne_a13_a15, ne_a14_a15]
  have hP : mP dA M32 x (fun k => [a0, a1, a2, a3, a4, a5, a6, a7, a8, a9, a10, a11, a12, a13, a14, a15].getD k 0) (fun _ => 0) (fun _ _ => 0) (fun _ => 0) := ⟨fun i j hi hj e => nd_inj hnd hi hj e, hx_32, fun k hk h11 => match k, hk, h11 with
      | 0, _, _ => ha0_32
      | 1, _, _ => ha1_32
      | 2, _, _ => ha2_32
      | 3, _, _ => ha3_32
      | 4, _, _ => ha4_32
      | 5, _, _ => ha5_32
      | 6, _, _ => ha6_32
      | 7, _, _ => ha7_32
      | 8, _, _ => ha8_32
      | 9, _, _ => ha9_32
      | 10, _, _ => ha10_32
      | 11, _, h => absurd rfl h
      | 12, _, _ => ha12_32
      | 13, _, _ => ha13_32
      | 14, _, _ => ha14_32
      | 15, _, _ => ha15_32
      | k + 16, hk, _ => absurd hk (by omega), ha11_32⟩
  exact mm_retv S.1 S.2.1 hr hlocks hA hQ hw (⟨_, hP⟩) (Nat.le_of_ble_eq_true rfl) (Nat.le_of_ble_eq_true rfl) d_MO_init_140
