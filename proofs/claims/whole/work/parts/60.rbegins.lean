theorem RS0 {s1 s2 : Nat → Int32} {F : Nat → Nat → Int32} (h : F 3 0 = nI 0) (h2 : F 3 1 = nI 0) : RS false s1 false s2 F := ⟨h, h2, fun y => Bool.noConfusion y, fun y => Bool.noConfusion y⟩
theorem RP0 {t : Nat → Nat} {z : Nat → Int32} {F : Nat → Nat → Int32} (h : z 1 = nI 0) : RP t 0 z F := ⟨h, by omega, fun i hi => absurd hi (by omega)⟩
theorem RH0 {hs : Nat → Nat → Int32} {z : Nat → Int32} {F : Nat → Nat → Int32} (h : z 0 = nI 0) : RH 0 hs z F := ⟨h, by omega, fun i j hi _ => absurd hi (by omega)⟩
set_option maxRecDepth 100000 in
set_option maxHeartbeats 4000000 in
theorem c_X8_init (l : Launch) (g : fG) (N : Nat) (ct : Nat → va_E) (hN1 : N = 240) (hc : ct 239 = .inr (8, [.null, .null, .int 0, .null, .null, .null, .int 0, .null, .int 0, .null, .null, .null, .int 0, .int 0, .int 0, .int 0, .int 0, .int 0, .int 0])) : Met l yX8_init (wsU yX8_init cX8_init 1 none) rX8_init (fPre g N ct [.ref (fa g 239)]) (fQv g 249 (fun ct1 => RFAt g ct1 (sOpen 4) 0 (fun _ _ => 0) false (fun _ => 0) false (fun _ => 0) (fun _ => 0) 0 ∧ fSame 239 249 ct ct1)) 9 1233 (fB g) := by
  refine fs_start (own := RX8) (lv0 := [(0, .ref (fa g 239))]) (by decide) rfl (Nat.le_of_ble_eq_true rfl) rfl ?_
  intro p e s m args below meth c ls E hr hlk hnm hP hl hS
  have hx := E.1.1
  have hb := E.1.2.1
  subst hN1
  refine lv_aload_n hx hb dX8_init_0 rfl (lv_at hl 0 rfl) ?_
  refine W.objInit hx hb E.1.2.2.2.1 (E.1.2.2.2.2 _ (wm wl_4 (i := 23) rfl)) (E.1.2.2.2.2 _ (wm wl_1 (i := 11) rfl)) (E.1.2.2.2.2 _ (wm wl_1 (i := 12) rfl)) rfl (by rw [E.1.2.2.1]; exact hl.1) rfl dX8_init_1 (Nat.le_of_ble_eq_true rfl) (Nat.le_of_ble_eq_true rfl) ?_
  refine W.eq (g2 := F0 m 4 ls []) rfl ?_
  refine lv_aload_n hx hb dX8_init_4 rfl (lv_at hl 0 rfl) ?_
  refine lv_bipush (v := (nI 121)) hx hb dX8_init_5 (by decide) ?_
  refine fs_newaI E (N := 240) hP hS (k := 121) (wm wl_2 (i := 14) rfl) (by decide) (by decide) (by decide) (Nat.le_of_ble_eq_true rfl) (Nat.le_of_ble_eq_true rfl) dX8_init_7 (fun ct_1 H q_2 hP hS => ?_)
  have h_3 : ct_1 239 = .inr (8, [.null, .null, .int 0, .null, .null, .null, .int 0, .null, .int 0, .null, .null, .null, .int 0, .int 0, .int 0, .int 0, .int 0, .int 0, .int 0]) := by rw [q_2]; exact (fu_ne (by omega)).trans hc
  have h_4 : ct_1 240 = .inl (fcI g, 121, .inl (fun _ => 0)) := by rw [q_2]; exact fu_eq _ _ _
  refine fs_putF E hnm hP hS (k := 239) 0 fc8 h_3 (by omega) (by decide) (wm wl_5 (i := 0) rfl) rfl rfl rfl rfl rfl (Nat.le_of_ble_eq_true rfl) dX8_init_9 (fun ct_5 H locs q_6 hP hS => ?_)
  have h_7 : ct_5 239 = .inr (8, [.ref (fa g 240), .null, .int 0, .null, .null, .null, .int 0, .null, .int 0, .null, .null, .null, .int 0, .int 0, .int 0, .int 0, .int 0, .int 0, .int 0]) := by rw [q_6]; exact fu_eq _ _ _
  have h_8 : ct_5 240 = .inl (fcI g, 121, .inl (fun _ => 0)) := by rw [q_6]; exact (fu_ne (by omega)).trans h_4
  refine lv_aload_n hx hb dX8_init_12 rfl (lv_at hl 0 rfl) ?_
  refine lv_sipush (v := (nI 726)) hx hb dX8_init_13 (by decide) ?_
  refine fs_newaI E (N := 241) hP hS (k := 726) (wm wl_2 (i := 14) rfl) (by decide) (by decide) (by decide) (Nat.le_of_ble_eq_true rfl) (Nat.le_of_ble_eq_true rfl) dX8_init_16 (fun ct_9 H q_10 hP hS => ?_)
  have h_11 : ct_9 239 = .inr (8, [.ref (fa g 240), .null, .int 0, .null, .null, .null, .int 0, .null, .int 0, .null, .null, .null, .int 0, .int 0, .int 0, .int 0, .int 0, .int 0, .int 0]) := by rw [q_10]; exact (fu_ne (by omega)).trans h_7
  have h_12 : ct_9 240 = .inl (fcI g, 121, .inl (fun _ => 0)) := by rw [q_10]; exact (fu_ne (by omega)).trans h_8
  have h_13 : ct_9 241 = .inl (fcI g, 726, .inl (fun _ => 0)) := by rw [q_10]; exact fu_eq _ _ _
  refine fs_putF E hnm hP hS (k := 239) 1 fc8 h_11 (by omega) (by decide) (wm wl_5 (i := 1) rfl) rfl rfl rfl rfl rfl (Nat.le_of_ble_eq_true rfl) dX8_init_18 (fun ct_14 H locs q_15 hP hS => ?_)
  have h_16 : ct_14 239 = .inr (8, [.ref (fa g 240), .ref (fa g 241), .int 0, .null, .null, .null, .int 0, .null, .int 0, .null, .null, .null, .int 0, .int 0, .int 0, .int 0, .int 0, .int 0, .int 0]) := by rw [q_15]; exact fu_eq _ _ _
  have h_17 : ct_14 240 = .inl (fcI g, 121, .inl (fun _ => 0)) := by rw [q_15]; exact (fu_ne (by omega)).trans h_12
  have h_18 : ct_14 241 = .inl (fcI g, 726, .inl (fun _ => 0)) := by rw [q_15]; exact (fu_ne (by omega)).trans h_13
  refine lv_aload_n hx hb dX8_init_21 rfl (lv_at hl 0 rfl) ?_
  refine lv_sipush (v := (nI 242)) hx hb dX8_init_22 (by decide) ?_
  refine fs_newaI E (N := 242) hP hS (k := 242) (wm wl_2 (i := 14) rfl) (by decide) (by decide) (by decide) (Nat.le_of_ble_eq_true rfl) (Nat.le_of_ble_eq_true rfl) dX8_init_25 (fun ct_19 H q_20 hP hS => ?_)
  have h_21 : ct_19 239 = .inr (8, [.ref (fa g 240), .ref (fa g 241), .int 0, .null, .null, .null, .int 0, .null, .int 0, .null, .null, .null, .int 0, .int 0, .int 0, .int 0, .int 0, .int 0, .int 0]) := by rw [q_20]; exact (fu_ne (by omega)).trans h_16
  have h_22 : ct_19 240 = .inl (fcI g, 121, .inl (fun _ => 0)) := by rw [q_20]; exact (fu_ne (by omega)).trans h_17
  have h_23 : ct_19 241 = .inl (fcI g, 726, .inl (fun _ => 0)) := by rw [q_20]; exact (fu_ne (by omega)).trans h_18
  have h_24 : ct_19 242 = .inl (fcI g, 242, .inl (fun _ => 0)) := by rw [q_20]; exact fu_eq _ _ _
  refine fs_putF E hnm hP hS (k := 239) 3 fc8 h_21 (by omega) (by decide) (wm wl_5 (i := 2) rfl) rfl rfl rfl rfl rfl (Nat.le_of_ble_eq_true rfl) dX8_init_27 (fun ct_25 H locs q_26 hP hS => ?_)
  have h_27 : ct_25 239 = .inr (8, [.ref (fa g 240), .ref (fa g 241), .int 0, .ref (fa g 242), .null, .null, .int 0, .null, .int 0, .null, .null, .null, .int 0, .int 0, .int 0, .int 0, .int 0, .int 0, .int 0]) := by rw [q_26]; exact fu_eq _ _ _
  have h_28 : ct_25 240 = .inl (fcI g, 121, .inl (fun _ => 0)) := by rw [q_26]; exact (fu_ne (by omega)).trans h_22
  have h_29 : ct_25 241 = .inl (fcI g, 726, .inl (fun _ => 0)) := by rw [q_26]; exact (fu_ne (by omega)).trans h_23
  have h_30 : ct_25 242 = .inl (fcI g, 242, .inl (fun _ => 0)) := by rw [q_26]; exact (fu_ne (by omega)).trans h_24
  refine lv_aload_n hx hb dX8_init_30 rfl (lv_at hl 0 rfl) ?_
  refine lv_iconst (v := (nI 2)) hx hb dX8_init_31 (by decide) ?_
  refine fs_newaI E (N := 243) hP hS (k := 2) (wm wl_2 (i := 14) rfl) (by decide) (by decide) (by decide) (Nat.le_of_ble_eq_true rfl) (Nat.le_of_ble_eq_true rfl) dX8_init_32 (fun ct_31 H q_32 hP hS => ?_)
  have h_33 : ct_31 239 = .inr (8, [.ref (fa g 240), .ref (fa g 241), .int 0, .ref (fa g 242), .null, .null, .int 0, .null, .int 0, .null, .null, .null, .int 0, .int 0, .int 0, .int 0, .int 0, .int 0, .int 0]) := by rw [q_32]; exact (fu_ne (by omega)).trans h_27
  have h_34 : ct_31 240 = .inl (fcI g, 121, .inl (fun _ => 0)) := by rw [q_32]; exact (fu_ne (by omega)).trans h_28
  have h_35 : ct_31 241 = .inl (fcI g, 726, .inl (fun _ => 0)) := by rw [q_32]; exact (fu_ne (by omega)).trans h_29
  have h_36 : ct_31 242 = .inl (fcI g, 242, .inl (fun _ => 0)) := by rw [q_32]; exact (fu_ne (by omega)).trans h_30
  have h_37 : ct_31 243 = .inl (fcI g, 2, .inl (fun _ => 0)) := by rw [q_32]; exact fu_eq _ _ _
  refine fs_putF E hnm hP hS (k := 239) 4 fc8 h_33 (by omega) (by decide) (wm wl_5 (i := 3) rfl) rfl rfl rfl rfl rfl (Nat.le_of_ble_eq_true rfl) dX8_init_34 (fun ct_38 H locs q_39 hP hS => ?_)
  have h_40 : ct_38 239 = .inr (8, [.ref (fa g 240), .ref (fa g 241), .int 0, .ref (fa g 242), .ref (fa g 243), .null, .int 0, .null, .int 0, .null, .null, .null, .int 0, .int 0, .int 0, .int 0, .int 0, .int 0, .int 0]) := by rw [q_39]; exact fu_eq _ _ _
  have h_41 : ct_38 240 = .inl (fcI g, 121, .inl (fun _ => 0)) := by rw [q_39]; exact (fu_ne (by omega)).trans h_34
  have h_42 : ct_38 241 = .inl (fcI g, 726, .inl (fun _ => 0)) := by rw [q_39]; exact (fu_ne (by omega)).trans h_35
  have h_43 : ct_38 242 = .inl (fcI g, 242, .inl (fun _ => 0)) := by rw [q_39]; exact (fu_ne (by omega)).trans h_36
  have h_44 : ct_38 243 = .inl (fcI g, 2, .inl (fun _ => 0)) := by rw [q_39]; exact (fu_ne (by omega)).trans h_37
  refine lv_aload_n hx hb dX8_init_37 rfl (lv_at hl 0 rfl) ?_
  refine lv_bipush (v := (nI 60)) hx hb dX8_init_38 (by decide) ?_
  refine fs_newaI E (N := 244) hP hS (k := 60) (wm wl_2 (i := 14) rfl) (by decide) (by decide) (by decide) (Nat.le_of_ble_eq_true rfl) (Nat.le_of_ble_eq_true rfl) dX8_init_40 (fun ct_45 H q_46 hP hS => ?_)
  have h_47 : ct_45 239 = .inr (8, [.ref (fa g 240), .ref (fa g 241), .int 0, .ref (fa g 242), .ref (fa g 243), .null, .int 0, .null, .int 0, .null, .null, .null, .int 0, .int 0, .int 0, .int 0, .int 0, .int 0, .int 0]) := by rw [q_46]; exact (fu_ne (by omega)).trans h_40
  have h_48 : ct_45 240 = .inl (fcI g, 121, .inl (fun _ => 0)) := by rw [q_46]; exact (fu_ne (by omega)).trans h_41
  have h_49 : ct_45 241 = .inl (fcI g, 726, .inl (fun _ => 0)) := by rw [q_46]; exact (fu_ne (by omega)).trans h_42
  have h_50 : ct_45 242 = .inl (fcI g, 242, .inl (fun _ => 0)) := by rw [q_46]; exact (fu_ne (by omega)).trans h_43
  have h_51 : ct_45 243 = .inl (fcI g, 2, .inl (fun _ => 0)) := by rw [q_46]; exact (fu_ne (by omega)).trans h_44
  have h_52 : ct_45 244 = .inl (fcI g, 60, .inl (fun _ => 0)) := by rw [q_46]; exact fu_eq _ _ _
  refine fs_putF E hnm hP hS (k := 239) 5 fc8 h_47 (by omega) (by decide) (wm wl_5 (i := 4) rfl) rfl rfl rfl rfl rfl (Nat.le_of_ble_eq_true rfl) dX8_init_42 (fun ct_53 H locs q_54 hP hS => ?_)
  have h_55 : ct_53 239 = .inr (8, [.ref (fa g 240), .ref (fa g 241), .int 0, .ref (fa g 242), .ref (fa g 243), .ref (fa g 244), .int 0, .null, .int 0, .null, .null, .null, .int 0, .int 0, .int 0, .int 0, .int 0, .int 0, .int 0]) := by rw [q_54]; exact fu_eq _ _ _
  have h_56 : ct_53 240 = .inl (fcI g, 121, .inl (fun _ => 0)) := by rw [q_54]; exact (fu_ne (by omega)).trans h_48
  have h_57 : ct_53 241 = .inl (fcI g, 726, .inl (fun _ => 0)) := by rw [q_54]; exact (fu_ne (by omega)).trans h_49
  have h_58 : ct_53 242 = .inl (fcI g, 242, .inl (fun _ => 0)) := by rw [q_54]; exact (fu_ne (by omega)).trans h_50
  have h_59 : ct_53 243 = .inl (fcI g, 2, .inl (fun _ => 0)) := by rw [q_54]; exact (fu_ne (by omega)).trans h_51
  have h_60 : ct_53 244 = .inl (fcI g, 60, .inl (fun _ => 0)) := by rw [q_54]; exact (fu_ne (by omega)).trans h_52
  refine lv_aload_n hx hb dX8_init_45 rfl (lv_at hl 0 rfl) ?_
  refine lv_bipush (v := (nI 6)) hx hb dX8_init_46 (by decide) ?_
  refine fs_newaI E (N := 245) hP hS (k := 6) (wm wl_2 (i := 14) rfl) (by decide) (by decide) (by decide) (Nat.le_of_ble_eq_true rfl) (Nat.le_of_ble_eq_true rfl) dX8_init_48 (fun ct_61 H q_62 hP hS => ?_)
  have h_63 : ct_61 239 = .inr (8, [.ref (fa g 240), .ref (fa g 241), .int 0, .ref (fa g 242), .ref (fa g 243), .ref (fa g 244), .int 0, .null, .int 0, .null, .null, .null, .int 0, .int 0, .int 0, .int 0, .int 0, .int 0, .int 0]) := by rw [q_62]; exact (fu_ne (by omega)).trans h_55
  have h_64 : ct_61 240 = .inl (fcI g, 121, .inl (fun _ => 0)) := by rw [q_62]; exact (fu_ne (by omega)).trans h_56
  have h_65 : ct_61 241 = .inl (fcI g, 726, .inl (fun _ => 0)) := by rw [q_62]; exact (fu_ne (by omega)).trans h_57
  have h_66 : ct_61 242 = .inl (fcI g, 242, .inl (fun _ => 0)) := by rw [q_62]; exact (fu_ne (by omega)).trans h_58
  have h_67 : ct_61 243 = .inl (fcI g, 2, .inl (fun _ => 0)) := by rw [q_62]; exact (fu_ne (by omega)).trans h_59
  have h_68 : ct_61 244 = .inl (fcI g, 60, .inl (fun _ => 0)) := by rw [q_62]; exact (fu_ne (by omega)).trans h_60
  have h_69 : ct_61 245 = .inl (fcI g, 6, .inl (fun _ => 0)) := by rw [q_62]; exact fu_eq _ _ _
  refine fs_putF E hnm hP hS (k := 239) 7 fc8 h_63 (by omega) (by decide) (wm wl_5 (i := 5) rfl) rfl rfl rfl rfl rfl (Nat.le_of_ble_eq_true rfl) dX8_init_50 (fun ct_70 H locs q_71 hP hS => ?_)
  have h_72 : ct_70 239 = .inr (8, [.ref (fa g 240), .ref (fa g 241), .int 0, .ref (fa g 242), .ref (fa g 243), .ref (fa g 244), .int 0, .ref (fa g 245), .int 0, .null, .null, .null, .int 0, .int 0, .int 0, .int 0, .int 0, .int 0, .int 0]) := by rw [q_71]; exact fu_eq _ _ _
  have h_73 : ct_70 240 = .inl (fcI g, 121, .inl (fun _ => 0)) := by rw [q_71]; exact (fu_ne (by omega)).trans h_64
  have h_74 : ct_70 241 = .inl (fcI g, 726, .inl (fun _ => 0)) := by rw [q_71]; exact (fu_ne (by omega)).trans h_65
  have h_75 : ct_70 242 = .inl (fcI g, 242, .inl (fun _ => 0)) := by rw [q_71]; exact (fu_ne (by omega)).trans h_66
  have h_76 : ct_70 243 = .inl (fcI g, 2, .inl (fun _ => 0)) := by rw [q_71]; exact (fu_ne (by omega)).trans h_67
  have h_77 : ct_70 244 = .inl (fcI g, 60, .inl (fun _ => 0)) := by rw [q_71]; exact (fu_ne (by omega)).trans h_68
  have h_78 : ct_70 245 = .inl (fcI g, 6, .inl (fun _ => 0)) := by rw [q_71]; exact (fu_ne (by omega)).trans h_69
  refine lv_aload_n hx hb dX8_init_53 rfl (lv_at hl 0 rfl) ?_
  refine lv_bipush (v := (nI 36)) hx hb dX8_init_54 (by decide) ?_
  refine fs_newaI E (N := 246) hP hS (k := 36) (wm wl_2 (i := 14) rfl) (by decide) (by decide) (by decide) (Nat.le_of_ble_eq_true rfl) (Nat.le_of_ble_eq_true rfl) dX8_init_56 (fun ct_79 H q_80 hP hS => ?_)
  have h_81 : ct_79 239 = .inr (8, [.ref (fa g 240), .ref (fa g 241), .int 0, .ref (fa g 242), .ref (fa g 243), .ref (fa g 244), .int 0, .ref (fa g 245), .int 0, .null, .null, .null, .int 0, .int 0, .int 0, .int 0, .int 0, .int 0, .int 0]) := by rw [q_80]; exact (fu_ne (by omega)).trans h_72
  have h_82 : ct_79 240 = .inl (fcI g, 121, .inl (fun _ => 0)) := by rw [q_80]; exact (fu_ne (by omega)).trans h_73
  have h_83 : ct_79 241 = .inl (fcI g, 726, .inl (fun _ => 0)) := by rw [q_80]; exact (fu_ne (by omega)).trans h_74
  have h_84 : ct_79 242 = .inl (fcI g, 242, .inl (fun _ => 0)) := by rw [q_80]; exact (fu_ne (by omega)).trans h_75
  have h_85 : ct_79 243 = .inl (fcI g, 2, .inl (fun _ => 0)) := by rw [q_80]; exact (fu_ne (by omega)).trans h_76
  have h_86 : ct_79 244 = .inl (fcI g, 60, .inl (fun _ => 0)) := by rw [q_80]; exact (fu_ne (by omega)).trans h_77
  have h_87 : ct_79 245 = .inl (fcI g, 6, .inl (fun _ => 0)) := by rw [q_80]; exact (fu_ne (by omega)).trans h_78
  have h_88 : ct_79 246 = .inl (fcI g, 36, .inl (fun _ => 0)) := by rw [q_80]; exact fu_eq _ _ _
  refine fs_putF E hnm hP hS (k := 239) 9 fc8 h_81 (by omega) (by decide) (wm wl_5 (i := 6) rfl) rfl rfl rfl rfl rfl (Nat.le_of_ble_eq_true rfl) dX8_init_58 (fun ct_89 H locs q_90 hP hS => ?_)
  have h_91 : ct_89 239 = .inr (8, [.ref (fa g 240), .ref (fa g 241), .int 0, .ref (fa g 242), .ref (fa g 243), .ref (fa g 244), .int 0, .ref (fa g 245), .int 0, .ref (fa g 246), .null, .null, .int 0, .int 0, .int 0, .int 0, .int 0, .int 0, .int 0]) := by rw [q_90]; exact fu_eq _ _ _
  have h_92 : ct_89 240 = .inl (fcI g, 121, .inl (fun _ => 0)) := by rw [q_90]; exact (fu_ne (by omega)).trans h_82
  have h_93 : ct_89 241 = .inl (fcI g, 726, .inl (fun _ => 0)) := by rw [q_90]; exact (fu_ne (by omega)).trans h_83
  have h_94 : ct_89 242 = .inl (fcI g, 242, .inl (fun _ => 0)) := by rw [q_90]; exact (fu_ne (by omega)).trans h_84
  have h_95 : ct_89 243 = .inl (fcI g, 2, .inl (fun _ => 0)) := by rw [q_90]; exact (fu_ne (by omega)).trans h_85
  have h_96 : ct_89 244 = .inl (fcI g, 60, .inl (fun _ => 0)) := by rw [q_90]; exact (fu_ne (by omega)).trans h_86
  have h_97 : ct_89 245 = .inl (fcI g, 6, .inl (fun _ => 0)) := by rw [q_90]; exact (fu_ne (by omega)).trans h_87
  have h_98 : ct_89 246 = .inl (fcI g, 36, .inl (fun _ => 0)) := by rw [q_90]; exact (fu_ne (by omega)).trans h_88
  refine lv_aload_n hx hb dX8_init_61 rfl (lv_at hl 0 rfl) ?_
  refine lv_bipush (v := (nI 20)) hx hb dX8_init_62 (by decide) ?_
  refine fs_newaI E (N := 247) hP hS (k := 20) (wm wl_2 (i := 14) rfl) (by decide) (by decide) (by decide) (Nat.le_of_ble_eq_true rfl) (Nat.le_of_ble_eq_true rfl) dX8_init_64 (fun ct_99 H q_100 hP hS => ?_)
  have h_101 : ct_99 239 = .inr (8, [.ref (fa g 240), .ref (fa g 241), .int 0, .ref (fa g 242), .ref (fa g 243), .ref (fa g 244), .int 0, .ref (fa g 245), .int 0, .ref (fa g 246), .null, .null, .int 0, .int 0, .int 0, .int 0, .int 0, .int 0, .int 0]) := by rw [q_100]; exact (fu_ne (by omega)).trans h_91
  have h_102 : ct_99 240 = .inl (fcI g, 121, .inl (fun _ => 0)) := by rw [q_100]; exact (fu_ne (by omega)).trans h_92
  have h_103 : ct_99 241 = .inl (fcI g, 726, .inl (fun _ => 0)) := by rw [q_100]; exact (fu_ne (by omega)).trans h_93
  have h_104 : ct_99 242 = .inl (fcI g, 242, .inl (fun _ => 0)) := by rw [q_100]; exact (fu_ne (by omega)).trans h_94
  have h_105 : ct_99 243 = .inl (fcI g, 2, .inl (fun _ => 0)) := by rw [q_100]; exact (fu_ne (by omega)).trans h_95
  have h_106 : ct_99 244 = .inl (fcI g, 60, .inl (fun _ => 0)) := by rw [q_100]; exact (fu_ne (by omega)).trans h_96
  have h_107 : ct_99 245 = .inl (fcI g, 6, .inl (fun _ => 0)) := by rw [q_100]; exact (fu_ne (by omega)).trans h_97
  have h_108 : ct_99 246 = .inl (fcI g, 36, .inl (fun _ => 0)) := by rw [q_100]; exact (fu_ne (by omega)).trans h_98
  have h_109 : ct_99 247 = .inl (fcI g, 20, .inl (fun _ => 0)) := by rw [q_100]; exact fu_eq _ _ _
  refine fs_putF E hnm hP hS (k := 239) 10 fc8 h_101 (by omega) (by decide) (wm wl_5 (i := 7) rfl) rfl rfl rfl rfl rfl (Nat.le_of_ble_eq_true rfl) dX8_init_66 (fun ct_110 H locs q_111 hP hS => ?_)
  have h_112 : ct_110 239 = .inr (8, [.ref (fa g 240), .ref (fa g 241), .int 0, .ref (fa g 242), .ref (fa g 243), .ref (fa g 244), .int 0, .ref (fa g 245), .int 0, .ref (fa g 246), .ref (fa g 247), .null, .int 0, .int 0, .int 0, .int 0, .int 0, .int 0, .int 0]) := by rw [q_111]; exact fu_eq _ _ _
  have h_113 : ct_110 240 = .inl (fcI g, 121, .inl (fun _ => 0)) := by rw [q_111]; exact (fu_ne (by omega)).trans h_102
  have h_114 : ct_110 241 = .inl (fcI g, 726, .inl (fun _ => 0)) := by rw [q_111]; exact (fu_ne (by omega)).trans h_103
  have h_115 : ct_110 242 = .inl (fcI g, 242, .inl (fun _ => 0)) := by rw [q_111]; exact (fu_ne (by omega)).trans h_104
  have h_116 : ct_110 243 = .inl (fcI g, 2, .inl (fun _ => 0)) := by rw [q_111]; exact (fu_ne (by omega)).trans h_105
  have h_117 : ct_110 244 = .inl (fcI g, 60, .inl (fun _ => 0)) := by rw [q_111]; exact (fu_ne (by omega)).trans h_106
  have h_118 : ct_110 245 = .inl (fcI g, 6, .inl (fun _ => 0)) := by rw [q_111]; exact (fu_ne (by omega)).trans h_107
  have h_119 : ct_110 246 = .inl (fcI g, 36, .inl (fun _ => 0)) := by rw [q_111]; exact (fu_ne (by omega)).trans h_108
  have h_120 : ct_110 247 = .inl (fcI g, 20, .inl (fun _ => 0)) := by rw [q_111]; exact (fu_ne (by omega)).trans h_109
  refine lv_aload_n hx hb dX8_init_69 rfl (lv_at hl 0 rfl) ?_
  refine lv_bipush (v := (nI 20)) hx hb dX8_init_70 (by decide) ?_
  refine fs_newaI E (N := 248) hP hS (k := 20) (wm wl_2 (i := 14) rfl) (by decide) (by decide) (by decide) (Nat.le_of_ble_eq_true rfl) (Nat.le_of_ble_eq_true rfl) dX8_init_72 (fun ct_121 H q_122 hP hS => ?_)
  have h_123 : ct_121 239 = .inr (8, [.ref (fa g 240), .ref (fa g 241), .int 0, .ref (fa g 242), .ref (fa g 243), .ref (fa g 244), .int 0, .ref (fa g 245), .int 0, .ref (fa g 246), .ref (fa g 247), .null, .int 0, .int 0, .int 0, .int 0, .int 0, .int 0, .int 0]) := by rw [q_122]; exact (fu_ne (by omega)).trans h_112
  have h_124 : ct_121 240 = .inl (fcI g, 121, .inl (fun _ => 0)) := by rw [q_122]; exact (fu_ne (by omega)).trans h_113
  have h_125 : ct_121 241 = .inl (fcI g, 726, .inl (fun _ => 0)) := by rw [q_122]; exact (fu_ne (by omega)).trans h_114
  have h_126 : ct_121 242 = .inl (fcI g, 242, .inl (fun _ => 0)) := by rw [q_122]; exact (fu_ne (by omega)).trans h_115
  have h_127 : ct_121 243 = .inl (fcI g, 2, .inl (fun _ => 0)) := by rw [q_122]; exact (fu_ne (by omega)).trans h_116
  have h_128 : ct_121 244 = .inl (fcI g, 60, .inl (fun _ => 0)) := by rw [q_122]; exact (fu_ne (by omega)).trans h_117
  have h_129 : ct_121 245 = .inl (fcI g, 6, .inl (fun _ => 0)) := by rw [q_122]; exact (fu_ne (by omega)).trans h_118
  have h_130 : ct_121 246 = .inl (fcI g, 36, .inl (fun _ => 0)) := by rw [q_122]; exact (fu_ne (by omega)).trans h_119
  have h_131 : ct_121 247 = .inl (fcI g, 20, .inl (fun _ => 0)) := by rw [q_122]; exact (fu_ne (by omega)).trans h_120
  have h_132 : ct_121 248 = .inl (fcI g, 20, .inl (fun _ => 0)) := by rw [q_122]; exact fu_eq _ _ _
  refine fs_putF E hnm hP hS (k := 239) 11 fc8 h_123 (by omega) (by decide) (wm wl_5 (i := 8) rfl) rfl rfl rfl rfl rfl (Nat.le_of_ble_eq_true rfl) dX8_init_74 (fun ct_133 H locs q_134 hP hS => ?_)
  have h_135 : ct_133 239 = .inr (8, [.ref (fa g 240), .ref (fa g 241), .int 0, .ref (fa g 242), .ref (fa g 243), .ref (fa g 244), .int 0, .ref (fa g 245), .int 0, .ref (fa g 246), .ref (fa g 247), .ref (fa g 248), .int 0, .int 0, .int 0, .int 0, .int 0, .int 0, .int 0]) := by rw [q_134]; exact fu_eq _ _ _
  have h_136 : ct_133 240 = .inl (fcI g, 121, .inl (fun _ => 0)) := by rw [q_134]; exact (fu_ne (by omega)).trans h_124
  have h_137 : ct_133 241 = .inl (fcI g, 726, .inl (fun _ => 0)) := by rw [q_134]; exact (fu_ne (by omega)).trans h_125
  have h_138 : ct_133 242 = .inl (fcI g, 242, .inl (fun _ => 0)) := by rw [q_134]; exact (fu_ne (by omega)).trans h_126
  have h_139 : ct_133 243 = .inl (fcI g, 2, .inl (fun _ => 0)) := by rw [q_134]; exact (fu_ne (by omega)).trans h_127
  have h_140 : ct_133 244 = .inl (fcI g, 60, .inl (fun _ => 0)) := by rw [q_134]; exact (fu_ne (by omega)).trans h_128
  have h_141 : ct_133 245 = .inl (fcI g, 6, .inl (fun _ => 0)) := by rw [q_134]; exact (fu_ne (by omega)).trans h_129
  have h_142 : ct_133 246 = .inl (fcI g, 36, .inl (fun _ => 0)) := by rw [q_134]; exact (fu_ne (by omega)).trans h_130
  have h_143 : ct_133 247 = .inl (fcI g, 20, .inl (fun _ => 0)) := by rw [q_134]; exact (fu_ne (by omega)).trans h_131
  have h_144 : ct_133 248 = .inl (fcI g, 20, .inl (fun _ => 0)) := by rw [q_134]; exact (fu_ne (by omega)).trans h_132
  refine lv_aload_n hx hb dX8_init_77 rfl (lv_at hl 0 rfl) ?_
  refine lv_iconst (v := (nI 4)) hx hb dX8_init_78 (by decide) ?_
  have MA5 : MA g ct_133 (mkz 0 0 0 0 0 0 0 0 0 0) (mkF (fun _ => 0) (fun _ => 0) (fun _ => 0) (fun _ => 0) (fun _ => 0) (fun _ => 0) (fun _ => 0) (fun _ => 0) (fun _ => 0)) := ⟨h_135, h_136, h_137, h_138, h_139, h_140, h_141, h_142, h_143, h_144⟩
  refine fs_v (va_runV (As := [.int (nI 4)]) (rest := []) E.1 (c_X8_begins l g 249 ct_133 (mkz 0 0 0 0 0 0 0 0 0 0) (mkF (fun _ => 0) (fun _ => 0) (fun _ => 0) (fun _ => 0) (fun _ => 0) (fun _ => 0) (fun _ => 0) (fun _ => 0) (fun _ => 0)) (by omega) MA5 4 (by omega) (by omega)) (lk_RX8_37 E.1.2.2.2.2 ⟨Nat.le_of_ble_eq_true rfl, Nat.le_of_ble_eq_true rfl⟩) (fpreV E hP hS fc8 h_135 (by omega)) rfl rfl hl.1 rfl (lv_room (Nat.le_of_ble_eq_true rfl)) dX8_init_79 ⟨(Nat.le_of_ble_eq_true rfl), (Nat.le_of_ble_eq_true rfl)⟩) hS (fun ct_145 H locs p_79 hP hS => ?_)
  obtain ⟨fb5, eb5, hb5⟩ := p_79
  have M_146 := MA.f0 MA5 eb5
  have m_148o : ct_145 239 = .inr (8, [.ref (fa g 240), .ref (fa g 241), .int 0, .ref (fa g 242), .ref (fa g 243), .ref (fa g 244), .int 0, .ref (fa g 245), .int 0, .ref (fa g 246), .ref (fa g 247), .ref (fa g 248), .int 0, .int 0, .int 0, .int 0, .int 0, .int 0, .int 0]) := (M_146).1
  have m_148r0 : ct_145 240 = .inl (fcI g, 121, .inl fb5) := (M_146).2.1
  have m_148r1 : ct_145 241 = .inl (fcI g, 726, .inl (fun _ => 0)) := (M_146).2.2.1
  have m_148r2 : ct_145 242 = .inl (fcI g, 242, .inl (fun _ => 0)) := (M_146).2.2.2.1
  have m_148r3 : ct_145 243 = .inl (fcI g, 2, .inl (fun _ => 0)) := (M_146).2.2.2.2.1
  have m_148r4 : ct_145 244 = .inl (fcI g, 60, .inl (fun _ => 0)) := (M_146).2.2.2.2.2.1
  have m_148r5 : ct_145 245 = .inl (fcI g, 6, .inl (fun _ => 0)) := (M_146).2.2.2.2.2.2.1
  have m_148r6 : ct_145 246 = .inl (fcI g, 36, .inl (fun _ => 0)) := (M_146).2.2.2.2.2.2.2.1
  have m_148r7 : ct_145 247 = .inl (fcI g, 20, .inl (fun _ => 0)) := (M_146).2.2.2.2.2.2.2.2.1
  have m_148r8 : ct_145 248 = .inl (fcI g, 20, .inl (fun _ => 0)) := (M_146).2.2.2.2.2.2.2.2.2
  refine fs_vret E hr hlk hP hS dX8_init_82 ?_
  exact ⟨⟨_, _, M_146, hb5, RH0 rfl, RS0 rfl rfl, RP0 rfl⟩, (show fSame 239 249 _ _ from (fSame.ap (fSame.ap (fSame.ap (fSame.ap (fSame.ap (fSame.ap (fSame.ap (fSame.ap (fSame.ap (fSame.ap (fSame.ap (fSame.ap (fSame.ap (fSame.ap (fSame.ap (fSame.ap (fSame.ap (fSame.ap (fSame.ap fSame.rf q_2 (by omega) (by omega)) q_6 (by omega) (by omega)) q_10 (by omega) (by omega)) q_15 (by omega) (by omega)) q_20 (by omega) (by omega)) q_26 (by omega) (by omega)) q_32 (by omega) (by omega)) q_39 (by omega) (by omega)) q_46 (by omega) (by omega)) q_54 (by omega) (by omega)) q_62 (by omega) (by omega)) q_71 (by omega) (by omega)) q_80 (by omega) (by omega)) q_90 (by omega) (by omega)) q_100 (by omega) (by omega)) q_111 (by omega) (by omega)) q_122 (by omega) (by omega)) q_134 (by omega) (by omega)) eb5 (by omega) (by omega)))⟩
