set_option maxRecDepth 100000 in
theorem i_X8_init_2 {d L : Nat} {xs : Nat → Int32} {Q : Option Value → PH → Prop} (hq : Q none (K8 L xs)) : Wp mX8_init (d + 1) 2 32 0 [some (.ref 2)] [] (K2 L xs) Q := by
  refine wp_aload_n dX8_init_0 rfl ?_
  refine wp_super dX8_init_1 lo_RX8_3 oi_in oi_co (Nat.le_of_ble_eq_true rfl) ?_
  refine wp_aload_n dX8_init_4 rfl ?_
  refine wp_bipush (v := 16) dX8_init_5 (by decide) ?_
  refine wp_anewarrayA (kc := 1) (ks := 16) (a := 3) (N := 16) (C := "CarriageHire$Horse") dX8_init_7 (Or.inl ⟨rfl, rfl⟩) cl_RX8_9 (by decide) (by decide) (by decide) (congrArg (· + 1) (hn_2 L xs)) ?_
  refine wp_heap (H' := (K3 L xs)) rfl ?_
  refine wp_puta dX8_init_10 fl_RX8_11 mf_RX8_11 rfl (hk_3_2 L xs) ?_
  refine wp_heap (H' := (K4 L xs)) rfl ?_
  refine wp_aload_n dX8_init_13 rfl ?_
  refine wp_bipush (v := 16) dX8_init_14 (by decide) ?_
  refine wp_newarrayA (kc := 0) (ks := 0) (a := 4) (N := 16) dX8_init_16 (Or.inl ⟨rfl, rfl⟩) ac_I (by decide) (by decide) (by decide) (congrArg (· + 1) (hn_4 L xs)) ?_
  refine wp_heap (H' := (K5 L xs)) rfl ?_
  refine wp_puta dX8_init_18 fl_RX8_17 mf_RX8_17 rfl (hk_5_2 L xs) ?_
  refine wp_heap (H' := (K6 L xs)) rfl ?_
  refine wp_aload_n dX8_init_21 rfl ?_
  refine wp_iconst (v := 5) dX8_init_22 (by decide) ?_
  refine wp_puti dX8_init_23 fl_RX8_21 (mp_8_3 _ _) rfl (hk_6_2 L xs) ?_
  refine wp_heap (H' := (K7 L xs)) rfl ?_
  refine wp_aload_n dX8_init_26 rfl ?_
  refine wp_iconst (v := 2) dX8_init_27 (by decide) ?_
  refine wp_puti dX8_init_28 fl_RX8_25 (mp_8_4 _ _) rfl (hk_7_2 L xs) ?_
  refine wp_heap (H' := (K8 L xs)) rfl ?_
  exact wp_return rfl dX8_init_31 hq
set_option maxRecDepth 100000 in
theorem i_X1_init_10 {d L : Nat} {xs : Nat → Int32} {Q : Option Value → PH → Prop} (hq : Q none (K17 L xs)) : Wp mX1_init (d + 1) 3 84 0 [some (.ref 5)] [] (K10 L xs) Q := by
  refine wp_aload_n dX1_init_0 rfl ?_
  refine wp_super dX1_init_1 lo_RX1_3 oi_in oi_co (Nat.le_of_ble_eq_true rfl) ?_
  refine wp_aload_n dX1_init_4 rfl ?_
  refine wp_bipush (v := 64) dX1_init_5 (by decide) ?_
  refine wp_newarrayA (kc := 2) (ks := 20) (a := 6) (N := 64) dX1_init_7 (Or.inl ⟨rfl, rfl⟩) ac_I (by decide) (by decide) (by decide) (congrArg (· + 1) (hn_10 L xs)) ?_
  refine wp_heap (H' := (K11 L xs)) rfl ?_
  refine wp_puta dX1_init_9 fl_RX1_9 mf_RX1_9 rfl (hk_11_5 L xs) ?_
  refine wp_heap (H' := (K12 L xs)) rfl ?_
  refine wp_aload_n dX1_init_12 rfl ?_
  refine wp_bipush (v := 10) dX1_init_13 (by decide) ?_
  refine wp_anewarrayA (kc := 1) (ks := 10) (a := 7) (N := 10) (C := "CarriageHire$Job") dX1_init_15 (Or.inr ⟨rfl, rfl⟩) cl_RX1_15 (by decide) (by decide) (by decide) (congrArg (· + 1) (hn_12 L xs)) ?_
  refine wp_heap (H' := (K13 L xs)) rfl ?_
  refine wp_puta dX1_init_18 fl_RX1_17 mf_RX1_17 rfl (hk_13_5 L xs) ?_
  refine wp_heap (H' := (K14 L xs)) rfl ?_
  refine wp_aload_n dX1_init_21 rfl ?_
  refine wp_bipush (v := 10) dX1_init_22 (by decide) ?_
  refine wp_newarrayA (kc := 0) (ks := 0) (a := 8) (N := 10) dX1_init_24 (Or.inl ⟨rfl, rfl⟩) ac_I (by decide) (by decide) (by decide) (congrArg (· + 1) (hn_14 L xs)) ?_
  refine wp_heap (H' := (K15 L xs)) rfl ?_
  refine wp_puta dX1_init_26 fl_RX1_21 mf_RX1_21 rfl (hk_15_5 L xs) ?_
  refine wp_heap (H' := (K16 L xs)) rfl ?_
  refine wp_aload_n dX1_init_29 rfl ?_
  refine wp_iconst (v := 2) dX1_init_30 (by decide) ?_
  refine wp_puti dX1_init_31 fl_RX1_24 (mp_1_4 _ _) rfl (hk_16_5 L xs) ?_
  refine wp_heap (H' := (K17 L xs)) rfl ?_
  exact wp_return rfl dX1_init_34 hq
set_option maxRecDepth 100000 in
theorem i_X4_init_19 {d L : Nat} {xs : Nat → Int32} {Q : Option Value → PH → Prop} (hq : Q none (K27 L xs)) : Wp mX4_init (d + 1) 3 2058 0 [some (.ref 9), some (.ref 5)] [] (K19 L xs) Q := by
  refine wp_aload_n dX4_init_0 rfl ?_
  refine wp_super dX4_init_1 lo_RX4_5 oi_in oi_co (Nat.le_of_ble_eq_true rfl) ?_
  refine wp_aload_n dX4_init_4 rfl ?_
  refine wp_sipush (v := 1024) dX4_init_5 (by decide) ?_
  refine wp_newarrayA (kc := 2) (ks := 1034) (a := 10) (N := 1024) dX4_init_8 (Or.inr (Or.inr (Or.inr ⟨rfl, rfl⟩))) ac_J (by decide) (by decide) (by decide) (congrArg (· + 1) (hn_19 L xs)) ?_
  refine wp_heap (H' := (K20 L xs)) rfl ?_
  refine wp_puta dX4_init_10 fl_RX4_11 mf_RX4_11 rfl (hk_20_9 L xs) ?_
  refine wp_heap (H' := (K21 L xs)) rfl ?_
  refine wp_aload_n dX4_init_13 rfl ?_
  refine wp_sipush (v := 1024) dX4_init_14 (by decide) ?_
  refine wp_newarrayA (kc := 1) (ks := 10) (a := 11) (N := 1024) dX4_init_17 (Or.inr (Or.inr (Or.inr ⟨rfl, rfl⟩))) ac_J (by decide) (by decide) (by decide) (congrArg (· + 1) (hn_21 L xs)) ?_
  refine wp_heap (H' := (K22 L xs)) rfl ?_
  refine wp_puta dX4_init_19 fl_RX4_15 mf_RX4_15 rfl (hk_22_9 L xs) ?_
  refine wp_heap (H' := (K23 L xs)) rfl ?_
  refine wp_aload_n dX4_init_22 rfl ?_
  refine wp_bipush (v := 10) dX4_init_23 (by decide) ?_
  refine wp_newarrayA (kc := 0) (ks := 0) (a := 12) (N := 10) dX4_init_25 (Or.inl ⟨rfl, rfl⟩) ac_I (by decide) (by decide) (by decide) (congrArg (· + 1) (hn_23 L xs)) ?_
  refine wp_heap (H' := (K24 L xs)) rfl ?_
  refine wp_puta dX4_init_27 fl_RX4_18 mf_RX4_18 rfl (hk_24_9 L xs) ?_
  refine wp_heap (H' := (K25 L xs)) rfl ?_
  refine wp_aload_n dX4_init_30 rfl ?_
  refine wp_iconst (v := -1) dX4_init_31 (by decide) ?_
  refine wp_puti dX4_init_32 fl_RX4_22 (mp_4_4 _ _) rfl (hk_25_9 L xs) ?_
  refine wp_heap (H' := (K26 L xs)) rfl ?_
  refine wp_aload_n dX4_init_35 rfl ?_
  refine wp_aload_n dX4_init_36 rfl ?_
  refine wp_puta dX4_init_37 fl_RX4_26 mf_RX4_26 rfl (hk_26_9 L xs) ?_
  refine wp_heap (H' := (K27 L xs)) rfl ?_
  exact wp_return rfl dX4_init_40 hq
set_option maxRecDepth 100000 in
theorem i_X10_init_29 {d L : Nat} {xs : Nat → Int32} {Q : Option Value → PH → Prop} (hq : Q none (K31 L xs)) : Wp mX10_init (d + 1) 0 0 0 [some (.ref 13), some (.ref 2), some (.ref 5)] [] (K29 L xs) Q := by
  refine wp_aload_n dX10_init_0 rfl ?_
  refine wp_super dX10_init_1 lo_RX10_3 oi_in oi_co (Nat.le_of_ble_eq_true rfl) ?_
  refine wp_aload_n dX10_init_4 rfl ?_
  refine wp_aload_n dX10_init_5 rfl ?_
  refine wp_puta dX10_init_6 fl_RX10_9 mf_RX10_9 rfl (hk_29_13 L xs) ?_
  refine wp_heap (H' := (K30 L xs)) rfl ?_
  refine wp_aload_n dX10_init_9 rfl ?_
  refine wp_aload_n dX10_init_10 rfl ?_
  refine wp_puta dX10_init_11 fl_RX10_15 mf_RX10_15 rfl (hk_30_13 L xs) ?_
  refine wp_heap (H' := (K31 L xs)) rfl ?_
  exact wp_return rfl dX10_init_14 hq
set_option maxRecDepth 100000 in
theorem i_X9_init_33 {d L : Nat} {xs : Nat → Int32} {Q : Option Value → PH → Prop} (hq : Q none (K35 L xs)) : Wp mX9_init (d + 1) 1 600 0 [some (.ref 14)] [] (K33 L xs) Q := by
  refine wp_aload_n dX9_init_0 rfl ?_
  refine wp_super dX9_init_1 lo_RX9_3 oi_in oi_co (Nat.le_of_ble_eq_true rfl) ?_
  refine wp_aload_n dX9_init_4 rfl ?_
  refine wp_sipush (v := 600) dX9_init_5 (by decide) ?_
  refine wp_newarrayA (kc := 0) (ks := 0) (a := 15) (N := 600) dX9_init_8 (Or.inr (Or.inl ⟨rfl, rfl⟩)) ac_B (by decide) (by decide) (by decide) (congrArg (· + 1) (hn_33 L xs)) ?_
  refine wp_heap (H' := (K34 L xs)) rfl ?_
  refine wp_puta dX9_init_10 fl_RX9_9 mf_RX9_9 rfl (hk_34_14 L xs) ?_
  refine wp_heap (H' := (K35 L xs)) rfl ?_
  exact wp_return rfl dX9_init_13 hq
set_option maxRecDepth 100000 in
theorem i_X6_init_37 {d L : Nat} {xs : Nat → Int32} {Q : Option Value → PH → Prop} (hq : Q none (K45 L xs)) : Wp mX6_init (d + 1) 3 620 0 [some (.ref 16), some (.ref 14)] [] (K37 L xs) Q := by
  refine wp_aload_n dX6_init_0 rfl ?_
  refine wp_super dX6_init_1 lo_RX6_3 oi_in oi_co (Nat.le_of_ble_eq_true rfl) ?_
  refine wp_aload_n dX6_init_4 rfl ?_
  refine wp_sipush (v := 600) dX6_init_5 (by decide) ?_
  refine wp_newarrayA (kc := 2) (ks := 20) (a := 17) (N := 600) dX6_init_8 (Or.inl ⟨rfl, rfl⟩) ac_I (by decide) (by decide) (by decide) (congrArg (· + 1) (hn_37 L xs)) ?_
  refine wp_heap (H' := (K38 L xs)) rfl ?_
  refine wp_puta dX6_init_10 fl_RX6_9 mf_RX6_9 rfl (hk_38_16 L xs) ?_
  refine wp_heap (H' := (K39 L xs)) rfl ?_
  refine wp_aload_n dX6_init_13 rfl ?_
  refine wp_bipush (v := 10) dX6_init_14 (by decide) ?_
  refine wp_newarrayA (kc := 1) (ks := 10) (a := 18) (N := 10) dX6_init_16 (Or.inl ⟨rfl, rfl⟩) ac_I (by decide) (by decide) (by decide) (congrArg (· + 1) (hn_39 L xs)) ?_
  refine wp_heap (H' := (K40 L xs)) rfl ?_
  refine wp_puta dX6_init_18 fl_RX6_15 mf_RX6_15 rfl (hk_40_16 L xs) ?_
  refine wp_heap (H' := (K41 L xs)) rfl ?_
  refine wp_aload_n dX6_init_21 rfl ?_
  refine wp_bipush (v := 10) dX6_init_22 (by decide) ?_
  refine wp_newarrayA (kc := 0) (ks := 0) (a := 19) (N := 10) dX6_init_24 (Or.inl ⟨rfl, rfl⟩) ac_I (by decide) (by decide) (by decide) (congrArg (· + 1) (hn_41 L xs)) ?_
  refine wp_heap (H' := (K42 L xs)) rfl ?_
  refine wp_puta dX6_init_26 fl_RX6_18 mf_RX6_18 rfl (hk_42_16 L xs) ?_
  refine wp_heap (H' := (K43 L xs)) rfl ?_
  refine wp_aload_n dX6_init_29 rfl ?_
  refine wp_iconst (v := -1) dX6_init_30 (by decide) ?_
  refine wp_puti dX6_init_31 fl_RX6_21 (mp_6_12 _ _) rfl (hk_43_16 L xs) ?_
  refine wp_heap (H' := (K44 L xs)) rfl ?_
  refine wp_aload_n dX6_init_34 rfl ?_
  refine wp_aload_n dX6_init_35 rfl ?_
  refine wp_puta dX6_init_36 fl_RX6_25 mf_RX6_25 rfl (hk_44_16 L xs) ?_
  refine wp_heap (H' := (K45 L xs)) rfl ?_
  exact wp_return rfl dX6_init_39 hq
set_option maxRecDepth 100000 in
theorem i_X7_init_47 {d L : Nat} {xs : Nat → Int32} {Q : Option Value → PH → Prop} (hq : Q none (K51 L xs)) : Wp mX7_init (d + 1) 2 106 0 [some (.ref 20)] [] (K47 L xs) Q := by
  refine wp_aload_n dX7_init_0 rfl ?_
  refine wp_super dX7_init_1 lo_RX7_3 oi_in oi_co (Nat.le_of_ble_eq_true rfl) ?_
  refine wp_aload_n dX7_init_4 rfl ?_
  refine wp_bipush (v := 100) dX7_init_5 (by decide) ?_
  refine wp_newarrayA (kc := 1) (ks := 6) (a := 21) (N := 100) dX7_init_7 (Or.inl ⟨rfl, rfl⟩) ac_I (by decide) (by decide) (by decide) (congrArg (· + 1) (hn_47 L xs)) ?_
  refine wp_heap (H' := (K48 L xs)) rfl ?_
  refine wp_puta dX7_init_9 fl_RX7_9 mf_RX7_9 rfl (hk_48_20 L xs) ?_
  refine wp_heap (H' := (K49 L xs)) rfl ?_
  refine wp_aload_n dX7_init_12 rfl ?_
  refine wp_bipush (v := 6) dX7_init_13 (by decide) ?_
  refine wp_newarrayA (kc := 0) (ks := 0) (a := 22) (N := 6) dX7_init_15 (Or.inl ⟨rfl, rfl⟩) ac_I (by decide) (by decide) (by decide) (congrArg (· + 1) (hn_49 L xs)) ?_
  refine wp_heap (H' := (K50 L xs)) rfl ?_
  refine wp_puta dX7_init_17 fl_RX7_15 mf_RX7_15 rfl (hk_50_20 L xs) ?_
  refine wp_heap (H' := (K51 L xs)) rfl ?_
  exact wp_return rfl dX7_init_20 hq
set_option maxRecDepth 100000 in
theorem i_X0_init_53 {d L : Nat} {xs : Nat → Int32} {Q : Option Value → PH → Prop} (hq : Q none (K63 L xs)) : Wp mX0_init (d + 1) 5 200 0 [some (.ref 23)] [] (K53 L xs) Q := by
  refine wp_aload_n dX0_init_0 rfl ?_
  refine wp_super dX0_init_1 lo_RX0_3 oi_in oi_co (Nat.le_of_ble_eq_true rfl) ?_
  refine wp_aload_n dX0_init_4 rfl ?_
  refine wp_bipush (v := 40) dX0_init_5 (by decide) ?_
  refine wp_newarrayA (kc := 4) (ks := 160) (a := 24) (N := 40) dX0_init_7 (Or.inl ⟨rfl, rfl⟩) ac_I (by decide) (by decide) (by decide) (congrArg (· + 1) (hn_53 L xs)) ?_
  refine wp_heap (H' := (K54 L xs)) rfl ?_
  refine wp_puta dX0_init_9 fl_RX0_11 mf_RX0_11 rfl (hk_54_23 L xs) ?_
  refine wp_heap (H' := (K55 L xs)) rfl ?_
  refine wp_aload_n dX0_init_12 rfl ?_
  refine wp_bipush (v := 40) dX0_init_13 (by decide) ?_
  refine wp_newarrayA (kc := 3) (ks := 120) (a := 25) (N := 40) dX0_init_15 (Or.inl ⟨rfl, rfl⟩) ac_I (by decide) (by decide) (by decide) (congrArg (· + 1) (hn_55 L xs)) ?_
  refine wp_heap (H' := (K56 L xs)) rfl ?_
  refine wp_puta dX0_init_17 fl_RX0_15 mf_RX0_15 rfl (hk_56_23 L xs) ?_
  refine wp_heap (H' := (K57 L xs)) rfl ?_
  refine wp_aload_n dX0_init_20 rfl ?_
  refine wp_bipush (v := 40) dX0_init_21 (by decide) ?_
  refine wp_newarrayA (kc := 2) (ks := 80) (a := 26) (N := 40) dX0_init_23 (Or.inl ⟨rfl, rfl⟩) ac_I (by decide) (by decide) (by decide) (congrArg (· + 1) (hn_57 L xs)) ?_
  refine wp_heap (H' := (K58 L xs)) rfl ?_
  refine wp_puta dX0_init_25 fl_RX0_18 mf_RX0_18 rfl (hk_58_23 L xs) ?_
  refine wp_heap (H' := (K59 L xs)) rfl ?_
  refine wp_aload_n dX0_init_28 rfl ?_
  refine wp_bipush (v := 40) dX0_init_29 (by decide) ?_
  refine wp_newarrayA (kc := 1) (ks := 40) (a := 27) (N := 40) dX0_init_31 (Or.inl ⟨rfl, rfl⟩) ac_I (by decide) (by decide) (by decide) (congrArg (· + 1) (hn_59 L xs)) ?_
  refine wp_heap (H' := (K60 L xs)) rfl ?_
  refine wp_puta dX0_init_33 fl_RX0_21 mf_RX0_21 rfl (hk_60_23 L xs) ?_
  refine wp_heap (H' := (K61 L xs)) rfl ?_
  refine wp_aload_n dX0_init_36 rfl ?_
  refine wp_bipush (v := 40) dX0_init_37 (by decide) ?_
  refine wp_newarrayA (kc := 0) (ks := 0) (a := 28) (N := 40) dX0_init_39 (Or.inl ⟨rfl, rfl⟩) ac_I (by decide) (by decide) (by decide) (congrArg (· + 1) (hn_61 L xs)) ?_
  refine wp_heap (H' := (K62 L xs)) rfl ?_
  refine wp_puta dX0_init_41 fl_RX0_24 mf_RX0_24 rfl (hk_62_23 L xs) ?_
  refine wp_heap (H' := (K63 L xs)) rfl ?_
  exact wp_return rfl dX0_init_44 hq
set_option maxRecDepth 100000 in
theorem i_X5_init_68 {d L : Nat} {xs : Nat → Int32} {Q : Option Value → PH → Prop} (hq : Q none (K71 L xs)) : Wp mX5_init (d + 1) 0 0 0 [some (.ref 29), some (.ref 30), some (.ref 31), some (.ref 32)] [] (K68 L xs) Q := by
  refine wp_aload_n dX5_init_0 rfl ?_
  refine wp_super dX5_init_1 lo_RX5_1 oi_in oi_co (Nat.le_of_ble_eq_true rfl) ?_
  refine wp_aload_n dX5_init_4 rfl ?_
  refine wp_aload_n dX5_init_5 rfl ?_
  refine wp_puta dX5_init_6 fl_RX5_7 mf_RX5_7 rfl (hk_68_29 L xs) ?_
  refine wp_heap (H' := (K69 L xs)) rfl ?_
  refine wp_aload_n dX5_init_9 rfl ?_
  refine wp_aload_n dX5_init_10 rfl ?_
  refine wp_puta dX5_init_11 fl_RX5_13 mf_RX5_13 rfl (hk_69_29 L xs) ?_
  refine wp_heap (H' := (K70 L xs)) rfl ?_
  refine wp_aload_n dX5_init_14 rfl ?_
  refine wp_aload_n dX5_init_15 rfl ?_
  refine wp_puta dX5_init_16 fl_RX5_16 mf_RX5_16 rfl (hk_70_29 L xs) ?_
  refine wp_heap (H' := (K71 L xs)) rfl ?_
  exact wp_return rfl dX5_init_19 hq
set_option maxRecDepth 100000 in
theorem i_X11_init_1 {d L : Nat} {xs : Nat → Int32} {Q : Option Value → PH → Prop} (hq : Q none (K72 L xs)) : Wp mX11_init (d + 2) 31 3748 0 [some (.ref 1)] [] (K1 L xs) Q := by
  refine wp_aload_n dX11_init_0 rfl ?_
  refine wp_super dX11_init_1 lo_RX11_1 oi_in oi_co (Nat.le_of_ble_eq_true rfl) ?_
  refine wp_aload_n dX11_init_4 rfl ?_
  refine wp_newA (kc := 30) (ks := 3743) (ci := 8) (a := 2) dX11_init_5 rfl cl_RX11_7 (congrArg (· + 1) (hn_1 L xs)) ?_
  refine wp_heap (H' := (K2 L xs)) rfl ?_
  refine wp_dup dX11_init_8 rfl ?_
  refine wp_calli0n (kc := 28) (ks := 3711) (mc := 2) (ms := 32) dX11_init_9 lk_RX11_9 ok_X8_init rfl im_X8_init rfl (Nat.le_of_ble_eq_true rfl) (Nat.le_of_ble_eq_true rfl) ?_
  refine i_X8_init_2 ?_
  refine wp_puta dX11_init_12 fl_RX11_10 mf_RX11_10 rfl (hk_8_1 L xs) ?_
  refine wp_heap (H' := (K9 L xs)) rfl ?_
  refine wp_aload_n dX11_init_15 rfl ?_
  refine wp_newA (kc := 27) (ks := 3705) (ci := 1) (a := 5) dX11_init_16 rfl cl_RX11_16 (congrArg (· + 1) (hn_9 L xs)) ?_
  refine wp_heap (H' := (K10 L xs)) rfl ?_
  refine wp_dup dX11_init_19 rfl ?_
  refine wp_calli0n (kc := 24) (ks := 3621) (mc := 3) (ms := 84) dX11_init_20 lk_RX11_18 ok_X1_init rfl im_X1_init rfl (Nat.le_of_ble_eq_true rfl) (Nat.le_of_ble_eq_true rfl) ?_
  refine i_X1_init_10 ?_
  refine wp_puta dX11_init_23 fl_RX11_19 mf_RX11_19 rfl (hk_17_1 L xs) ?_
  refine wp_heap (H' := (K18 L xs)) rfl ?_
  refine wp_aload_n dX11_init_26 rfl ?_
  refine wp_newA (kc := 23) (ks := 3614) (ci := 4) (a := 9) dX11_init_27 rfl cl_RX11_23 (congrArg (· + 1) (hn_18 L xs)) ?_
  refine wp_heap (H' := (K19 L xs)) rfl ?_
  refine wp_dup dX11_init_30 rfl ?_
  refine wp_aload_n dX11_init_31 rfl ?_
  refine wp_geta (q := 5) dX11_init_32 fl_RX11_19 rfl (hk_19_1 L xs) (hr_19_1_1 L xs) ?_
  refine wp_calli1n (kc := 20) (ks := 1556) (mc := 3) (ms := 2058) dX11_init_35 lk_RX11_25 ok_X4_init rfl im_X4_init rfl (Nat.le_of_ble_eq_true rfl) (Nat.le_of_ble_eq_true rfl) ?_
  refine i_X4_init_19 ?_
  refine wp_puta dX11_init_38 fl_RX11_28 mf_RX11_28 rfl (hk_27_1 L xs) ?_
  refine wp_heap (H' := (K28 L xs)) rfl ?_
  refine wp_aload_n dX11_init_41 rfl ?_
  refine wp_newA (kc := 19) (ks := 1553) (ci := 10) (a := 13) dX11_init_42 rfl cl_RX11_32 (congrArg (· + 1) (hn_28 L xs)) ?_
  refine wp_heap (H' := (K29 L xs)) rfl ?_
  refine wp_dup dX11_init_45 rfl ?_
  refine wp_aload_n dX11_init_46 rfl ?_
  refine wp_geta (q := 2) dX11_init_47 fl_RX11_10 rfl (hk_29_1 L xs) (hr_29_1_0 L xs) ?_
  refine wp_aload_n dX11_init_50 rfl ?_
  refine wp_geta (q := 5) dX11_init_51 fl_RX11_19 rfl (hk_29_1 L xs) (hr_29_1_1 L xs) ?_
  refine wp_calli2n (kc := 19) (ks := 1553) (mc := 0) (ms := 0) dX11_init_54 lk_RX11_34 ok_X10_init rfl im_X10_init rfl (Nat.le_of_ble_eq_true rfl) (Nat.le_of_ble_eq_true rfl) ?_
  refine i_X10_init_29 ?_
  refine wp_puta dX11_init_57 fl_RX11_37 mf_RX11_37 rfl (hk_31_1 L xs) ?_
  refine wp_heap (H' := (K32 L xs)) rfl ?_
  refine wp_aload_n dX11_init_60 rfl ?_
  refine wp_newA (kc := 18) (ks := 1551) (ci := 9) (a := 14) dX11_init_61 rfl cl_RX11_41 (congrArg (· + 1) (hn_32 L xs)) ?_
  refine wp_heap (H' := (K33 L xs)) rfl ?_
  refine wp_dup dX11_init_64 rfl ?_
  refine wp_calli0n (kc := 17) (ks := 951) (mc := 1) (ms := 600) dX11_init_65 lk_RX11_43 ok_X9_init rfl im_X9_init rfl (Nat.le_of_ble_eq_true rfl) (Nat.le_of_ble_eq_true rfl) ?_
  refine i_X9_init_33 ?_
  refine wp_puta dX11_init_68 fl_RX11_44 mf_RX11_44 rfl (hk_35_1 L xs) ?_
  refine wp_heap (H' := (K36 L xs)) rfl ?_
  refine wp_aload_n dX11_init_71 rfl ?_
  refine wp_newA (kc := 16) (ks := 938) (ci := 6) (a := 16) dX11_init_72 rfl cl_RX11_48 (congrArg (· + 1) (hn_36 L xs)) ?_
  refine wp_heap (H' := (K37 L xs)) rfl ?_
  refine wp_dup dX11_init_75 rfl ?_
  refine wp_aload_n dX11_init_76 rfl ?_
  refine wp_geta (q := 14) dX11_init_77 fl_RX11_44 rfl (hk_37_1 L xs) (hr_37_1_4 L xs) ?_
  refine wp_calli1n (kc := 13) (ks := 318) (mc := 3) (ms := 620) dX11_init_80 lk_RX11_50 ok_X6_init rfl im_X6_init rfl (Nat.le_of_ble_eq_true rfl) (Nat.le_of_ble_eq_true rfl) ?_
  refine i_X6_init_37 ?_
  refine wp_puta dX11_init_83 fl_RX11_53 mf_RX11_53 rfl (hk_45_1 L xs) ?_
  refine wp_heap (H' := (K46 L xs)) rfl ?_
  refine wp_aload_n dX11_init_86 rfl ?_
  refine wp_newA (kc := 12) (ks := 315) (ci := 7) (a := 20) dX11_init_87 rfl cl_RX11_57 (congrArg (· + 1) (hn_46 L xs)) ?_
  refine wp_heap (H' := (K47 L xs)) rfl ?_
  refine wp_dup dX11_init_90 rfl ?_
  refine wp_calli0n (kc := 10) (ks := 209) (mc := 2) (ms := 106) dX11_init_91 lk_RX11_59 ok_X7_init rfl im_X7_init rfl (Nat.le_of_ble_eq_true rfl) (Nat.le_of_ble_eq_true rfl) ?_
  refine i_X7_init_47 ?_
  refine wp_puta dX11_init_94 fl_RX11_60 mf_RX11_60 rfl (hk_51_1 L xs) ?_
  refine wp_heap (H' := (K52 L xs)) rfl ?_
  refine wp_aload_n dX11_init_97 rfl ?_
  refine wp_newA (kc := 9) (ks := 203) (ci := 0) (a := 23) dX11_init_98 rfl cl_RX11_64 (congrArg (· + 1) (hn_52 L xs)) ?_
  refine wp_heap (H' := (K53 L xs)) rfl ?_
  refine wp_dup dX11_init_101 rfl ?_
  refine wp_calli0n (kc := 4) (ks := 3) (mc := 5) (ms := 200) dX11_init_102 lk_RX11_66 ok_X0_init rfl im_X0_init rfl (Nat.le_of_ble_eq_true rfl) (Nat.le_of_ble_eq_true rfl) ?_
  refine i_X0_init_53 ?_
  refine wp_puta dX11_init_105 fl_RX11_67 mf_RX11_67 rfl (hk_63_1 L xs) ?_
  refine wp_heap (H' := (K64 L xs)) rfl ?_
  refine wp_aload_n dX11_init_108 rfl ?_
  refine wp_newA (kc := 3) (ks := 0) (ci := 5) (a := 29) dX11_init_109 rfl cl_RX11_71 (congrArg (· + 1) (hn_64 L xs)) ?_
  refine wp_heap (H' := (K65 L xs)) rfl ?_
  refine wp_dup dX11_init_112 rfl ?_
  refine wp_iconst (v := 0) dX11_init_113 (by decide) ?_
  refine wp_newarrayA (kc := 2) (ks := 0) (a := 30) (N := 0) dX11_init_114 (Or.inl ⟨rfl, rfl⟩) ac_I (by decide) (by decide) (by decide) (congrArg (· + 1) (hn_65 L xs)) ?_
  refine wp_heap (H' := (K66 L xs)) rfl ?_
  refine wp_iconst (v := 0) dX11_init_116 (by decide) ?_
  refine wp_newarrayA (kc := 1) (ks := 0) (a := 31) (N := 0) dX11_init_117 (Or.inl ⟨rfl, rfl⟩) ac_I (by decide) (by decide) (by decide) (congrArg (· + 1) (hn_66 L xs)) ?_
  refine wp_heap (H' := (K67 L xs)) rfl ?_
  refine wp_iconst (v := 0) dX11_init_119 (by decide) ?_
  refine wp_newarrayA (kc := 0) (ks := 0) (a := 32) (N := 0) dX11_init_120 (Or.inl ⟨rfl, rfl⟩) ac_I (by decide) (by decide) (by decide) (congrArg (· + 1) (hn_67 L xs)) ?_
  refine wp_heap (H' := (K68 L xs)) rfl ?_
  refine wp_calli3n (kc := 0) (ks := 0) (mc := 0) (ms := 0) dX11_init_122 lk_RX11_73 ok_X5_init rfl im_X5_init rfl (Nat.le_of_ble_eq_true rfl) (Nat.le_of_ble_eq_true rfl) ?_
  refine i_X5_init_68 ?_
  refine wp_puta dX11_init_125 fl_RX11_76 (mp_11_8 _ _) rfl (hk_71_1 L xs) ?_
  refine wp_heap (H' := (K72 L xs)) rfl ?_
  exact wp_return rfl dX11_init_128 hq
set_option maxRecDepth 100000 in
theorem i_X12_init_73 {d L : Nat} {xs : Nat → Int32} {Q : Option Value → PH → Prop} (hq : Q none (K149 L xs)) : Wp mX12_init (d + 1) 36 16466 0 [some (.ref 33)] [] (K73 L xs) Q := by
  refine wp_aload_n dX12_init_0 rfl ?_
  refine wp_super dX12_init_1 lo_RX12_1 oi_in oi_co (Nat.le_of_ble_eq_true rfl) ?_
  refine wp_aload_n dX12_init_4 rfl ?_
  refine wp_iconst (v := 5) dX12_init_5 (by decide) ?_
  refine wp_puti dX12_init_6 fl_RX12_7 (mp_12_1 _ _) rfl (hk_73_33 L xs) ?_
  refine wp_heap (H' := (K74 L xs)) rfl ?_
  refine wp_aload_n dX12_init_9 rfl ?_
  refine wp_iconst (v := 2) dX12_init_10 (by decide) ?_
  refine wp_puti dX12_init_11 fl_RX12_13 (mp_12_2 _ _) rfl (hk_74_33 L xs) ?_
  refine wp_heap (H' := (K75 L xs)) rfl ?_
  refine wp_aload_n dX12_init_14 rfl ?_
  refine wp_iconst (v := 2) dX12_init_15 (by decide) ?_
  refine wp_puti dX12_init_16 fl_RX12_16 (mp_12_3 _ _) rfl (hk_75_33 L xs) ?_
  refine wp_heap (H' := (K76 L xs)) rfl ?_
  refine wp_aload_n dX12_init_19 rfl ?_
  refine wp_bipush (v := 16) dX12_init_20 (by decide) ?_
  refine wp_newarrayA (kc := 35) (ks := 16450) (a := 34) (N := 16) dX12_init_22 (Or.inl ⟨rfl, rfl⟩) ac_I (by decide) (by decide) (by decide) (congrArg (· + 1) (hn_76 L xs)) ?_
  refine wp_heap (H' := (K77 L xs)) rfl ?_
  refine wp_puta dX12_init_24 fl_RX12_19 mf_RX12_19 rfl (hk_77_33 L xs) ?_
  refine wp_heap (H' := (K78 L xs)) rfl ?_
  refine wp_aload_n dX12_init_27 rfl ?_
  refine wp_bipush (v := 16) dX12_init_28 (by decide) ?_
  refine wp_newarrayA (kc := 34) (ks := 16434) (a := 35) (N := 16) dX12_init_30 (Or.inl ⟨rfl, rfl⟩) ac_I (by decide) (by decide) (by decide) (congrArg (· + 1) (hn_78 L xs)) ?_
  refine wp_heap (H' := (K79 L xs)) rfl ?_
  refine wp_puta dX12_init_32 fl_RX12_23 mf_RX12_23 rfl (hk_79_33 L xs) ?_
  refine wp_heap (H' := (K80 L xs)) rfl ?_
  refine wp_aload_n dX12_init_35 rfl ?_
  refine wp_bipush (v := 16) dX12_init_36 (by decide) ?_
  refine wp_newarrayA (kc := 33) (ks := 16418) (a := 36) (N := 16) dX12_init_38 (Or.inl ⟨rfl, rfl⟩) ac_I (by decide) (by decide) (by decide) (congrArg (· + 1) (hn_80 L xs)) ?_
  refine wp_heap (H' := (K81 L xs)) rfl ?_
  refine wp_puta dX12_init_40 fl_RX12_26 mf_RX12_26 rfl (hk_81_33 L xs) ?_
  refine wp_heap (H' := (K82 L xs)) rfl ?_
  refine wp_aload_n dX12_init_43 rfl ?_
  refine wp_bipush (v := 16) dX12_init_44 (by decide) ?_
  refine wp_newarrayA (kc := 32) (ks := 16402) (a := 37) (N := 16) dX12_init_46 (Or.inl ⟨rfl, rfl⟩) ac_I (by decide) (by decide) (by decide) (congrArg (· + 1) (hn_82 L xs)) ?_
  refine wp_heap (H' := (K83 L xs)) rfl ?_
  refine wp_puta dX12_init_48 fl_RX12_29 mf_RX12_29 rfl (hk_83_33 L xs) ?_
  refine wp_heap (H' := (K84 L xs)) rfl ?_
  refine wp_aload_n dX12_init_51 rfl ?_
  refine wp_bipush (v := 16) dX12_init_52 (by decide) ?_
  refine wp_newarrayA (kc := 31) (ks := 16386) (a := 38) (N := 16) dX12_init_54 (Or.inr (Or.inr (Or.inl ⟨rfl, rfl⟩))) ac_Z (by decide) (by decide) (by decide) (congrArg (· + 1) (hn_84 L xs)) ?_
  refine wp_heap (H' := (K85 L xs)) rfl ?_
  refine wp_puta dX12_init_56 fl_RX12_32 mf_RX12_32 rfl (hk_85_33 L xs) ?_
  refine wp_heap (H' := (K86 L xs)) rfl ?_
  refine wp_aload_n dX12_init_59 rfl ?_
  refine wp_bipush (v := 64) dX12_init_60 (by decide) ?_
  refine wp_newarrayA (kc := 30) (ks := 16322) (a := 39) (N := 64) dX12_init_62 (Or.inl ⟨rfl, rfl⟩) ac_I (by decide) (by decide) (by decide) (congrArg (· + 1) (hn_86 L xs)) ?_
  refine wp_heap (H' := (K87 L xs)) rfl ?_
  refine wp_puta dX12_init_64 fl_RX12_36 mf_RX12_36 rfl (hk_87_33 L xs) ?_
  refine wp_heap (H' := (K88 L xs)) rfl ?_
  refine wp_aload_n dX12_init_67 rfl ?_
  refine wp_bipush (v := 10) dX12_init_68 (by decide) ?_
  refine wp_newarrayA (kc := 29) (ks := 16312) (a := 40) (N := 10) dX12_init_70 (Or.inl ⟨rfl, rfl⟩) ac_I (by decide) (by decide) (by decide) (congrArg (· + 1) (hn_88 L xs)) ?_
  refine wp_heap (H' := (K89 L xs)) rfl ?_
  refine wp_puta dX12_init_72 fl_RX12_39 mf_RX12_39 rfl (hk_89_33 L xs) ?_
  refine wp_heap (H' := (K90 L xs)) rfl ?_
  refine wp_aload_n dX12_init_75 rfl ?_
  refine wp_bipush (v := 10) dX12_init_76 (by decide) ?_
  refine wp_newarrayA (kc := 28) (ks := 16302) (a := 41) (N := 10) dX12_init_78 (Or.inl ⟨rfl, rfl⟩) ac_I (by decide) (by decide) (by decide) (congrArg (· + 1) (hn_90 L xs)) ?_
  refine wp_heap (H' := (K91 L xs)) rfl ?_
  refine wp_puta dX12_init_80 fl_RX12_42 mf_RX12_42 rfl (hk_91_33 L xs) ?_
  refine wp_heap (H' := (K92 L xs)) rfl ?_
  refine wp_aload_n dX12_init_83 rfl ?_
  refine wp_bipush (v := 10) dX12_init_84 (by decide) ?_
  refine wp_newarrayA (kc := 27) (ks := 16292) (a := 42) (N := 10) dX12_init_86 (Or.inl ⟨rfl, rfl⟩) ac_I (by decide) (by decide) (by decide) (congrArg (· + 1) (hn_92 L xs)) ?_
  refine wp_heap (H' := (K93 L xs)) rfl ?_
  refine wp_puta dX12_init_88 fl_RX12_45 mf_RX12_45 rfl (hk_93_33 L xs) ?_
  refine wp_heap (H' := (K94 L xs)) rfl ?_
  refine wp_aload_n dX12_init_91 rfl ?_
  refine wp_bipush (v := 10) dX12_init_92 (by decide) ?_
  refine wp_newarrayA (kc := 26) (ks := 16282) (a := 43) (N := 10) dX12_init_94 (Or.inl ⟨rfl, rfl⟩) ac_I (by decide) (by decide) (by decide) (congrArg (· + 1) (hn_94 L xs)) ?_
  refine wp_heap (H' := (K95 L xs)) rfl ?_
  refine wp_puta dX12_init_96 fl_RX12_48 mf_RX12_48 rfl (hk_95_33 L xs) ?_
  refine wp_heap (H' := (K96 L xs)) rfl ?_
  refine wp_aload_n dX12_init_99 rfl ?_
  refine wp_bipush (v := 10) dX12_init_100 (by decide) ?_
  refine wp_newarrayA (kc := 25) (ks := 16272) (a := 44) (N := 10) dX12_init_102 (Or.inl ⟨rfl, rfl⟩) ac_I (by decide) (by decide) (by decide) (congrArg (· + 1) (hn_96 L xs)) ?_
  refine wp_heap (H' := (K97 L xs)) rfl ?_
  refine wp_puta dX12_init_104 fl_RX12_51 mf_RX12_51 rfl (hk_97_33 L xs) ?_
  refine wp_heap (H' := (K98 L xs)) rfl ?_
  refine wp_aload_n dX12_init_107 rfl ?_
  refine wp_bipush (v := 10) dX12_init_108 (by decide) ?_
  refine wp_newarrayA (kc := 24) (ks := 16262) (a := 45) (N := 10) dX12_init_110 (Or.inl ⟨rfl, rfl⟩) ac_I (by decide) (by decide) (by decide) (congrArg (· + 1) (hn_98 L xs)) ?_
  refine wp_heap (H' := (K99 L xs)) rfl ?_
  refine wp_puta dX12_init_112 fl_RX12_54 mf_RX12_54 rfl (hk_99_33 L xs) ?_
  refine wp_heap (H' := (K100 L xs)) rfl ?_
  refine wp_aload_n dX12_init_115 rfl ?_
  refine wp_bipush (v := 10) dX12_init_116 (by decide) ?_
  refine wp_newarrayA (kc := 23) (ks := 16252) (a := 46) (N := 10) dX12_init_118 (Or.inl ⟨rfl, rfl⟩) ac_I (by decide) (by decide) (by decide) (congrArg (· + 1) (hn_100 L xs)) ?_
  refine wp_heap (H' := (K101 L xs)) rfl ?_
  refine wp_puta dX12_init_120 fl_RX12_57 mf_RX12_57 rfl (hk_101_33 L xs) ?_
  refine wp_heap (H' := (K102 L xs)) rfl ?_
  refine wp_aload_n dX12_init_123 rfl ?_
  refine wp_bipush (v := 10) dX12_init_124 (by decide) ?_
  refine wp_newarrayA (kc := 22) (ks := 16242) (a := 47) (N := 10) dX12_init_126 (Or.inr (Or.inr (Or.inl ⟨rfl, rfl⟩))) ac_Z (by decide) (by decide) (by decide) (congrArg (· + 1) (hn_102 L xs)) ?_
  refine wp_heap (H' := (K103 L xs)) rfl ?_
  refine wp_puta dX12_init_128 fl_RX12_60 mf_RX12_60 rfl (hk_103_33 L xs) ?_
  refine wp_heap (H' := (K104 L xs)) rfl ?_
  refine wp_aload_n dX12_init_131 rfl ?_
  refine wp_sipush (v := 6600) dX12_init_132 (by decide) ?_
  refine wp_newarrayA (kc := 21) (ks := 9642) (a := 48) (N := 6600) dX12_init_135 (Or.inl ⟨rfl, rfl⟩) ac_I (by decide) (by decide) (by decide) (congrArg (· + 1) (hn_104 L xs)) ?_
  refine wp_heap (H' := (K105 L xs)) rfl ?_
  refine wp_puta dX12_init_137 fl_RX12_63 mf_RX12_63 rfl (hk_105_33 L xs) ?_
  refine wp_heap (H' := (K106 L xs)) rfl ?_
  refine wp_aload_n dX12_init_140 rfl ?_
  refine wp_sipush (v := 6600) dX12_init_141 (by decide) ?_
  refine wp_newarrayA (kc := 20) (ks := 3042) (a := 49) (N := 6600) dX12_init_144 (Or.inl ⟨rfl, rfl⟩) ac_I (by decide) (by decide) (by decide) (congrArg (· + 1) (hn_106 L xs)) ?_
  refine wp_heap (H' := (K107 L xs)) rfl ?_
  refine wp_puta dX12_init_146 fl_RX12_66 mf_RX12_66 rfl (hk_107_33 L xs) ?_
  refine wp_heap (H' := (K108 L xs)) rfl ?_
  refine wp_aload_n dX12_init_149 rfl ?_
  refine wp_sipush (v := 242) dX12_init_150 (by decide) ?_
  refine wp_newarrayA (kc := 19) (ks := 2800) (a := 50) (N := 242) dX12_init_153 (Or.inl ⟨rfl, rfl⟩) ac_I (by decide) (by decide) (by decide) (congrArg (· + 1) (hn_108 L xs)) ?_
  refine wp_heap (H' := (K109 L xs)) rfl ?_
  refine wp_puta dX12_init_155 fl_RX12_69 mf_RX12_69 rfl (hk_109_33 L xs) ?_
  refine wp_heap (H' := (K110 L xs)) rfl ?_
  refine wp_aload_n dX12_init_158 rfl ?_
  refine wp_bipush (v := 11) dX12_init_159 (by decide) ?_
  refine wp_newarrayA (kc := 18) (ks := 2789) (a := 51) (N := 11) dX12_init_161 (Or.inl ⟨rfl, rfl⟩) ac_I (by decide) (by decide) (by decide) (congrArg (· + 1) (hn_110 L xs)) ?_
  refine wp_heap (H' := (K111 L xs)) rfl ?_
  refine wp_puta dX12_init_163 fl_RX12_72 mf_RX12_72 rfl (hk_111_33 L xs) ?_
  refine wp_heap (H' := (K112 L xs)) rfl ?_
  refine wp_aload_n dX12_init_166 rfl ?_
  refine wp_bipush (v := 10) dX12_init_167 (by decide) ?_
  refine wp_newarrayA (kc := 17) (ks := 2779) (a := 52) (N := 10) dX12_init_169 (Or.inl ⟨rfl, rfl⟩) ac_I (by decide) (by decide) (by decide) (congrArg (· + 1) (hn_112 L xs)) ?_
  refine wp_heap (H' := (K113 L xs)) rfl ?_
  refine wp_puta dX12_init_171 fl_RX12_75 mf_RX12_75 rfl (hk_113_33 L xs) ?_
  refine wp_heap (H' := (K114 L xs)) rfl ?_
  refine wp_aload_n dX12_init_174 rfl ?_
  refine wp_bipush (v := 10) dX12_init_175 (by decide) ?_
  refine wp_newarrayA (kc := 16) (ks := 2769) (a := 53) (N := 10) dX12_init_177 (Or.inl ⟨rfl, rfl⟩) ac_I (by decide) (by decide) (by decide) (congrArg (· + 1) (hn_114 L xs)) ?_
  refine wp_heap (H' := (K115 L xs)) rfl ?_
  refine wp_puta dX12_init_179 fl_RX12_78 mf_RX12_78 rfl (hk_115_33 L xs) ?_
  refine wp_heap (H' := (K116 L xs)) rfl ?_
  refine wp_aload_n dX12_init_182 rfl ?_
  refine wp_bipush (v := 10) dX12_init_183 (by decide) ?_
  refine wp_newarrayA (kc := 15) (ks := 2759) (a := 54) (N := 10) dX12_init_185 (Or.inl ⟨rfl, rfl⟩) ac_I (by decide) (by decide) (by decide) (congrArg (· + 1) (hn_116 L xs)) ?_
  refine wp_heap (H' := (K117 L xs)) rfl ?_
  refine wp_puta dX12_init_187 fl_RX12_81 mf_RX12_81 rfl (hk_117_33 L xs) ?_
  refine wp_heap (H' := (K118 L xs)) rfl ?_
  refine wp_aload_n dX12_init_190 rfl ?_
  refine wp_bipush (v := 10) dX12_init_191 (by decide) ?_
  refine wp_newarrayA (kc := 14) (ks := 2749) (a := 55) (N := 10) dX12_init_193 (Or.inl ⟨rfl, rfl⟩) ac_I (by decide) (by decide) (by decide) (congrArg (· + 1) (hn_118 L xs)) ?_
  refine wp_heap (H' := (K119 L xs)) rfl ?_
  refine wp_puta dX12_init_195 fl_RX12_84 mf_RX12_84 rfl (hk_119_33 L xs) ?_
  refine wp_heap (H' := (K120 L xs)) rfl ?_
  refine wp_aload_n dX12_init_198 rfl ?_
  refine wp_bipush (v := 11) dX12_init_199 (by decide) ?_
  refine wp_newarrayA (kc := 13) (ks := 2738) (a := 56) (N := 11) dX12_init_201 (Or.inl ⟨rfl, rfl⟩) ac_I (by decide) (by decide) (by decide) (congrArg (· + 1) (hn_120 L xs)) ?_
  refine wp_heap (H' := (K121 L xs)) rfl ?_
  refine wp_puta dX12_init_203 fl_RX12_87 mf_RX12_87 rfl (hk_121_33 L xs) ?_
  refine wp_heap (H' := (K122 L xs)) rfl ?_
  refine wp_aload_n dX12_init_206 rfl ?_
  refine wp_bipush (v := 10) dX12_init_207 (by decide) ?_
  refine wp_newarrayA (kc := 12) (ks := 2728) (a := 57) (N := 10) dX12_init_209 (Or.inl ⟨rfl, rfl⟩) ac_I (by decide) (by decide) (by decide) (congrArg (· + 1) (hn_122 L xs)) ?_
  refine wp_heap (H' := (K123 L xs)) rfl ?_
  refine wp_puta dX12_init_211 fl_RX12_90 mf_RX12_90 rfl (hk_123_33 L xs) ?_
  refine wp_heap (H' := (K124 L xs)) rfl ?_
  refine wp_aload_n dX12_init_214 rfl ?_
  refine wp_sipush (v := 600) dX12_init_215 (by decide) ?_
  refine wp_newarrayA (kc := 11) (ks := 2128) (a := 58) (N := 600) dX12_init_218 (Or.inl ⟨rfl, rfl⟩) ac_I (by decide) (by decide) (by decide) (congrArg (· + 1) (hn_124 L xs)) ?_
  refine wp_heap (H' := (K125 L xs)) rfl ?_
  refine wp_puta dX12_init_220 fl_RX12_93 mf_RX12_93 rfl (hk_125_33 L xs) ?_
  refine wp_heap (H' := (K126 L xs)) rfl ?_
  refine wp_aload_n dX12_init_223 rfl ?_
  refine wp_sipush (v := 600) dX12_init_224 (by decide) ?_
  refine wp_newarrayA (kc := 10) (ks := 1528) (a := 59) (N := 600) dX12_init_227 (Or.inl ⟨rfl, rfl⟩) ac_I (by decide) (by decide) (by decide) (congrArg (· + 1) (hn_126 L xs)) ?_
  refine wp_heap (H' := (K127 L xs)) rfl ?_
  refine wp_puta dX12_init_229 fl_RX12_96 mf_RX12_96 rfl (hk_127_33 L xs) ?_
  refine wp_heap (H' := (K128 L xs)) rfl ?_
  refine wp_aload_n dX12_init_232 rfl ?_
  refine wp_bipush (v := 22) dX12_init_233 (by decide) ?_
  refine wp_newarrayA (kc := 9) (ks := 1506) (a := 60) (N := 22) dX12_init_235 (Or.inl ⟨rfl, rfl⟩) ac_I (by decide) (by decide) (by decide) (congrArg (· + 1) (hn_128 L xs)) ?_
  refine wp_heap (H' := (K129 L xs)) rfl ?_
  refine wp_puta dX12_init_237 fl_RX12_99 mf_RX12_99 rfl (hk_129_33 L xs) ?_
  refine wp_heap (H' := (K130 L xs)) rfl ?_
  refine wp_aload_n dX12_init_240 rfl ?_
  refine wp_sipush (v := 600) dX12_init_241 (by decide) ?_
  refine wp_newarrayA (kc := 8) (ks := 906) (a := 61) (N := 600) dX12_init_244 (Or.inl ⟨rfl, rfl⟩) ac_I (by decide) (by decide) (by decide) (congrArg (· + 1) (hn_130 L xs)) ?_
  refine wp_heap (H' := (K131 L xs)) rfl ?_
  refine wp_puta dX12_init_246 fl_RX12_102 mf_RX12_102 rfl (hk_131_33 L xs) ?_
  refine wp_heap (H' := (K132 L xs)) rfl ?_
  refine wp_aload_n dX12_init_249 rfl ?_
  refine wp_iconst (v := -1) dX12_init_250 (by decide) ?_
  refine wp_puti dX12_init_251 fl_RX12_105 (mp_12_42 _ _) rfl (hk_132_33 L xs) ?_
  refine wp_heap (H' := (K133 L xs)) rfl ?_
  refine wp_aload_n dX12_init_254 rfl ?_
  refine wp_sipush (v := 400) dX12_init_255 (by decide) ?_
  refine wp_newarrayA (kc := 7) (ks := 506) (a := 62) (N := 400) dX12_init_258 (Or.inl ⟨rfl, rfl⟩) ac_I (by decide) (by decide) (by decide) (congrArg (· + 1) (hn_133 L xs)) ?_
  refine wp_heap (H' := (K134 L xs)) rfl ?_
  refine wp_puta dX12_init_260 fl_RX12_108 mf_RX12_108 rfl (hk_134_33 L xs) ?_
  refine wp_heap (H' := (K135 L xs)) rfl ?_
  refine wp_aload_n dX12_init_263 rfl ?_
  refine wp_sipush (v := 300) dX12_init_264 (by decide) ?_
  refine wp_newarrayA (kc := 6) (ks := 206) (a := 63) (N := 300) dX12_init_267 (Or.inl ⟨rfl, rfl⟩) ac_I (by decide) (by decide) (by decide) (congrArg (· + 1) (hn_135 L xs)) ?_
  refine wp_heap (H' := (K136 L xs)) rfl ?_
  refine wp_puta dX12_init_269 fl_RX12_111 mf_RX12_111 rfl (hk_136_33 L xs) ?_
  refine wp_heap (H' := (K137 L xs)) rfl ?_
  refine wp_aload_n dX12_init_272 rfl ?_
  refine wp_bipush (v := 6) dX12_init_273 (by decide) ?_
  refine wp_newarrayA (kc := 5) (ks := 200) (a := 64) (N := 6) dX12_init_275 (Or.inl ⟨rfl, rfl⟩) ac_I (by decide) (by decide) (by decide) (congrArg (· + 1) (hn_137 L xs)) ?_
  refine wp_heap (H' := (K138 L xs)) rfl ?_
  refine wp_puta dX12_init_277 fl_RX12_114 mf_RX12_114 rfl (hk_138_33 L xs) ?_
  refine wp_heap (H' := (K139 L xs)) rfl ?_
  refine wp_aload_n dX12_init_280 rfl ?_
  refine wp_bipush (v := 40) dX12_init_281 (by decide) ?_
  refine wp_newarrayA (kc := 4) (ks := 160) (a := 65) (N := 40) dX12_init_283 (Or.inl ⟨rfl, rfl⟩) ac_I (by decide) (by decide) (by decide) (congrArg (· + 1) (hn_139 L xs)) ?_
  refine wp_heap (H' := (K140 L xs)) rfl ?_
  refine wp_puta dX12_init_285 fl_RX12_117 mf_RX12_117 rfl (hk_140_33 L xs) ?_
  refine wp_heap (H' := (K141 L xs)) rfl ?_
  refine wp_aload_n dX12_init_288 rfl ?_
  refine wp_bipush (v := 40) dX12_init_289 (by decide) ?_
  refine wp_newarrayA (kc := 3) (ks := 120) (a := 66) (N := 40) dX12_init_291 (Or.inl ⟨rfl, rfl⟩) ac_I (by decide) (by decide) (by decide) (congrArg (· + 1) (hn_141 L xs)) ?_
  refine wp_heap (H' := (K142 L xs)) rfl ?_
  refine wp_puta dX12_init_293 fl_RX12_120 mf_RX12_120 rfl (hk_142_33 L xs) ?_
  refine wp_heap (H' := (K143 L xs)) rfl ?_
  refine wp_aload_n dX12_init_296 rfl ?_
  refine wp_bipush (v := 40) dX12_init_297 (by decide) ?_
  refine wp_newarrayA (kc := 2) (ks := 80) (a := 67) (N := 40) dX12_init_299 (Or.inl ⟨rfl, rfl⟩) ac_I (by decide) (by decide) (by decide) (congrArg (· + 1) (hn_143 L xs)) ?_
  refine wp_heap (H' := (K144 L xs)) rfl ?_
  refine wp_puta dX12_init_301 fl_RX12_123 mf_RX12_123 rfl (hk_144_33 L xs) ?_
  refine wp_heap (H' := (K145 L xs)) rfl ?_
  refine wp_aload_n dX12_init_304 rfl ?_
  refine wp_bipush (v := 40) dX12_init_305 (by decide) ?_
  refine wp_newarrayA (kc := 1) (ks := 40) (a := 68) (N := 40) dX12_init_307 (Or.inl ⟨rfl, rfl⟩) ac_I (by decide) (by decide) (by decide) (congrArg (· + 1) (hn_145 L xs)) ?_
  refine wp_heap (H' := (K146 L xs)) rfl ?_
  refine wp_puta dX12_init_309 fl_RX12_126 mf_RX12_126 rfl (hk_146_33 L xs) ?_
  refine wp_heap (H' := (K147 L xs)) rfl ?_
  refine wp_aload_n dX12_init_312 rfl ?_
  refine wp_bipush (v := 40) dX12_init_313 (by decide) ?_
  refine wp_newarrayA (kc := 0) (ks := 0) (a := 69) (N := 40) dX12_init_315 (Or.inl ⟨rfl, rfl⟩) ac_I (by decide) (by decide) (by decide) (congrArg (· + 1) (hn_147 L xs)) ?_
  refine wp_heap (H' := (K148 L xs)) rfl ?_
  refine wp_puta dX12_init_317 fl_RX12_129 mf_RX12_129 rfl (hk_148_33 L xs) ?_
  refine wp_heap (H' := (K149 L xs)) rfl ?_
  exact wp_return rfl dX12_init_320 hq
