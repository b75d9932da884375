set_option maxRecDepth 100000 in
theorem lk_RL_73 : Link RL 73 mX12_empty.1 := Or.inl (in_gwi 1243 (by decide +kernel) rfl)
set_option maxRecDepth 100000 in
theorem lk_RL_74 : Link RL 74 mX11_chains.1 := Or.inl (in_gwi 646 (by decide +kernel) rfl)
set_option maxRecDepth 100000 in
theorem lk_RL_77 : Link RL 77 mX12_chains.1 := Or.inl (in_gwi 1259 (by decide +kernel) rfl)
set_option maxRecDepth 100000 in
theorem lk_RL_78 : Link RL 78 mX11_chain.1 := Or.inl (in_gwi 650 (by decide +kernel) rfl)
set_option maxRecDepth 100000 in
theorem lk_RL_81 : Link RL 81 mX12_chain.1 := Or.inl (in_gwi 1263 (by decide +kernel) rfl)
set_option maxRecDepth 100000 in
theorem lk_RL_82 : Link RL 82 mX11_team.1 := Or.inl (in_gwi 658 (by decide +kernel) rfl)
set_option maxRecDepth 100000 in
theorem lk_RL_85 : Link RL 85 mX12_team.1 := Or.inl (in_gwi 1267 (by decide +kernel) rfl)
set_option maxRecDepth 100000 in
theorem lk_RL_86 : Link RL 86 mX11_right.1 := Or.inl (in_gwi 669 (by decide +kernel) rfl)
set_option maxRecDepth 100000 in
theorem lk_RL_89 : Link RL 89 mX12_right.1 := Or.inl (in_gwi 1283 (by decide +kernel) rfl)
set_option maxRecDepth 100000 in
theorem lk_RL_90 : Link RL 90 mX11_strength.1 := Or.inl (in_gwi 714 (by decide +kernel) rfl)
set_option maxRecDepth 100000 in
theorem lk_RL_93 : Link RL 93 mX12_strength.1 := Or.inl (in_gwi 1271 (by decide +kernel) rfl)
set_option maxRecDepth 100000 in
theorem lk_RL_94 : Link RL 94 mX11_standIn.1 := Or.inl (in_gwi 724 (by decide +kernel) rfl)
set_option maxRecDepth 100000 in
theorem lk_RL_97 : Link RL 97 mX12_standIn.1 := Or.inl (in_gwi 1291 (by decide +kernel) rfl)
set_option maxRecDepth 100000 in
theorem lk_RL_98 : Link RL 98 mX11_feed.1 := Or.inl (in_gwi 736 (by decide +kernel) rfl)
set_option maxRecDepth 100000 in
theorem lk_RL_102 : Link RL 102 mX12_feed.1 := Or.inl (in_gwi 1295 (by decide +kernel) rfl)
set_option maxRecDepth 100000 in
theorem lk_RL_103 : Link RL 103 mX11_end.1 := Or.inl (in_gwi 748 (by decide +kernel) rfl)
set_option maxRecDepth 100000 in
theorem lk_RL_106 : Link RL 106 mX12_end.1 := Or.inl (in_gwi 1303 (by decide +kernel) rfl)
set_option maxRecDepth 100000 in
theorem lk_RL_107 : Link RL 107 mX11_prices.1 := Or.inl (in_gwi 757 (by decide +kernel) rfl)
set_option maxRecDepth 100000 in
theorem lk_RL_110 : Link RL 110 mX12_prices.1 := Or.inl (in_gwi 1307 (by decide +kernel) rfl)
set_option maxRecDepth 100000 in
theorem lk_RL_111 : Link RL 111 mX11_fault.1 := Or.inl (in_gwi 875 (by decide +kernel) rfl)
set_option maxRecDepth 100000 in
theorem lk_RL_114 : Link RL 114 mX12_fault.1 := Or.inl (in_gwi 1387 (by decide +kernel) rfl)
set_option maxRecDepth 100000 in
theorem lk_RL_115 : Link RL 115 mX11_price.1 := Or.inl (in_gwi 879 (by decide +kernel) rfl)
set_option maxRecDepth 100000 in
theorem lk_RL_118 : Link RL 118 mX12_price.1 := Or.inl (in_gwi 1391 (by decide +kernel) rfl)
set_option maxRecDepth 100000 in
theorem lk_RL_119 : Link RL 119 mX11_broken.1 := Or.inl (in_gwi 914 (by decide +kernel) rfl)
set_option maxRecDepth 100000 in
theorem lk_RL_122 : Link RL 122 mX12_broken.1 := Or.inl (in_gwi 1399 (by decide +kernel) rfl)
set_option maxRecDepth 100000 in
theorem lk_RL_123 : Link RL 123 mX11_untell.1 := Or.inl (in_gwi 926 (by decide +kernel) rfl)
set_option maxRecDepth 100000 in
theorem lk_RL_126 : Link RL 126 mX12_untell.1 := Or.inl (in_gwi 1403 (by decide +kernel) rfl)
set_option maxRecDepth 100000 in
theorem lk_RL_127 : Link RL 127 mX11_whole.1 := Or.inl (in_gwi 934 (by decide +kernel) rfl)
set_option maxRecDepth 100000 in
theorem lk_RL_131 : Link RL 131 mX12_whole.1 := Or.inl (in_gwi 1407 (by decide +kernel) rfl)
set_option maxRecDepth 100000 in
theorem lk_RL_132 : Link RL 132 mX11_free.1 := Or.inl (in_gwi 946 (by decide +kernel) rfl)
set_option maxRecDepth 100000 in
theorem lk_RL_135 : Link RL 135 mX12_free.1 := Or.inl (in_gwi 1415 (by decide +kernel) rfl)
set_option maxRecDepth 100000 in
theorem lk_RL_136 : Link RL 136 mX11_about.1 := Or.inl (in_gwi 954 (by decide +kernel) rfl)
set_option maxRecDepth 100000 in
theorem lk_RL_139 : Link RL 139 mX12_about.1 := Or.inl (in_gwi 1419 (by decide +kernel) rfl)
set_option maxRecDepth 100000 in
theorem oi_in : Cond.instanceMethod objectInit ∈ gw := in_gw (by decide +kernel)
set_option maxRecDepth 100000 in
theorem oi_co : Cond.code objectInit ⟨#[0xb1]⟩ 1 none ∈ gw := in_gw (by decide +kernel)
set_option maxRecDepth 100000 in
theorem ac_nat : Cond.native arraycopyName ∈ gw := in_gw (by decide +kernel)
set_option maxRecDepth 100000 in
theorem ac_sta : Cond.static arraycopyName ∈ gw := in_gw (by decide +kernel)
set_option maxRecDepth 100000 in
theorem ac_ini : Cond.initialized "java/lang/System" ∈ gw := in_gw (by decide +kernel)
theorem mp_0_5 (y : MD) (idx : Nat) : MayPut y idx 0 5 := fun q h => by cases h; exact Or.inl rfl
theorem mp_1_3 (y : MD) (idx : Nat) : MayPut y idx 1 3 := fun q h => by cases h; exact Or.inl rfl
theorem mp_1_4 (y : MD) (idx : Nat) : MayPut y idx 1 4 := fun q h => by cases h; exact Or.inl rfl
theorem mp_1_5 (y : MD) (idx : Nat) : MayPut y idx 1 5 := fun q h => by cases h; exact Or.inl rfl
theorem mp_2_4 (y : MD) (idx : Nat) : MayPut y idx 2 4 := fun q h => by cases h; exact Or.inl rfl
theorem mp_3_7 (y : MD) (idx : Nat) : MayPut y idx 3 7 := fun q h => by cases h; exact Or.inl rfl
theorem mp_3_8 (y : MD) (idx : Nat) : MayPut y idx 3 8 := fun q h => by cases h; exact Or.inl rfl
theorem mp_4_4 (y : MD) (idx : Nat) : MayPut y idx 4 4 := fun q h => by cases h; exact Or.inl rfl
theorem mp_4_5 (y : MD) (idx : Nat) : MayPut y idx 4 5 := fun q h => by cases h; exact Or.inl rfl
theorem mp_4_6 (y : MD) (idx : Nat) : MayPut y idx 4 6 := fun q h => by cases h; exact Or.inl rfl
theorem mp_6_4 (y : MD) (idx : Nat) : MayPut y idx 6 4 := fun q h => by cases h; exact Or.inl rfl
theorem mp_6_5 (y : MD) (idx : Nat) : MayPut y idx 6 5 := fun q h => by cases h; exact Or.inl rfl
theorem mp_6_6 (y : MD) (idx : Nat) : MayPut y idx 6 6 := fun q h => by cases h; exact Or.inl rfl
theorem mp_6_7 (y : MD) (idx : Nat) : MayPut y idx 6 7 := fun q h => by cases h; exact Or.inl rfl
theorem mp_6_8 (y : MD) (idx : Nat) : MayPut y idx 6 8 := fun q h => by cases h; exact Or.inl rfl
theorem mp_6_9 (y : MD) (idx : Nat) : MayPut y idx 6 9 := fun q h => by cases h; exact Or.inl rfl
theorem mp_6_10 (y : MD) (idx : Nat) : MayPut y idx 6 10 := fun q h => by cases h; exact Or.inl rfl
theorem mp_6_11 (y : MD) (idx : Nat) : MayPut y idx 6 11 := fun q h => by cases h; exact Or.inl rfl
theorem mp_6_12 (y : MD) (idx : Nat) : MayPut y idx 6 12 := fun q h => by cases h; exact Or.inl rfl
theorem mp_7_2 (y : MD) (idx : Nat) : MayPut y idx 7 2 := fun q h => by cases h; exact Or.inl rfl
theorem mp_8_2 (y : MD) (idx : Nat) : MayPut y idx 8 2 := fun q h => by cases h; exact Or.inl rfl
theorem mp_8_3 (y : MD) (idx : Nat) : MayPut y idx 8 3 := fun q h => by cases h; exact Or.inl rfl
theorem mp_8_4 (y : MD) (idx : Nat) : MayPut y idx 8 4 := fun q h => by cases h; exact Or.inl rfl
theorem mp_9_1 (y : MD) (idx : Nat) : MayPut y idx 9 1 := fun q h => by cases h; exact Or.inl rfl
theorem mp_10_2 (y : MD) (idx : Nat) : MayPut y idx 10 2 := fun q h => by cases h; exact Or.inl rfl
theorem mp_11_8 (y : MD) (idx : Nat) : MayPut y idx 11 8 := fun q h => by cases h; exact Or.inl rfl
theorem mp_12_0 (y : MD) (idx : Nat) : MayPut y idx 12 0 := fun q h => by cases h; exact Or.inl rfl
theorem mp_12_1 (y : MD) (idx : Nat) : MayPut y idx 12 1 := fun q h => by cases h; exact Or.inl rfl
theorem mp_12_2 (y : MD) (idx : Nat) : MayPut y idx 12 2 := fun q h => by cases h; exact Or.inl rfl
theorem mp_12_3 (y : MD) (idx : Nat) : MayPut y idx 12 3 := fun q h => by cases h; exact Or.inl rfl
theorem mp_12_4 (y : MD) (idx : Nat) : MayPut y idx 12 4 := fun q h => by cases h; exact Or.inl rfl
theorem mp_12_11 (y : MD) (idx : Nat) : MayPut y idx 12 11 := fun q h => by cases h; exact Or.inl rfl
theorem mp_12_24 (y : MD) (idx : Nat) : MayPut y idx 12 24 := fun q h => by cases h; exact Or.inl rfl
theorem mp_12_25 (y : MD) (idx : Nat) : MayPut y idx 12 25 := fun q h => by cases h; exact Or.inl rfl
theorem mp_12_26 (y : MD) (idx : Nat) : MayPut y idx 12 26 := fun q h => by cases h; exact Or.inl rfl
theorem mp_12_36 (y : MD) (idx : Nat) : MayPut y idx 12 36 := fun q h => by cases h; exact Or.inl rfl
theorem mp_12_37 (y : MD) (idx : Nat) : MayPut y idx 12 37 := fun q h => by cases h; exact Or.inl rfl
theorem mp_12_38 (y : MD) (idx : Nat) : MayPut y idx 12 38 := fun q h => by cases h; exact Or.inl rfl
theorem mp_12_40 (y : MD) (idx : Nat) : MayPut y idx 12 40 := fun q h => by cases h; exact Or.inl rfl
theorem mp_12_41 (y : MD) (idx : Nat) : MayPut y idx 12 41 := fun q h => by cases h; exact Or.inl rfl
theorem mp_12_42 (y : MD) (idx : Nat) : MayPut y idx 12 42 := fun q h => by cases h; exact Or.inl rfl
theorem mp_12_43 (y : MD) (idx : Nat) : MayPut y idx 12 43 := fun q h => by cases h; exact Or.inl rfl
theorem mp_12_44 (y : MD) (idx : Nat) : MayPut y idx 12 44 := fun q h => by cases h; exact Or.inl rfl
theorem mp_12_45 (y : MD) (idx : Nat) : MayPut y idx 12 45 := fun q h => by cases h; exact Or.inl rfl
theorem mp_12_46 (y : MD) (idx : Nat) : MayPut y idx 12 46 := fun q h => by cases h; exact Or.inl rfl
theorem mp_12_47 (y : MD) (idx : Nat) : MayPut y idx 12 47 := fun q h => by cases h; exact Or.inl rfl
theorem mp_12_48 (y : MD) (idx : Nat) : MayPut y idx 12 48 := fun q h => by cases h; exact Or.inl rfl
theorem mp_12_50 (y : MD) (idx : Nat) : MayPut y idx 12 50 := fun q h => by cases h; exact Or.inl rfl
theorem mp_12_51 (y : MD) (idx : Nat) : MayPut y idx 12 51 := fun q h => by cases h; exact Or.inl rfl
theorem mp_12_54 (y : MD) (idx : Nat) : MayPut y idx 12 54 := fun q h => by cases h; exact Or.inl rfl
set_option maxRecDepth 100000 in
theorem mf_RX0_11 : MayPut mX0_init 11 0 0 := fun q h => by cases h; exact Or.inr ⟨rfl, rfl, rfl, in_gwi 286 (by decide +kernel) rfl⟩
set_option maxRecDepth 100000 in
theorem mf_RX0_15 : MayPut mX0_init 15 0 1 := fun q h => by cases h; exact Or.inr ⟨rfl, rfl, rfl, in_gwi 287 (by decide +kernel) rfl⟩
set_option maxRecDepth 100000 in
theorem mf_RX0_18 : MayPut mX0_init 18 0 2 := fun q h => by cases h; exact Or.inr ⟨rfl, rfl, rfl, in_gwi 288 (by decide +kernel) rfl⟩
set_option maxRecDepth 100000 in
theorem mf_RX0_21 : MayPut mX0_init 21 0 3 := fun q h => by cases h; exact Or.inr ⟨rfl, rfl, rfl, in_gwi 289 (by decide +kernel) rfl⟩
set_option maxRecDepth 100000 in
theorem mf_RX0_24 : MayPut mX0_init 24 0 4 := fun q h => by cases h; exact Or.inr ⟨rfl, rfl, rfl, in_gwi 290 (by decide +kernel) rfl⟩
set_option maxRecDepth 100000 in
theorem mf_RX1_9 : MayPut mX1_init 9 1 0 := fun q h => by cases h; exact Or.inr ⟨rfl, rfl, rfl, in_gwi 128 (by decide +kernel) rfl⟩
set_option maxRecDepth 100000 in
theorem mf_RX1_17 : MayPut mX1_init 17 1 1 := fun q h => by cases h; exact Or.inr ⟨rfl, rfl, rfl, in_gwi 129 (by decide +kernel) rfl⟩
set_option maxRecDepth 100000 in
theorem mf_RX1_21 : MayPut mX1_init 21 1 2 := fun q h => by cases h; exact Or.inr ⟨rfl, rfl, rfl, in_gwi 130 (by decide +kernel) rfl⟩
set_option maxRecDepth 100000 in
theorem mf_RX2_7 : MayPut mX2_init 7 2 0 := fun q h => by cases h; exact Or.inr ⟨rfl, rfl, rfl, in_gwi 369 (by decide +kernel) rfl⟩
set_option maxRecDepth 100000 in
theorem mf_RX2_13 : MayPut mX2_init 13 2 1 := fun q h => by cases h; exact Or.inr ⟨rfl, rfl, rfl, in_gwi 371 (by decide +kernel) rfl⟩
set_option maxRecDepth 100000 in
theorem mf_RX2_16 : MayPut mX2_init 16 2 2 := fun q h => by cases h; exact Or.inr ⟨rfl, rfl, rfl, in_gwi 373 (by decide +kernel) rfl⟩
set_option maxRecDepth 100000 in
theorem mf_RX2_19 : MayPut mX2_init 19 2 3 := fun q h => by cases h; exact Or.inr ⟨rfl, rfl, rfl, in_gwi 375 (by decide +kernel) rfl⟩
set_option maxRecDepth 100000 in
theorem mf_RX3_7 : MayPut mX3_init 7 3 0 := fun q h => by cases h; exact Or.inr ⟨rfl, rfl, rfl, in_gwi 496 (by decide +kernel) rfl⟩
set_option maxRecDepth 100000 in
theorem mf_RX3_13 : MayPut mX3_init 13 3 1 := fun q h => by cases h; exact Or.inr ⟨rfl, rfl, rfl, in_gwi 499 (by decide +kernel) rfl⟩
set_option maxRecDepth 100000 in
theorem mf_RX3_16 : MayPut mX3_init 16 3 2 := fun q h => by cases h; exact Or.inr ⟨rfl, rfl, rfl, in_gwi 503 (by decide +kernel) rfl⟩
set_option maxRecDepth 100000 in
theorem mf_RX3_19 : MayPut mX3_init 19 3 3 := fun q h => by cases h; exact Or.inr ⟨rfl, rfl, rfl, in_gwi 507 (by decide +kernel) rfl⟩
set_option maxRecDepth 100000 in
theorem mf_RX3_22 : MayPut mX3_init 22 3 4 := fun q h => by cases h; exact Or.inr ⟨rfl, rfl, rfl, in_gwi 511 (by decide +kernel) rfl⟩
set_option maxRecDepth 100000 in
theorem mf_RX3_25 : MayPut mX3_init 25 3 5 := fun q h => by cases h; exact Or.inr ⟨rfl, rfl, rfl, in_gwi 514 (by decide +kernel) rfl⟩
set_option maxRecDepth 100000 in
theorem mf_RX3_28 : MayPut mX3_init 28 3 6 := fun q h => by cases h; exact Or.inr ⟨rfl, rfl, rfl, in_gwi 517 (by decide +kernel) rfl⟩
set_option maxRecDepth 100000 in
theorem mf_RX4_11 : MayPut mX4_init 11 4 1 := fun q h => by cases h; exact Or.inr ⟨rfl, rfl, rfl, in_gwi 160 (by decide +kernel) rfl⟩
set_option maxRecDepth 100000 in
theorem mf_RX4_15 : MayPut mX4_init 15 4 2 := fun q h => by cases h; exact Or.inr ⟨rfl, rfl, rfl, in_gwi 161 (by decide +kernel) rfl⟩
set_option maxRecDepth 100000 in
theorem mf_RX4_18 : MayPut mX4_init 18 4 3 := fun q h => by cases h; exact Or.inr ⟨rfl, rfl, rfl, in_gwi 162 (by decide +kernel) rfl⟩
set_option maxRecDepth 100000 in
theorem mf_RX4_26 : MayPut mX4_init 26 4 0 := fun q h => by cases h; exact Or.inr ⟨rfl, rfl, rfl, in_gwi 159 (by decide +kernel) rfl⟩
set_option maxRecDepth 100000 in
theorem mf_RX5_7 : MayPut mX5_init 7 5 0 := fun q h => by cases h; exact Or.inr ⟨rfl, rfl, rfl, in_gwi 312 (by decide +kernel) rfl⟩
set_option maxRecDepth 100000 in
theorem mf_RX5_13 : MayPut mX5_init 13 5 1 := fun q h => by cases h; exact Or.inr ⟨rfl, rfl, rfl, in_gwi 314 (by decide +kernel) rfl⟩
set_option maxRecDepth 100000 in
theorem mf_RX5_16 : MayPut mX5_init 16 5 2 := fun q h => by cases h; exact Or.inr ⟨rfl, rfl, rfl, in_gwi 316 (by decide +kernel) rfl⟩
set_option maxRecDepth 100000 in
theorem mf_RX6_9 : MayPut mX6_init 9 6 1 := fun q h => by cases h; exact Or.inr ⟨rfl, rfl, rfl, in_gwi 223 (by decide +kernel) rfl⟩
set_option maxRecDepth 100000 in
theorem mf_RX6_15 : MayPut mX6_init 15 6 2 := fun q h => by cases h; exact Or.inr ⟨rfl, rfl, rfl, in_gwi 224 (by decide +kernel) rfl⟩
set_option maxRecDepth 100000 in
theorem mf_RX6_18 : MayPut mX6_init 18 6 3 := fun q h => by cases h; exact Or.inr ⟨rfl, rfl, rfl, in_gwi 225 (by decide +kernel) rfl⟩
set_option maxRecDepth 100000 in
theorem mf_RX6_25 : MayPut mX6_init 25 6 0 := fun q h => by cases h; exact Or.inr ⟨rfl, rfl, rfl, in_gwi 222 (by decide +kernel) rfl⟩
set_option maxRecDepth 100000 in
theorem mf_RX7_9 : MayPut mX7_init 9 7 0 := fun q h => by cases h; exact Or.inr ⟨rfl, rfl, rfl, in_gwi 270 (by decide +kernel) rfl⟩
set_option maxRecDepth 100000 in
theorem mf_RX7_15 : MayPut mX7_init 15 7 1 := fun q h => by cases h; exact Or.inr ⟨rfl, rfl, rfl, in_gwi 271 (by decide +kernel) rfl⟩
set_option maxRecDepth 100000 in
theorem mf_RX8_11 : MayPut mX8_init 11 8 0 := fun q h => by cases h; exact Or.inr ⟨rfl, rfl, rfl, in_gwi 101 (by decide +kernel) rfl⟩
set_option maxRecDepth 100000 in
theorem mf_RX8_17 : MayPut mX8_init 17 8 1 := fun q h => by cases h; exact Or.inr ⟨rfl, rfl, rfl, in_gwi 102 (by decide +kernel) rfl⟩
set_option maxRecDepth 100000 in
theorem mf_RX9_9 : MayPut mX9_init 9 9 0 := fun q h => by cases h; exact Or.inr ⟨rfl, rfl, rfl, in_gwi 206 (by decide +kernel) rfl⟩
set_option maxRecDepth 100000 in
theorem mf_RX10_9 : MayPut mX10_init 9 10 0 := fun q h => by cases h; exact Or.inr ⟨rfl, rfl, rfl, in_gwi 190 (by decide +kernel) rfl⟩
set_option maxRecDepth 100000 in
theorem mf_RX10_15 : MayPut mX10_init 15 10 1 := fun q h => by cases h; exact Or.inr ⟨rfl, rfl, rfl, in_gwi 191 (by decide +kernel) rfl⟩
set_option maxRecDepth 100000 in
theorem mf_RX11_10 : MayPut mX11_init 10 11 0 := fun q h => by cases h; exact Or.inr ⟨rfl, rfl, rfl, in_gwi 325 (by decide +kernel) rfl⟩
set_option maxRecDepth 100000 in
theorem mf_RX11_19 : MayPut mX11_init 19 11 1 := fun q h => by cases h; exact Or.inr ⟨rfl, rfl, rfl, in_gwi 326 (by decide +kernel) rfl⟩
set_option maxRecDepth 100000 in
theorem mf_RX11_28 : MayPut mX11_init 28 11 2 := fun q h => by cases h; exact Or.inr ⟨rfl, rfl, rfl, in_gwi 327 (by decide +kernel) rfl⟩
set_option maxRecDepth 100000 in
theorem mf_RX11_37 : MayPut mX11_init 37 11 3 := fun q h => by cases h; exact Or.inr ⟨rfl, rfl, rfl, in_gwi 328 (by decide +kernel) rfl⟩
set_option maxRecDepth 100000 in
theorem mf_RX11_44 : MayPut mX11_init 44 11 4 := fun q h => by cases h; exact Or.inr ⟨rfl, rfl, rfl, in_gwi 329 (by decide +kernel) rfl⟩
set_option maxRecDepth 100000 in
theorem mf_RX11_53 : MayPut mX11_init 53 11 5 := fun q h => by cases h; exact Or.inr ⟨rfl, rfl, rfl, in_gwi 330 (by decide +kernel) rfl⟩
set_option maxRecDepth 100000 in
theorem mf_RX11_60 : MayPut mX11_init 60 11 6 := fun q h => by cases h; exact Or.inr ⟨rfl, rfl, rfl, in_gwi 331 (by decide +kernel) rfl⟩
set_option maxRecDepth 100000 in
theorem mf_RX11_67 : MayPut mX11_init 67 11 7 := fun q h => by cases h; exact Or.inr ⟨rfl, rfl, rfl, in_gwi 332 (by decide +kernel) rfl⟩
set_option maxRecDepth 100000 in
theorem mf_RX12_19 : MayPut mX12_init 19 12 5 := fun q h => by cases h; exact Or.inr ⟨rfl, rfl, rfl, in_gwi 969 (by decide +kernel) rfl⟩
set_option maxRecDepth 100000 in
theorem mf_RX12_23 : MayPut mX12_init 23 12 6 := fun q h => by cases h; exact Or.inr ⟨rfl, rfl, rfl, in_gwi 970 (by decide +kernel) rfl⟩
set_option maxRecDepth 100000 in
theorem mf_RX12_26 : MayPut mX12_init 26 12 7 := fun q h => by cases h; exact Or.inr ⟨rfl, rfl, rfl, in_gwi 971 (by decide +kernel) rfl⟩
set_option maxRecDepth 100000 in
theorem mf_RX12_29 : MayPut mX12_init 29 12 8 := fun q h => by cases h; exact Or.inr ⟨rfl, rfl, rfl, in_gwi 972 (by decide +kernel) rfl⟩
set_option maxRecDepth 100000 in
theorem mf_RX12_32 : MayPut mX12_init 32 12 9 := fun q h => by cases h; exact Or.inr ⟨rfl, rfl, rfl, in_gwi 973 (by decide +kernel) rfl⟩
set_option maxRecDepth 100000 in
theorem mf_RX12_36 : MayPut mX12_init 36 12 10 := fun q h => by cases h; exact Or.inr ⟨rfl, rfl, rfl, in_gwi 974 (by decide +kernel) rfl⟩
set_option maxRecDepth 100000 in
theorem mf_RX12_39 : MayPut mX12_init 39 12 12 := fun q h => by cases h; exact Or.inr ⟨rfl, rfl, rfl, in_gwi 976 (by decide +kernel) rfl⟩
set_option maxRecDepth 100000 in
theorem mf_RX12_42 : MayPut mX12_init 42 12 13 := fun q h => by cases h; exact Or.inr ⟨rfl, rfl, rfl, in_gwi 977 (by decide +kernel) rfl⟩
set_option maxRecDepth 100000 in
theorem mf_RX12_45 : MayPut mX12_init 45 12 14 := fun q h => by cases h; exact Or.inr ⟨rfl, rfl, rfl, in_gwi 978 (by decide +kernel) rfl⟩
set_option maxRecDepth 100000 in
theorem mf_RX12_48 : MayPut mX12_init 48 12 15 := fun q h => by cases h; exact Or.inr ⟨rfl, rfl, rfl, in_gwi 979 (by decide +kernel) rfl⟩
set_option maxRecDepth 100000 in
theorem mf_RX12_51 : MayPut mX12_init 51 12 16 := fun q h => by cases h; exact Or.inr ⟨rfl, rfl, rfl, in_gwi 980 (by decide +kernel) rfl⟩
set_option maxRecDepth 100000 in
theorem mf_RX12_54 : MayPut mX12_init 54 12 17 := fun q h => by cases h; exact Or.inr ⟨rfl, rfl, rfl, in_gwi 981 (by decide +kernel) rfl⟩
set_option maxRecDepth 100000 in
theorem mf_RX12_57 : MayPut mX12_init 57 12 18 := fun q h => by cases h; exact Or.inr ⟨rfl, rfl, rfl, in_gwi 982 (by decide +kernel) rfl⟩
set_option maxRecDepth 100000 in
theorem mf_RX12_60 : MayPut mX12_init 60 12 19 := fun q h => by cases h; exact Or.inr ⟨rfl, rfl, rfl, in_gwi 983 (by decide +kernel) rfl⟩
set_option maxRecDepth 100000 in
theorem mf_RX12_63 : MayPut mX12_init 63 12 20 := fun q h => by cases h; exact Or.inr ⟨rfl, rfl, rfl, in_gwi 984 (by decide +kernel) rfl⟩
set_option maxRecDepth 100000 in
theorem mf_RX12_66 : MayPut mX12_init 66 12 21 := fun q h => by cases h; exact Or.inr ⟨rfl, rfl, rfl, in_gwi 985 (by decide +kernel) rfl⟩
set_option maxRecDepth 100000 in
theorem mf_RX12_69 : MayPut mX12_init 69 12 22 := fun q h => by cases h; exact Or.inr ⟨rfl, rfl, rfl, in_gwi 986 (by decide +kernel) rfl⟩
set_option maxRecDepth 100000 in
theorem mf_RX12_72 : MayPut mX12_init 72 12 23 := fun q h => by cases h; exact Or.inr ⟨rfl, rfl, rfl, in_gwi 987 (by decide +kernel) rfl⟩
set_option maxRecDepth 100000 in
theorem mf_RX12_75 : MayPut mX12_init 75 12 27 := fun q h => by cases h; exact Or.inr ⟨rfl, rfl, rfl, in_gwi 991 (by decide +kernel) rfl⟩
set_option maxRecDepth 100000 in
theorem mf_RX12_78 : MayPut mX12_init 78 12 28 := fun q h => by cases h; exact Or.inr ⟨rfl, rfl, rfl, in_gwi 992 (by decide +kernel) rfl⟩
set_option maxRecDepth 100000 in
theorem mf_RX12_81 : MayPut mX12_init 81 12 29 := fun q h => by cases h; exact Or.inr ⟨rfl, rfl, rfl, in_gwi 993 (by decide +kernel) rfl⟩
set_option maxRecDepth 100000 in
theorem mf_RX12_84 : MayPut mX12_init 84 12 30 := fun q h => by cases h; exact Or.inr ⟨rfl, rfl, rfl, in_gwi 994 (by decide +kernel) rfl⟩
set_option maxRecDepth 100000 in
theorem mf_RX12_87 : MayPut mX12_init 87 12 31 := fun q h => by cases h; exact Or.inr ⟨rfl, rfl, rfl, in_gwi 995 (by decide +kernel) rfl⟩
set_option maxRecDepth 100000 in
theorem mf_RX12_90 : MayPut mX12_init 90 12 32 := fun q h => by cases h; exact Or.inr ⟨rfl, rfl, rfl, in_gwi 996 (by decide +kernel) rfl⟩
set_option maxRecDepth 100000 in
theorem mf_RX12_93 : MayPut mX12_init 93 12 33 := fun q h => by cases h; exact Or.inr ⟨rfl, rfl, rfl, in_gwi 997 (by decide +kernel) rfl⟩
set_option maxRecDepth 100000 in
theorem mf_RX12_96 : MayPut mX12_init 96 12 34 := fun q h => by cases h; exact Or.inr ⟨rfl, rfl, rfl, in_gwi 998 (by decide +kernel) rfl⟩
set_option maxRecDepth 100000 in
theorem mf_RX12_99 : MayPut mX12_init 99 12 35 := fun q h => by cases h; exact Or.inr ⟨rfl, rfl, rfl, in_gwi 999 (by decide +kernel) rfl⟩
set_option maxRecDepth 100000 in
theorem mf_RX12_102 : MayPut mX12_init 102 12 39 := fun q h => by cases h; exact Or.inr ⟨rfl, rfl, rfl, in_gwi 1003 (by decide +kernel) rfl⟩
set_option maxRecDepth 100000 in
theorem mf_RX12_108 : MayPut mX12_init 108 12 49 := fun q h => by cases h; exact Or.inr ⟨rfl, rfl, rfl, in_gwi 1013 (by decide +kernel) rfl⟩
set_option maxRecDepth 100000 in
theorem mf_RX12_111 : MayPut mX12_init 111 12 52 := fun q h => by cases h; exact Or.inr ⟨rfl, rfl, rfl, in_gwi 1016 (by decide +kernel) rfl⟩
set_option maxRecDepth 100000 in
theorem mf_RX12_114 : MayPut mX12_init 114 12 53 := fun q h => by cases h; exact Or.inr ⟨rfl, rfl, rfl, in_gwi 1017 (by decide +kernel) rfl⟩
set_option maxRecDepth 100000 in
theorem mf_RX12_117 : MayPut mX12_init 117 12 55 := fun q h => by cases h; exact Or.inr ⟨rfl, rfl, rfl, in_gwi 1019 (by decide +kernel) rfl⟩
set_option maxRecDepth 100000 in
theorem mf_RX12_120 : MayPut mX12_init 120 12 56 := fun q h => by cases h; exact Or.inr ⟨rfl, rfl, rfl, in_gwi 1020 (by decide +kernel) rfl⟩
set_option maxRecDepth 100000 in
theorem mf_RX12_123 : MayPut mX12_init 123 12 57 := fun q h => by cases h; exact Or.inr ⟨rfl, rfl, rfl, in_gwi 1021 (by decide +kernel) rfl⟩
set_option maxRecDepth 100000 in
theorem mf_RX12_126 : MayPut mX12_init 126 12 58 := fun q h => by cases h; exact Or.inr ⟨rfl, rfl, rfl, in_gwi 1022 (by decide +kernel) rfl⟩
set_option maxRecDepth 100000 in
theorem mf_RX12_129 : MayPut mX12_init 129 12 59 := fun q h => by cases h; exact Or.inr ⟨rfl, rfl, rfl, in_gwi 1023 (by decide +kernel) rfl⟩
