/-! ===== how many bits: by 64 pieces ===== -/
/-- how many bits -/
def pop (x : Nat) : Nat := fb_ct (fun i => x.testBit i) 16
def bn1 (x : Nat) : Nat := x - (x / 2 &&& 0x55555555)
def bn2 (a : Nat) : Nat := (a &&& 0x33333333) + (a / 4 &&& 0x33333333)
def bn3 (b : Nat) : Nat := (b + b / 16) &&& 0x0f0f0f0f
def bn4 (c : Nat) : Nat := c + c / 256
def bn5 (e : Nat) : Nat := e + e / 65536
def bcN (x : Nat) : Nat := bn5 (bn4 (bn3 (bn2 (bn1 x)))) &&& 63
def popS (x : Nat) : Nat := x % 2 + x / 2 % 2 + x / 4 % 2 + x / 8 % 2 + x / 16 % 2 + x / 32 % 2 + x / 64 % 2 + x / 128 % 2 + x / 256 % 2 + x / 512 % 2 + x / 1024 % 2 + x / 2048 % 2 + x / 4096 % 2 + x / 8192 % 2 + x / 16384 % 2 + x / 32768 % 2
theorem tb_mod (x i : Nat) : (if x.testBit i = true then 1 else 0) = x / 2 ^ i % 2 := by
  rw [Nat.testBit_eq_decide_div_mod_eq]
  by_cases q : x / 2 ^ i % 2 = 1
  · simp [q]
  · rw [show x / 2 ^ i % 2 = 0 by omega]; simp
theorem pop_S (x : Nat) : pop x = popS x := by
  unfold pop popS
  simp only [fb_ct, tb_mod]
  simp only [Nat.reducePow, Nat.div_one, Nat.zero_add]
def chk (i : Nat) : Bool := (List.range 1024).all (fun l => Nat.beq (bcN (1024 * i + l)) (popS (1024 * i + l)))
set_option maxRecDepth 100000 in
theorem chk_0 : chk 0 = true := by decide +kernel
set_option maxRecDepth 100000 in
theorem chk_1 : chk 1 = true := by decide +kernel
set_option maxRecDepth 100000 in
theorem chk_2 : chk 2 = true := by decide +kernel
set_option maxRecDepth 100000 in
theorem chk_3 : chk 3 = true := by decide +kernel
set_option maxRecDepth 100000 in
theorem chk_4 : chk 4 = true := by decide +kernel
set_option maxRecDepth 100000 in
theorem chk_5 : chk 5 = true := by decide +kernel
set_option maxRecDepth 100000 in
theorem chk_6 : chk 6 = true := by decide +kernel
set_option maxRecDepth 100000 in
theorem chk_7 : chk 7 = true := by decide +kernel
set_option maxRecDepth 100000 in
theorem chk_8 : chk 8 = true := by decide +kernel
set_option maxRecDepth 100000 in
theorem chk_9 : chk 9 = true := by decide +kernel
set_option maxRecDepth 100000 in
theorem chk_10 : chk 10 = true := by decide +kernel
set_option maxRecDepth 100000 in
theorem chk_11 : chk 11 = true := by decide +kernel
set_option maxRecDepth 100000 in
theorem chk_12 : chk 12 = true := by decide +kernel
set_option maxRecDepth 100000 in
theorem chk_13 : chk 13 = true := by decide +kernel
set_option maxRecDepth 100000 in
theorem chk_14 : chk 14 = true := by decide +kernel
set_option maxRecDepth 100000 in
theorem chk_15 : chk 15 = true := by decide +kernel
set_option maxRecDepth 100000 in
theorem chk_16 : chk 16 = true := by decide +kernel
set_option maxRecDepth 100000 in
theorem chk_17 : chk 17 = true := by decide +kernel
set_option maxRecDepth 100000 in
theorem chk_18 : chk 18 = true := by decide +kernel
set_option maxRecDepth 100000 in
theorem chk_19 : chk 19 = true := by decide +kernel
set_option maxRecDepth 100000 in
theorem chk_20 : chk 20 = true := by decide +kernel
set_option maxRecDepth 100000 in
theorem chk_21 : chk 21 = true := by decide +kernel
set_option maxRecDepth 100000 in
theorem chk_22 : chk 22 = true := by decide +kernel
set_option maxRecDepth 100000 in
theorem chk_23 : chk 23 = true := by decide +kernel
set_option maxRecDepth 100000 in
theorem chk_24 : chk 24 = true := by decide +kernel
set_option maxRecDepth 100000 in
theorem chk_25 : chk 25 = true := by decide +kernel
set_option maxRecDepth 100000 in
theorem chk_26 : chk 26 = true := by decide +kernel
set_option maxRecDepth 100000 in
theorem chk_27 : chk 27 = true := by decide +kernel
set_option maxRecDepth 100000 in
theorem chk_28 : chk 28 = true := by decide +kernel
set_option maxRecDepth 100000 in
theorem chk_29 : chk 29 = true := by decide +kernel
set_option maxRecDepth 100000 in
theorem chk_30 : chk 30 = true := by decide +kernel
set_option maxRecDepth 100000 in
theorem chk_31 : chk 31 = true := by decide +kernel
set_option maxRecDepth 100000 in
theorem chk_32 : chk 32 = true := by decide +kernel
set_option maxRecDepth 100000 in
theorem chk_33 : chk 33 = true := by decide +kernel
set_option maxRecDepth 100000 in
theorem chk_34 : chk 34 = true := by decide +kernel
set_option maxRecDepth 100000 in
theorem chk_35 : chk 35 = true := by decide +kernel
set_option maxRecDepth 100000 in
theorem chk_36 : chk 36 = true := by decide +kernel
set_option maxRecDepth 100000 in
theorem chk_37 : chk 37 = true := by decide +kernel
set_option maxRecDepth 100000 in
theorem chk_38 : chk 38 = true := by decide +kernel
set_option maxRecDepth 100000 in
theorem chk_39 : chk 39 = true := by decide +kernel
set_option maxRecDepth 100000 in
theorem chk_40 : chk 40 = true := by decide +kernel
set_option maxRecDepth 100000 in
theorem chk_41 : chk 41 = true := by decide +kernel
set_option maxRecDepth 100000 in
theorem chk_42 : chk 42 = true := by decide +kernel
set_option maxRecDepth 100000 in
theorem chk_43 : chk 43 = true := by decide +kernel
set_option maxRecDepth 100000 in
theorem chk_44 : chk 44 = true := by decide +kernel
set_option maxRecDepth 100000 in
theorem chk_45 : chk 45 = true := by decide +kernel
set_option maxRecDepth 100000 in
theorem chk_46 : chk 46 = true := by decide +kernel
set_option maxRecDepth 100000 in
theorem chk_47 : chk 47 = true := by decide +kernel
set_option maxRecDepth 100000 in
theorem chk_48 : chk 48 = true := by decide +kernel
set_option maxRecDepth 100000 in
theorem chk_49 : chk 49 = true := by decide +kernel
set_option maxRecDepth 100000 in
theorem chk_50 : chk 50 = true := by decide +kernel
set_option maxRecDepth 100000 in
theorem chk_51 : chk 51 = true := by decide +kernel
set_option maxRecDepth 100000 in
theorem chk_52 : chk 52 = true := by decide +kernel
set_option maxRecDepth 100000 in
theorem chk_53 : chk 53 = true := by decide +kernel
set_option maxRecDepth 100000 in
theorem chk_54 : chk 54 = true := by decide +kernel
set_option maxRecDepth 100000 in
theorem chk_55 : chk 55 = true := by decide +kernel
set_option maxRecDepth 100000 in
theorem chk_56 : chk 56 = true := by decide +kernel
set_option maxRecDepth 100000 in
theorem chk_57 : chk 57 = true := by decide +kernel
set_option maxRecDepth 100000 in
theorem chk_58 : chk 58 = true := by decide +kernel
set_option maxRecDepth 100000 in
theorem chk_59 : chk 59 = true := by decide +kernel
set_option maxRecDepth 100000 in
theorem chk_60 : chk 60 = true := by decide +kernel
set_option maxRecDepth 100000 in
theorem chk_61 : chk 61 = true := by decide +kernel
set_option maxRecDepth 100000 in
theorem chk_62 : chk 62 = true := by decide +kernel
set_option maxRecDepth 100000 in
theorem chk_63 : chk 63 = true := by decide +kernel
theorem chk_all : ∀ i, i < 64 → chk i = true
  | 0, _ => chk_0
  | 1, _ => chk_1
  | 2, _ => chk_2
  | 3, _ => chk_3
  | 4, _ => chk_4
  | 5, _ => chk_5
  | 6, _ => chk_6
  | 7, _ => chk_7
  | 8, _ => chk_8
  | 9, _ => chk_9
  | 10, _ => chk_10
  | 11, _ => chk_11
  | 12, _ => chk_12
  | 13, _ => chk_13
  | 14, _ => chk_14
  | 15, _ => chk_15
  | 16, _ => chk_16
  | 17, _ => chk_17
  | 18, _ => chk_18
  | 19, _ => chk_19
  | 20, _ => chk_20
  | 21, _ => chk_21
  | 22, _ => chk_22
  | 23, _ => chk_23
  | 24, _ => chk_24
  | 25, _ => chk_25
  | 26, _ => chk_26
  | 27, _ => chk_27
  | 28, _ => chk_28
  | 29, _ => chk_29
  | 30, _ => chk_30
  | 31, _ => chk_31
  | 32, _ => chk_32
  | 33, _ => chk_33
  | 34, _ => chk_34
  | 35, _ => chk_35
  | 36, _ => chk_36
  | 37, _ => chk_37
  | 38, _ => chk_38
  | 39, _ => chk_39
  | 40, _ => chk_40
  | 41, _ => chk_41
  | 42, _ => chk_42
  | 43, _ => chk_43
  | 44, _ => chk_44
  | 45, _ => chk_45
  | 46, _ => chk_46
  | 47, _ => chk_47
  | 48, _ => chk_48
  | 49, _ => chk_49
  | 50, _ => chk_50
  | 51, _ => chk_51
  | 52, _ => chk_52
  | 53, _ => chk_53
  | 54, _ => chk_54
  | 55, _ => chk_55
  | 56, _ => chk_56
  | 57, _ => chk_57
  | 58, _ => chk_58
  | 59, _ => chk_59
  | 60, _ => chk_60
  | 61, _ => chk_61
  | 62, _ => chk_62
  | 63, _ => chk_63
  | n + 64, h => absurd h (by omega)
theorem bcN_pop {x : Nat} (h : x < 65536) : bcN x = pop x := by
  have h1 := chk_all (x / 1024) (by omega)
  unfold chk at h1
  have h2 := List.all_eq_true.mp h1 (x % 1024) (List.mem_range.mpr (Nat.mod_lt _ (by decide)))
  rw [show 1024 * (x / 1024) + x % 1024 = x by omega] at h2
  rw [pop_S]
  exact Nat.eq_of_beq_eq_true h2
