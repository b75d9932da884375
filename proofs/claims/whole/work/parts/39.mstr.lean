/-! ===== the reference's strength ===== -/
abbrev mIn (H : PH) (i hh e : Nat) : Prop := hI H 47 e = 0 ∧ (e = i ∨ mb (hI H 46 e) hh)
def msub (H : PH) (fr tt : Nat → Nat) (v : Int32) (p : Nat) : Int32 := if mCost H fr tt p ≤ v then v - mCost H fr tt p else 0
def addR (v r : Int32) : Int32 := if r ≤ 0 then v else v + r
def cutR (v : Int32) : Int32 := if v ≤ 1000 then v else 1000
def mrst (H : PH) (fr tt : Nat → Nat) (c : Nat) (v : Int32) : Option Nat → Int32
  | none => v
  | some p => cutR (addR v (hI H 43 c - mEnd H fr tt p))
def mstrF (H : PH) (fr tt ord : Nat → Nat) (i hh : Nat) : Nat → Nat → Int32 → Option Nat → Int32
  | 0, _, v, _ => v
  | f + 1, t, v, ah => if ¬ mIn H i hh (ord t) then mstrF H fr tt ord i hh f (t + 1) v ah else if ord t = i then mrst H fr tt (ord t) v ah else mstrF H fr tt ord i hh f (t + 1) (msub H fr tt (mrst H fr tt (ord t) v ah) (ord t)) (some (ord t))
/-- ord and pos: the order of BEGIN, and back -/
def OP (H : PH) (m : Nat) (ord pos : Nat → Nat) : Prop := (∀ t, t < m → ord t < m ∧ pos (ord t) = t) ∧ (∀ j, j < m → pos j < m ∧ ord (pos j) = j) ∧ ∀ a b, a < m → b < m → (mAhd H a b ↔ pos a < pos b)
theorem mstrF_skip (H : PH) (fr tt ord : Nat → Nat) (i hh m : Nat) (v : Int32) (ah : Option Nat) : ∀ (k t : Nat), t + k ≤ m → (∀ s, t ≤ s → s < t + k → ¬ mIn H i hh (ord s)) → mstrF H fr tt ord i hh (m - t) t v ah = mstrF H fr tt ord i hh (m - (t + k)) (t + k) v ah
  | 0, t, _, _ => rfl
  | k + 1, t, h, hs => by
    have e : m - t = (m - (t + 1)) + 1 := by omega
    rw [e, mstrF, if_pos (hs t (Nat.le_refl _) (by omega)), mstrF_skip H fr tt ord i hh m v ah k (t + 1) (by omega) (fun s h1 h2 => hs s (by omega) (by omega))]
    rw [show t + 1 + k = t + (k + 1) by omega]
def befV (ah : Option Nat) : Int32 := match ah with | none => -1 | some p => nI p
def tOf (pos : Nat → Nat) (ah : Option Nat) : Nat := match ah with | none => 0 | some p => pos p + 1
abbrev cand (H : PH) (pos : Nat → Nat) (i hh t e : Nat) : Prop := mIn H i hh e ∧ t ≤ pos e
/-- the best so far -/
def nxV (H : PH) (pos : Nat → Nat) (i hh t j : Nat) (nx : Option Nat) : Prop := match nx with
  | none => ∀ e, e < j → ¬ cand H pos i hh t e
  | some b => b < j ∧ cand H pos i hh t b ∧ ∀ e, e < j → cand H pos i hh t e → pos b ≤ pos e
section MS
variable {d m i hh : Nat} {fr tt ord pos : Nat → Nat} {H : PH} {Q : Option Value → PH → Prop}
theorem l_X12_str_in (hF : Fix H) (hM : MJ H m fr tt) (hO : OP H m ord pos) (hi : i < m) {u : Int32} {ah : Option Nat} (hah : ∀ p, ah = some p → p < m) {r : Nat}
    (kont : ∀ nx, nxV H pos i hh (tOf pos ah) m nx → Wp mX12_strengthAt (d + 3) 0 0 122 [some (.ref 33), some (.int (nI i)), some (.int (nI hh)), some (.int u), some (.int (befV ah)), some (.int (nI r)), some (.int (befV nx)), none, none] [] H Q) :
    ∀ (f j : Nat) (nx : Option Nat), m - j = f → j ≤ m → nxV H pos i hh (tOf pos ah) j nx → Wp mX12_strengthAt (d + 3) 0 0 28 [some (.ref 33), some (.int (nI i)), some (.int (nI hh)), some (.int u), some (.int (befV ah)), some (.int (nI r)), some (.int (befV nx)), some (.int (nI j)), none] [] H Q := by
  have hm := hM.1
  have h10 := hM.2.1
  intro f
  induction f with
  | zero =>
    intro j nx hf hj hn
    have hin : j = m := by omega
    subst hin
    refine wp_iload dX12_strengthAt_28 rfl ?_
    refine wp_aload_n dX12_strengthAt_30 rfl ?_
    refine wp_geti dX12_strengthAt_31 fl_RX12_159 rfl (fk_33 hF) ?_
    refine wp_icmp_ge (tgt := 122) dX12_strengthAt_34 (by decide) (fun _ => ?_) (fun h34 => absurd h34 (by rw [hm]; exact fun h => h (nI_le (Nat.le_refl _) (by omega))))
    exact wp_forget 7 (kont nx hn)
  | succ f ih =>
    intro j nx hf hj hn
    have hlt : j < m := by omega
    have hpj := (hO.2.1 j hlt).1
    -- not a candidate: nothing changes
    have hskip : ¬ cand H pos i hh (tOf pos ah) j → nxV H pos i hh (tOf pos ah) (j + 1) nx := by
      intro hc
      cases nx with
      | none =>
        intro e he
        rcases Nat.lt_succ_iff_lt_or_eq.mp he with q | q
        · exact hn e q
        · subst q; exact hc
      | some b =>
        refine ⟨Nat.lt_succ_of_lt hn.1, hn.2.1, fun e he hce => ?_⟩
        rcases Nat.lt_succ_iff_lt_or_eq.mp he with q | q
        · exact hn.2.2 e q hce
        · subst q; exact absurd hce hc
    have hkeep : ∀ b, nx = some b → ¬ pos j < pos b → nxV H pos i hh (tOf pos ah) (j + 1) nx := by
      intro b hb hc
      subst hb
      refine ⟨Nat.lt_succ_of_lt hn.1, hn.2.1, fun e he hce => ?_⟩
      rcases Nat.lt_succ_iff_lt_or_eq.mp he with q | q
      · exact hn.2.2 e q hce
      · subst q; omega
    have htake : cand H pos i hh (tOf pos ah) j → (∀ b, nx = some b → pos j < pos b) → nxV H pos i hh (tOf pos ah) (j + 1) (some j) := by
      intro hc hb
      refine ⟨Nat.lt_succ_self j, hc, fun e he hce => ?_⟩
      rcases Nat.lt_succ_iff_lt_or_eq.mp he with q | q
      · cases nx with
        | none => exact absurd hce (hn e q)
        | some b => have h1 := hb b rfl; have h2 := hn.2.2 e q hce; omega
      · subst q; exact Nat.le_refl _
    have hnb : ∀ b, nx = some b → b < m := fun b hb => by subst hb; have := hn.1; omega
    cases ah with
    | none =>
      cases nx with
      | none =>
        refine wp_iload dX12_strengthAt_28 rfl ?_
        refine wp_aload_n dX12_strengthAt_30 rfl ?_
        refine wp_geti dX12_strengthAt_31 fl_RX12_159 rfl (fk_33 hF) ?_
        refine wp_icmp_ge (tgt := 122) dX12_strengthAt_34 (by decide) (fun h34 => absurd h34 (by rw [hm]; exact nI_ge (by omega) (by omega))) (fun _ => ?_)
        refine wp_aload_n dX12_strengthAt_37 rfl ?_
        refine wp_geta dX12_strengthAt_38 fl_RX12_60 rfl (fk_33 hF) (fr_33_19 hF) ?_
        refine wp_iload dX12_strengthAt_41 rfl ?_
        refine wp_baloadN dX12_strengthAt_43 (fk_47 hF) (by decide) (by omega) (by decide) ?_
        refine wp_if_ne (tgt := 72) dX12_strengthAt_44 (by decide) (fun h44 => ?_) (fun h44 => ?_)
        · refine wp_iconst (v := 0) dX12_strengthAt_72 (by decide) ?_
          refine wp_istore dX12_strengthAt_73 (by decide) ?_
          refine wp_iload dX12_strengthAt_75 rfl ?_
          refine wp_if_eq (tgt := 116) dX12_strengthAt_77 (by decide) (fun _ => ?_) (fun h77 => absurd rfl h77)
          refine wp_incN dX12_strengthAt_116 rfl (by decide) ?_
          refine wp_goto (tgt := 28) dX12_strengthAt_119 (by decide) ?_
          refine wp_forget 8 ?_
          first
            | exact ih (j + 1) none (by omega) (by omega) (hskip (fun q => by first | exact h44 q.1.1 | (have q9 := q.1.2; first | exact q9.elim (fun z => h50 (by rw [z])) h65)))
            | exact ih (j + 1) (some j) (by omega) (by omega) (htake ⟨⟨h44, by first | exact Or.inl ((nI_eq (by omega) (by omega)).mp h50) | exact Or.inr h65⟩, Nat.zero_le _⟩ (fun b hb => by cases hb))
        · refine wp_iload dX12_strengthAt_47 rfl ?_
          refine wp_iload_n dX12_strengthAt_49 rfl ?_
          refine wp_icmp_eq (tgt := 68) dX12_strengthAt_50 (by decide) (fun h50 => ?_) (fun h50 => ?_)
          · refine wp_iconst (v := 1) dX12_strengthAt_68 (by decide) ?_
            refine wp_goto (tgt := 73) dX12_strengthAt_69 (by decide) ?_
            refine wp_istore dX12_strengthAt_73 (by decide) ?_
            refine wp_iload dX12_strengthAt_75 rfl ?_
            refine wp_if_eq (tgt := 116) dX12_strengthAt_77 (by decide) (fun h77 => absurd h77 (by decide)) (fun _ => ?_)
            refine wp_iload dX12_strengthAt_80 rfl ?_
            refine wp_if_lt (tgt := 96) dX12_strengthAt_82 (by decide) (fun _ => ?_) (fun h82 => absurd h82 (fun h => h (by decide)))
            refine wp_iload dX12_strengthAt_96 rfl ?_
            refine wp_if_lt (tgt := 112) dX12_strengthAt_98 (by decide) (fun _ => ?_) (fun h98 => absurd h98 (fun h => h (by decide)))
            refine wp_iload dX12_strengthAt_112 rfl ?_
            refine wp_istore dX12_strengthAt_114 (by decide) ?_
            refine wp_incN dX12_strengthAt_116 rfl (by decide) ?_
            refine wp_goto (tgt := 28) dX12_strengthAt_119 (by decide) ?_
            refine wp_forget 8 ?_
            first
              | exact ih (j + 1) none (by omega) (by omega) (hskip (fun q => by first | exact h44 q.1.1 | (have q9 := q.1.2; first | exact q9.elim (fun z => h50 (by rw [z])) h65)))
              | exact ih (j + 1) (some j) (by omega) (by omega) (htake ⟨⟨h44, by first | exact Or.inl ((nI_eq (by omega) (by omega)).mp h50) | exact Or.inr h65⟩, Nat.zero_le _⟩ (fun b hb => by cases hb))
          · refine wp_aload_n dX12_strengthAt_53 rfl ?_
            refine wp_geta dX12_strengthAt_54 fl_RX12_57 rfl (fk_33 hF) (fr_33_18 hF) ?_
            refine wp_iload dX12_strengthAt_57 rfl ?_
            refine wp_ialoadN dX12_strengthAt_59 (fk_46 hF) (by omega) (by decide) ?_
            refine wp_iload_n dX12_strengthAt_60 rfl ?_
            refine wp_ishr dX12_strengthAt_61 ?_
            refine wp_iconst (v := 1) dX12_strengthAt_62 (by decide) ?_
            refine wp_iand dX12_strengthAt_63 ?_
            refine wp_iconst (v := 1) dX12_strengthAt_64 (by decide) ?_
            refine wp_icmp_ne (tgt := 72) dX12_strengthAt_65 (by decide) (fun h65 => ?_) (fun h65 => ?_)
            · refine wp_iconst (v := 0) dX12_strengthAt_72 (by decide) ?_
              refine wp_istore dX12_strengthAt_73 (by decide) ?_
              refine wp_iload dX12_strengthAt_75 rfl ?_
              refine wp_if_eq (tgt := 116) dX12_strengthAt_77 (by decide) (fun _ => ?_) (fun h77 => absurd rfl h77)
              refine wp_incN dX12_strengthAt_116 rfl (by decide) ?_
              refine wp_goto (tgt := 28) dX12_strengthAt_119 (by decide) ?_
              refine wp_forget 8 ?_
              first
                | exact ih (j + 1) none (by omega) (by omega) (hskip (fun q => by first | exact h44 q.1.1 | (have q9 := q.1.2; first | exact q9.elim (fun z => h50 (by rw [z])) h65)))
                | exact ih (j + 1) (some j) (by omega) (by omega) (htake ⟨⟨h44, by first | exact Or.inl ((nI_eq (by omega) (by omega)).mp h50) | exact Or.inr h65⟩, Nat.zero_le _⟩ (fun b hb => by cases hb))
            · refine wp_iconst (v := 1) dX12_strengthAt_68 (by decide) ?_
              refine wp_goto (tgt := 73) dX12_strengthAt_69 (by decide) ?_
              refine wp_istore dX12_strengthAt_73 (by decide) ?_
              refine wp_iload dX12_strengthAt_75 rfl ?_
              refine wp_if_eq (tgt := 116) dX12_strengthAt_77 (by decide) (fun h77 => absurd h77 (by decide)) (fun _ => ?_)
              refine wp_iload dX12_strengthAt_80 rfl ?_
              refine wp_if_lt (tgt := 96) dX12_strengthAt_82 (by decide) (fun _ => ?_) (fun h82 => absurd h82 (fun h => h (by decide)))
              refine wp_iload dX12_strengthAt_96 rfl ?_
              refine wp_if_lt (tgt := 112) dX12_strengthAt_98 (by decide) (fun _ => ?_) (fun h98 => absurd h98 (fun h => h (by decide)))
              refine wp_iload dX12_strengthAt_112 rfl ?_
              refine wp_istore dX12_strengthAt_114 (by decide) ?_
              refine wp_incN dX12_strengthAt_116 rfl (by decide) ?_
              refine wp_goto (tgt := 28) dX12_strengthAt_119 (by decide) ?_
              refine wp_forget 8 ?_
              first
                | exact ih (j + 1) none (by omega) (by omega) (hskip (fun q => by first | exact h44 q.1.1 | (have q9 := q.1.2; first | exact q9.elim (fun z => h50 (by rw [z])) h65)))
                | exact ih (j + 1) (some j) (by omega) (by omega) (htake ⟨⟨h44, by first | exact Or.inl ((nI_eq (by omega) (by omega)).mp h50) | exact Or.inr h65⟩, Nat.zero_le _⟩ (fun b hb => by cases hb))
      | some b =>
        have hbm := hnb b rfl
        refine wp_iload dX12_strengthAt_28 rfl ?_
        refine wp_aload_n dX12_strengthAt_30 rfl ?_
        refine wp_geti dX12_strengthAt_31 fl_RX12_159 rfl (fk_33 hF) ?_
        refine wp_icmp_ge (tgt := 122) dX12_strengthAt_34 (by decide) (fun h34 => absurd h34 (by rw [hm]; exact nI_ge (by omega) (by omega))) (fun _ => ?_)
        refine wp_aload_n dX12_strengthAt_37 rfl ?_
        refine wp_geta dX12_strengthAt_38 fl_RX12_60 rfl (fk_33 hF) (fr_33_19 hF) ?_
        refine wp_iload dX12_strengthAt_41 rfl ?_
        refine wp_baloadN dX12_strengthAt_43 (fk_47 hF) (by decide) (by omega) (by decide) ?_
        refine wp_if_ne (tgt := 72) dX12_strengthAt_44 (by decide) (fun h44 => ?_) (fun h44 => ?_)
        · refine wp_iconst (v := 0) dX12_strengthAt_72 (by decide) ?_
          refine wp_istore dX12_strengthAt_73 (by decide) ?_
          refine wp_iload dX12_strengthAt_75 rfl ?_
          refine wp_if_eq (tgt := 116) dX12_strengthAt_77 (by decide) (fun _ => ?_) (fun h77 => absurd rfl h77)
          refine wp_incN dX12_strengthAt_116 rfl (by decide) ?_
          refine wp_goto (tgt := 28) dX12_strengthAt_119 (by decide) ?_
          refine wp_forget 8 ?_
          first
            | exact ih (j + 1) (some b) (by omega) (by omega) (hskip (fun q => by first | exact h44 q.1.1 | exact q.1.2.elim (fun z => h50 (by rw [z])) h65))
            | exact ih (j + 1) (some b) (by omega) (by omega) (hkeep b rfl (fun q => h109 ((hO.2.2 j b hlt hbm).mpr q)))
            | exact ih (j + 1) (some j) (by omega) (by omega) (htake ⟨⟨h44, by first | exact Or.inl ((nI_eq (by omega) (by omega)).mp h50) | exact Or.inr h65⟩, Nat.zero_le _⟩ (fun b' hb => by cases hb; exact (hO.2.2 j b hlt hbm).mp h109))
        · refine wp_iload dX12_strengthAt_47 rfl ?_
          refine wp_iload_n dX12_strengthAt_49 rfl ?_
          refine wp_icmp_eq (tgt := 68) dX12_strengthAt_50 (by decide) (fun h50 => ?_) (fun h50 => ?_)
          · refine wp_iconst (v := 1) dX12_strengthAt_68 (by decide) ?_
            refine wp_goto (tgt := 73) dX12_strengthAt_69 (by decide) ?_
            refine wp_istore dX12_strengthAt_73 (by decide) ?_
            refine wp_iload dX12_strengthAt_75 rfl ?_
            refine wp_if_eq (tgt := 116) dX12_strengthAt_77 (by decide) (fun h77 => absurd h77 (by decide)) (fun _ => ?_)
            refine wp_iload dX12_strengthAt_80 rfl ?_
            refine wp_if_lt (tgt := 96) dX12_strengthAt_82 (by decide) (fun _ => ?_) (fun h82 => absurd h82 (fun h => h (by decide)))
            refine wp_iload dX12_strengthAt_96 rfl ?_
            refine wp_if_lt (tgt := 112) dX12_strengthAt_98 (by decide) (fun h98 => absurd h98 (nI_pos (by omega))) (fun _ => ?_)
            refine wp_aload_n dX12_strengthAt_101 rfl ?_
            refine wp_iload dX12_strengthAt_102 rfl ?_
            refine wp_iload dX12_strengthAt_104 rfl ?_
            refine wp_callv2 (ci := 12) dX12_strengthAt_106 lk_RX12_188 ok_X12_isAhead im_X12_isAhead se_X12_isAhead rfl rfl (fk_33 hF) (Nat.le_of_ble_eq_true rfl) (Nat.le_of_ble_eq_true rfl) ?_
            refine c_X12_isAhead hF (by omega) (by omega) ?_
            refine wp_ifb_eq (tgt := 116) dX12_strengthAt_109 (by decide) (fun h109 => ?_) (fun h109 => ?_)
            · refine wp_incN dX12_strengthAt_116 rfl (by decide) ?_
              refine wp_goto (tgt := 28) dX12_strengthAt_119 (by decide) ?_
              refine wp_forget 8 ?_
              first
                | exact ih (j + 1) (some b) (by omega) (by omega) (hskip (fun q => by first | exact h44 q.1.1 | exact q.1.2.elim (fun z => h50 (by rw [z])) h65))
                | exact ih (j + 1) (some b) (by omega) (by omega) (hkeep b rfl (fun q => h109 ((hO.2.2 j b hlt hbm).mpr q)))
                | exact ih (j + 1) (some j) (by omega) (by omega) (htake ⟨⟨h44, by first | exact Or.inl ((nI_eq (by omega) (by omega)).mp h50) | exact Or.inr h65⟩, Nat.zero_le _⟩ (fun b' hb => by cases hb; exact (hO.2.2 j b hlt hbm).mp h109))
            · refine wp_iload dX12_strengthAt_112 rfl ?_
              refine wp_istore dX12_strengthAt_114 (by decide) ?_
              refine wp_incN dX12_strengthAt_116 rfl (by decide) ?_
              refine wp_goto (tgt := 28) dX12_strengthAt_119 (by decide) ?_
              refine wp_forget 8 ?_
              first
                | exact ih (j + 1) (some b) (by omega) (by omega) (hskip (fun q => by first | exact h44 q.1.1 | exact q.1.2.elim (fun z => h50 (by rw [z])) h65))
                | exact ih (j + 1) (some b) (by omega) (by omega) (hkeep b rfl (fun q => h109 ((hO.2.2 j b hlt hbm).mpr q)))
                | exact ih (j + 1) (some j) (by omega) (by omega) (htake ⟨⟨h44, by first | exact Or.inl ((nI_eq (by omega) (by omega)).mp h50) | exact Or.inr h65⟩, Nat.zero_le _⟩ (fun b' hb => by cases hb; exact (hO.2.2 j b hlt hbm).mp h109))
          · refine wp_aload_n dX12_strengthAt_53 rfl ?_
            refine wp_geta dX12_strengthAt_54 fl_RX12_57 rfl (fk_33 hF) (fr_33_18 hF) ?_
            refine wp_iload dX12_strengthAt_57 rfl ?_
            refine wp_ialoadN dX12_strengthAt_59 (fk_46 hF) (by omega) (by decide) ?_
            refine wp_iload_n dX12_strengthAt_60 rfl ?_
            refine wp_ishr dX12_strengthAt_61 ?_
            refine wp_iconst (v := 1) dX12_strengthAt_62 (by decide) ?_
            refine wp_iand dX12_strengthAt_63 ?_
            refine wp_iconst (v := 1) dX12_strengthAt_64 (by decide) ?_
            refine wp_icmp_ne (tgt := 72) dX12_strengthAt_65 (by decide) (fun h65 => ?_) (fun h65 => ?_)
            · refine wp_iconst (v := 0) dX12_strengthAt_72 (by decide) ?_
              refine wp_istore dX12_strengthAt_73 (by decide) ?_
              refine wp_iload dX12_strengthAt_75 rfl ?_
              refine wp_if_eq (tgt := 116) dX12_strengthAt_77 (by decide) (fun _ => ?_) (fun h77 => absurd rfl h77)
              refine wp_incN dX12_strengthAt_116 rfl (by decide) ?_
              refine wp_goto (tgt := 28) dX12_strengthAt_119 (by decide) ?_
              refine wp_forget 8 ?_
              first
                | exact ih (j + 1) (some b) (by omega) (by omega) (hskip (fun q => by first | exact h44 q.1.1 | exact q.1.2.elim (fun z => h50 (by rw [z])) h65))
                | exact ih (j + 1) (some b) (by omega) (by omega) (hkeep b rfl (fun q => h109 ((hO.2.2 j b hlt hbm).mpr q)))
                | exact ih (j + 1) (some j) (by omega) (by omega) (htake ⟨⟨h44, by first | exact Or.inl ((nI_eq (by omega) (by omega)).mp h50) | exact Or.inr h65⟩, Nat.zero_le _⟩ (fun b' hb => by cases hb; exact (hO.2.2 j b hlt hbm).mp h109))
            · refine wp_iconst (v := 1) dX12_strengthAt_68 (by decide) ?_
              refine wp_goto (tgt := 73) dX12_strengthAt_69 (by decide) ?_
              refine wp_istore dX12_strengthAt_73 (by decide) ?_
              refine wp_iload dX12_strengthAt_75 rfl ?_
              refine wp_if_eq (tgt := 116) dX12_strengthAt_77 (by decide) (fun h77 => absurd h77 (by decide)) (fun _ => ?_)
              refine wp_iload dX12_strengthAt_80 rfl ?_
              refine wp_if_lt (tgt := 96) dX12_strengthAt_82 (by decide) (fun _ => ?_) (fun h82 => absurd h82 (fun h => h (by decide)))
              refine wp_iload dX12_strengthAt_96 rfl ?_
              refine wp_if_lt (tgt := 112) dX12_strengthAt_98 (by decide) (fun h98 => absurd h98 (nI_pos (by omega))) (fun _ => ?_)
              refine wp_aload_n dX12_strengthAt_101 rfl ?_
              refine wp_iload dX12_strengthAt_102 rfl ?_
              refine wp_iload dX12_strengthAt_104 rfl ?_
              refine wp_callv2 (ci := 12) dX12_strengthAt_106 lk_RX12_188 ok_X12_isAhead im_X12_isAhead se_X12_isAhead rfl rfl (fk_33 hF) (Nat.le_of_ble_eq_true rfl) (Nat.le_of_ble_eq_true rfl) ?_
              refine c_X12_isAhead hF (by omega) (by omega) ?_
              refine wp_ifb_eq (tgt := 116) dX12_strengthAt_109 (by decide) (fun h109 => ?_) (fun h109 => ?_)
              · refine wp_incN dX12_strengthAt_116 rfl (by decide) ?_
                refine wp_goto (tgt := 28) dX12_strengthAt_119 (by decide) ?_
                refine wp_forget 8 ?_
                first
                  | exact ih (j + 1) (some b) (by omega) (by omega) (hskip (fun q => by first | exact h44 q.1.1 | exact q.1.2.elim (fun z => h50 (by rw [z])) h65))
                  | exact ih (j + 1) (some b) (by omega) (by omega) (hkeep b rfl (fun q => h109 ((hO.2.2 j b hlt hbm).mpr q)))
                  | exact ih (j + 1) (some j) (by omega) (by omega) (htake ⟨⟨h44, by first | exact Or.inl ((nI_eq (by omega) (by omega)).mp h50) | exact Or.inr h65⟩, Nat.zero_le _⟩ (fun b' hb => by cases hb; exact (hO.2.2 j b hlt hbm).mp h109))
              · refine wp_iload dX12_strengthAt_112 rfl ?_
                refine wp_istore dX12_strengthAt_114 (by decide) ?_
                refine wp_incN dX12_strengthAt_116 rfl (by decide) ?_
                refine wp_goto (tgt := 28) dX12_strengthAt_119 (by decide) ?_
                refine wp_forget 8 ?_
                first
                  | exact ih (j + 1) (some b) (by omega) (by omega) (hskip (fun q => by first | exact h44 q.1.1 | exact q.1.2.elim (fun z => h50 (by rw [z])) h65))
                  | exact ih (j + 1) (some b) (by omega) (by omega) (hkeep b rfl (fun q => h109 ((hO.2.2 j b hlt hbm).mpr q)))
                  | exact ih (j + 1) (some j) (by omega) (by omega) (htake ⟨⟨h44, by first | exact Or.inl ((nI_eq (by omega) (by omega)).mp h50) | exact Or.inr h65⟩, Nat.zero_le _⟩ (fun b' hb => by cases hb; exact (hO.2.2 j b hlt hbm).mp h109))
    | some p =>
      have hpm := hah p rfl
      cases nx with
      | none =>
        refine wp_iload dX12_strengthAt_28 rfl ?_
        refine wp_aload_n dX12_strengthAt_30 rfl ?_
        refine wp_geti dX12_strengthAt_31 fl_RX12_159 rfl (fk_33 hF) ?_
        refine wp_icmp_ge (tgt := 122) dX12_strengthAt_34 (by decide) (fun h34 => absurd h34 (by rw [hm]; exact nI_ge (by omega) (by omega))) (fun _ => ?_)
        refine wp_aload_n dX12_strengthAt_37 rfl ?_
        refine wp_geta dX12_strengthAt_38 fl_RX12_60 rfl (fk_33 hF) (fr_33_19 hF) ?_
        refine wp_iload dX12_strengthAt_41 rfl ?_
        refine wp_baloadN dX12_strengthAt_43 (fk_47 hF) (by decide) (by omega) (by decide) ?_
        refine wp_if_ne (tgt := 72) dX12_strengthAt_44 (by decide) (fun h44 => ?_) (fun h44 => ?_)
        · refine wp_iconst (v := 0) dX12_strengthAt_72 (by decide) ?_
          refine wp_istore dX12_strengthAt_73 (by decide) ?_
          refine wp_iload dX12_strengthAt_75 rfl ?_
          refine wp_if_eq (tgt := 116) dX12_strengthAt_77 (by decide) (fun _ => ?_) (fun h77 => absurd rfl h77)
          refine wp_incN dX12_strengthAt_116 rfl (by decide) ?_
          refine wp_goto (tgt := 28) dX12_strengthAt_119 (by decide) ?_
          refine wp_forget 8 ?_
          first
            | exact ih (j + 1) none (by omega) (by omega) (hskip (fun q => by first | exact h44 q.1.1 | exact q.1.2.elim (fun z => h50 (by rw [z])) h65))
            | exact ih (j + 1) none (by omega) (by omega) (hskip (fun q => h93 ((hO.2.2 p j hpm hlt).mpr q.2)))
            | exact ih (j + 1) (some j) (by omega) (by omega) (htake ⟨⟨h44, by first | exact Or.inl ((nI_eq (by omega) (by omega)).mp h50) | exact Or.inr h65⟩, (hO.2.2 p j hpm hlt).mp h93⟩ (fun b hb => by cases hb))
        · refine wp_iload dX12_strengthAt_47 rfl ?_
          refine wp_iload_n dX12_strengthAt_49 rfl ?_
          refine wp_icmp_eq (tgt := 68) dX12_strengthAt_50 (by decide) (fun h50 => ?_) (fun h50 => ?_)
          · refine wp_iconst (v := 1) dX12_strengthAt_68 (by decide) ?_
            refine wp_goto (tgt := 73) dX12_strengthAt_69 (by decide) ?_
            refine wp_istore dX12_strengthAt_73 (by decide) ?_
            refine wp_iload dX12_strengthAt_75 rfl ?_
            refine wp_if_eq (tgt := 116) dX12_strengthAt_77 (by decide) (fun h77 => absurd h77 (by decide)) (fun _ => ?_)
            refine wp_iload dX12_strengthAt_80 rfl ?_
            refine wp_if_lt (tgt := 96) dX12_strengthAt_82 (by decide) (fun h82 => absurd h82 (nI_pos (by omega))) (fun _ => ?_)
            refine wp_aload_n dX12_strengthAt_85 rfl ?_
            refine wp_iload dX12_strengthAt_86 rfl ?_
            refine wp_iload dX12_strengthAt_88 rfl ?_
            refine wp_callv2 (ci := 12) dX12_strengthAt_90 lk_RX12_188 ok_X12_isAhead im_X12_isAhead se_X12_isAhead rfl rfl (fk_33 hF) (Nat.le_of_ble_eq_true rfl) (Nat.le_of_ble_eq_true rfl) ?_
            refine c_X12_isAhead hF (by omega) (by omega) ?_
            refine wp_ifb_eq (tgt := 116) dX12_strengthAt_93 (by decide) (fun h93 => ?_) (fun h93 => ?_)
            · refine wp_incN dX12_strengthAt_116 rfl (by decide) ?_
              refine wp_goto (tgt := 28) dX12_strengthAt_119 (by decide) ?_
              refine wp_forget 8 ?_
              first
                | exact ih (j + 1) none (by omega) (by omega) (hskip (fun q => by first | exact h44 q.1.1 | exact q.1.2.elim (fun z => h50 (by rw [z])) h65))
                | exact ih (j + 1) none (by omega) (by omega) (hskip (fun q => h93 ((hO.2.2 p j hpm hlt).mpr q.2)))
                | exact ih (j + 1) (some j) (by omega) (by omega) (htake ⟨⟨h44, by first | exact Or.inl ((nI_eq (by omega) (by omega)).mp h50) | exact Or.inr h65⟩, (hO.2.2 p j hpm hlt).mp h93⟩ (fun b hb => by cases hb))
            · refine wp_iload dX12_strengthAt_96 rfl ?_
              refine wp_if_lt (tgt := 112) dX12_strengthAt_98 (by decide) (fun _ => ?_) (fun h98 => absurd h98 (fun h => h (by decide)))
              refine wp_iload dX12_strengthAt_112 rfl ?_
              refine wp_istore dX12_strengthAt_114 (by decide) ?_
              refine wp_incN dX12_strengthAt_116 rfl (by decide) ?_
              refine wp_goto (tgt := 28) dX12_strengthAt_119 (by decide) ?_
              refine wp_forget 8 ?_
              first
                | exact ih (j + 1) none (by omega) (by omega) (hskip (fun q => by first | exact h44 q.1.1 | exact q.1.2.elim (fun z => h50 (by rw [z])) h65))
                | exact ih (j + 1) none (by omega) (by omega) (hskip (fun q => h93 ((hO.2.2 p j hpm hlt).mpr q.2)))
                | exact ih (j + 1) (some j) (by omega) (by omega) (htake ⟨⟨h44, by first | exact Or.inl ((nI_eq (by omega) (by omega)).mp h50) | exact Or.inr h65⟩, (hO.2.2 p j hpm hlt).mp h93⟩ (fun b hb => by cases hb))
          · refine wp_aload_n dX12_strengthAt_53 rfl ?_
            refine wp_geta dX12_strengthAt_54 fl_RX12_57 rfl (fk_33 hF) (fr_33_18 hF) ?_
            refine wp_iload dX12_strengthAt_57 rfl ?_
            refine wp_ialoadN dX12_strengthAt_59 (fk_46 hF) (by omega) (by decide) ?_
            refine wp_iload_n dX12_strengthAt_60 rfl ?_
            refine wp_ishr dX12_strengthAt_61 ?_
            refine wp_iconst (v := 1) dX12_strengthAt_62 (by decide) ?_
            refine wp_iand dX12_strengthAt_63 ?_
            refine wp_iconst (v := 1) dX12_strengthAt_64 (by decide) ?_
            refine wp_icmp_ne (tgt := 72) dX12_strengthAt_65 (by decide) (fun h65 => ?_) (fun h65 => ?_)
            · refine wp_iconst (v := 0) dX12_strengthAt_72 (by decide) ?_
              refine wp_istore dX12_strengthAt_73 (by decide) ?_
              refine wp_iload dX12_strengthAt_75 rfl ?_
              refine wp_if_eq (tgt := 116) dX12_strengthAt_77 (by decide) (fun _ => ?_) (fun h77 => absurd rfl h77)
              refine wp_incN dX12_strengthAt_116 rfl (by decide) ?_
              refine wp_goto (tgt := 28) dX12_strengthAt_119 (by decide) ?_
              refine wp_forget 8 ?_
              first
                | exact ih (j + 1) none (by omega) (by omega) (hskip (fun q => by first | exact h44 q.1.1 | exact q.1.2.elim (fun z => h50 (by rw [z])) h65))
                | exact ih (j + 1) none (by omega) (by omega) (hskip (fun q => h93 ((hO.2.2 p j hpm hlt).mpr q.2)))
                | exact ih (j + 1) (some j) (by omega) (by omega) (htake ⟨⟨h44, by first | exact Or.inl ((nI_eq (by omega) (by omega)).mp h50) | exact Or.inr h65⟩, (hO.2.2 p j hpm hlt).mp h93⟩ (fun b hb => by cases hb))
            · refine wp_iconst (v := 1) dX12_strengthAt_68 (by decide) ?_
              refine wp_goto (tgt := 73) dX12_strengthAt_69 (by decide) ?_
              refine wp_istore dX12_strengthAt_73 (by decide) ?_
              refine wp_iload dX12_strengthAt_75 rfl ?_
              refine wp_if_eq (tgt := 116) dX12_strengthAt_77 (by decide) (fun h77 => absurd h77 (by decide)) (fun _ => ?_)
              refine wp_iload dX12_strengthAt_80 rfl ?_
              refine wp_if_lt (tgt := 96) dX12_strengthAt_82 (by decide) (fun h82 => absurd h82 (nI_pos (by omega))) (fun _ => ?_)
              refine wp_aload_n dX12_strengthAt_85 rfl ?_
              refine wp_iload dX12_strengthAt_86 rfl ?_
              refine wp_iload dX12_strengthAt_88 rfl ?_
              refine wp_callv2 (ci := 12) dX12_strengthAt_90 lk_RX12_188 ok_X12_isAhead im_X12_isAhead se_X12_isAhead rfl rfl (fk_33 hF) (Nat.le_of_ble_eq_true rfl) (Nat.le_of_ble_eq_true rfl) ?_
              refine c_X12_isAhead hF (by omega) (by omega) ?_
              refine wp_ifb_eq (tgt := 116) dX12_strengthAt_93 (by decide) (fun h93 => ?_) (fun h93 => ?_)
              · refine wp_incN dX12_strengthAt_116 rfl (by decide) ?_
                refine wp_goto (tgt := 28) dX12_strengthAt_119 (by decide) ?_
                refine wp_forget 8 ?_
                first
                  | exact ih (j + 1) none (by omega) (by omega) (hskip (fun q => by first | exact h44 q.1.1 | exact q.1.2.elim (fun z => h50 (by rw [z])) h65))
                  | exact ih (j + 1) none (by omega) (by omega) (hskip (fun q => h93 ((hO.2.2 p j hpm hlt).mpr q.2)))
                  | exact ih (j + 1) (some j) (by omega) (by omega) (htake ⟨⟨h44, by first | exact Or.inl ((nI_eq (by omega) (by omega)).mp h50) | exact Or.inr h65⟩, (hO.2.2 p j hpm hlt).mp h93⟩ (fun b hb => by cases hb))
              · refine wp_iload dX12_strengthAt_96 rfl ?_
                refine wp_if_lt (tgt := 112) dX12_strengthAt_98 (by decide) (fun _ => ?_) (fun h98 => absurd h98 (fun h => h (by decide)))
                refine wp_iload dX12_strengthAt_112 rfl ?_
                refine wp_istore dX12_strengthAt_114 (by decide) ?_
                refine wp_incN dX12_strengthAt_116 rfl (by decide) ?_
                refine wp_goto (tgt := 28) dX12_strengthAt_119 (by decide) ?_
                refine wp_forget 8 ?_
                first
                  | exact ih (j + 1) none (by omega) (by omega) (hskip (fun q => by first | exact h44 q.1.1 | exact q.1.2.elim (fun z => h50 (by rw [z])) h65))
                  | exact ih (j + 1) none (by omega) (by omega) (hskip (fun q => h93 ((hO.2.2 p j hpm hlt).mpr q.2)))
                  | exact ih (j + 1) (some j) (by omega) (by omega) (htake ⟨⟨h44, by first | exact Or.inl ((nI_eq (by omega) (by omega)).mp h50) | exact Or.inr h65⟩, (hO.2.2 p j hpm hlt).mp h93⟩ (fun b hb => by cases hb))
      | some b =>
        have hbm := hnb b rfl
        refine wp_iload dX12_strengthAt_28 rfl ?_
        refine wp_aload_n dX12_strengthAt_30 rfl ?_
        refine wp_geti dX12_strengthAt_31 fl_RX12_159 rfl (fk_33 hF) ?_
        refine wp_icmp_ge (tgt := 122) dX12_strengthAt_34 (by decide) (fun h34 => absurd h34 (by rw [hm]; exact nI_ge (by omega) (by omega))) (fun _ => ?_)
        refine wp_aload_n dX12_strengthAt_37 rfl ?_
        refine wp_geta dX12_strengthAt_38 fl_RX12_60 rfl (fk_33 hF) (fr_33_19 hF) ?_
        refine wp_iload dX12_strengthAt_41 rfl ?_
        refine wp_baloadN dX12_strengthAt_43 (fk_47 hF) (by decide) (by omega) (by decide) ?_
        refine wp_if_ne (tgt := 72) dX12_strengthAt_44 (by decide) (fun h44 => ?_) (fun h44 => ?_)
        · refine wp_iconst (v := 0) dX12_strengthAt_72 (by decide) ?_
          refine wp_istore dX12_strengthAt_73 (by decide) ?_
          refine wp_iload dX12_strengthAt_75 rfl ?_
          refine wp_if_eq (tgt := 116) dX12_strengthAt_77 (by decide) (fun _ => ?_) (fun h77 => absurd rfl h77)
          refine wp_incN dX12_strengthAt_116 rfl (by decide) ?_
          refine wp_goto (tgt := 28) dX12_strengthAt_119 (by decide) ?_
          refine wp_forget 8 ?_
          first
            | exact ih (j + 1) (some b) (by omega) (by omega) (hskip (fun q => by first | exact h44 q.1.1 | exact q.1.2.elim (fun z => h50 (by rw [z])) h65))
            | exact ih (j + 1) (some b) (by omega) (by omega) (hskip (fun q => h93 ((hO.2.2 p j hpm hlt).mpr q.2)))
            | exact ih (j + 1) (some b) (by omega) (by omega) (hkeep b rfl (fun q => h109 ((hO.2.2 j b hlt hbm).mpr q)))
            | exact ih (j + 1) (some j) (by omega) (by omega) (htake ⟨⟨h44, by first | exact Or.inl ((nI_eq (by omega) (by omega)).mp h50) | exact Or.inr h65⟩, (hO.2.2 p j hpm hlt).mp h93⟩ (fun b' hb => by cases hb; exact (hO.2.2 j b hlt hbm).mp h109))
        · refine wp_iload dX12_strengthAt_47 rfl ?_
          refine wp_iload_n dX12_strengthAt_49 rfl ?_
          refine wp_icmp_eq (tgt := 68) dX12_strengthAt_50 (by decide) (fun h50 => ?_) (fun h50 => ?_)
          · refine wp_iconst (v := 1) dX12_strengthAt_68 (by decide) ?_
            refine wp_goto (tgt := 73) dX12_strengthAt_69 (by decide) ?_
            refine wp_istore dX12_strengthAt_73 (by decide) ?_
            refine wp_iload dX12_strengthAt_75 rfl ?_
            refine wp_if_eq (tgt := 116) dX12_strengthAt_77 (by decide) (fun h77 => absurd h77 (by decide)) (fun _ => ?_)
            refine wp_iload dX12_strengthAt_80 rfl ?_
            refine wp_if_lt (tgt := 96) dX12_strengthAt_82 (by decide) (fun h82 => absurd h82 (nI_pos (by omega))) (fun _ => ?_)
            refine wp_aload_n dX12_strengthAt_85 rfl ?_
            refine wp_iload dX12_strengthAt_86 rfl ?_
            refine wp_iload dX12_strengthAt_88 rfl ?_
            refine wp_callv2 (ci := 12) dX12_strengthAt_90 lk_RX12_188 ok_X12_isAhead im_X12_isAhead se_X12_isAhead rfl rfl (fk_33 hF) (Nat.le_of_ble_eq_true rfl) (Nat.le_of_ble_eq_true rfl) ?_
            refine c_X12_isAhead hF (by omega) (by omega) ?_
            refine wp_ifb_eq (tgt := 116) dX12_strengthAt_93 (by decide) (fun h93 => ?_) (fun h93 => ?_)
            · refine wp_incN dX12_strengthAt_116 rfl (by decide) ?_
              refine wp_goto (tgt := 28) dX12_strengthAt_119 (by decide) ?_
              refine wp_forget 8 ?_
              first
                | exact ih (j + 1) (some b) (by omega) (by omega) (hskip (fun q => by first | exact h44 q.1.1 | exact q.1.2.elim (fun z => h50 (by rw [z])) h65))
                | exact ih (j + 1) (some b) (by omega) (by omega) (hskip (fun q => h93 ((hO.2.2 p j hpm hlt).mpr q.2)))
                | exact ih (j + 1) (some b) (by omega) (by omega) (hkeep b rfl (fun q => h109 ((hO.2.2 j b hlt hbm).mpr q)))
                | exact ih (j + 1) (some j) (by omega) (by omega) (htake ⟨⟨h44, by first | exact Or.inl ((nI_eq (by omega) (by omega)).mp h50) | exact Or.inr h65⟩, (hO.2.2 p j hpm hlt).mp h93⟩ (fun b' hb => by cases hb; exact (hO.2.2 j b hlt hbm).mp h109))
            · refine wp_iload dX12_strengthAt_96 rfl ?_
              refine wp_if_lt (tgt := 112) dX12_strengthAt_98 (by decide) (fun h98 => absurd h98 (nI_pos (by omega))) (fun _ => ?_)
              refine wp_aload_n dX12_strengthAt_101 rfl ?_
              refine wp_iload dX12_strengthAt_102 rfl ?_
              refine wp_iload dX12_strengthAt_104 rfl ?_
              refine wp_callv2 (ci := 12) dX12_strengthAt_106 lk_RX12_188 ok_X12_isAhead im_X12_isAhead se_X12_isAhead rfl rfl (fk_33 hF) (Nat.le_of_ble_eq_true rfl) (Nat.le_of_ble_eq_true rfl) ?_
              refine c_X12_isAhead hF (by omega) (by omega) ?_
              refine wp_ifb_eq (tgt := 116) dX12_strengthAt_109 (by decide) (fun h109 => ?_) (fun h109 => ?_)
              · refine wp_incN dX12_strengthAt_116 rfl (by decide) ?_
                refine wp_goto (tgt := 28) dX12_strengthAt_119 (by decide) ?_
                refine wp_forget 8 ?_
                first
                  | exact ih (j + 1) (some b) (by omega) (by omega) (hskip (fun q => by first | exact h44 q.1.1 | exact q.1.2.elim (fun z => h50 (by rw [z])) h65))
                  | exact ih (j + 1) (some b) (by omega) (by omega) (hskip (fun q => h93 ((hO.2.2 p j hpm hlt).mpr q.2)))
                  | exact ih (j + 1) (some b) (by omega) (by omega) (hkeep b rfl (fun q => h109 ((hO.2.2 j b hlt hbm).mpr q)))
                  | exact ih (j + 1) (some j) (by omega) (by omega) (htake ⟨⟨h44, by first | exact Or.inl ((nI_eq (by omega) (by omega)).mp h50) | exact Or.inr h65⟩, (hO.2.2 p j hpm hlt).mp h93⟩ (fun b' hb => by cases hb; exact (hO.2.2 j b hlt hbm).mp h109))
              · refine wp_iload dX12_strengthAt_112 rfl ?_
                refine wp_istore dX12_strengthAt_114 (by decide) ?_
                refine wp_incN dX12_strengthAt_116 rfl (by decide) ?_
                refine wp_goto (tgt := 28) dX12_strengthAt_119 (by decide) ?_
                refine wp_forget 8 ?_
                first
                  | exact ih (j + 1) (some b) (by omega) (by omega) (hskip (fun q => by first | exact h44 q.1.1 | exact q.1.2.elim (fun z => h50 (by rw [z])) h65))
                  | exact ih (j + 1) (some b) (by omega) (by omega) (hskip (fun q => h93 ((hO.2.2 p j hpm hlt).mpr q.2)))
                  | exact ih (j + 1) (some b) (by omega) (by omega) (hkeep b rfl (fun q => h109 ((hO.2.2 j b hlt hbm).mpr q)))
                  | exact ih (j + 1) (some j) (by omega) (by omega) (htake ⟨⟨h44, by first | exact Or.inl ((nI_eq (by omega) (by omega)).mp h50) | exact Or.inr h65⟩, (hO.2.2 p j hpm hlt).mp h93⟩ (fun b' hb => by cases hb; exact (hO.2.2 j b hlt hbm).mp h109))
          · refine wp_aload_n dX12_strengthAt_53 rfl ?_
            refine wp_geta dX12_strengthAt_54 fl_RX12_57 rfl (fk_33 hF) (fr_33_18 hF) ?_
            refine wp_iload dX12_strengthAt_57 rfl ?_
            refine wp_ialoadN dX12_strengthAt_59 (fk_46 hF) (by omega) (by decide) ?_
            refine wp_iload_n dX12_strengthAt_60 rfl ?_
            refine wp_ishr dX12_strengthAt_61 ?_
            refine wp_iconst (v := 1) dX12_strengthAt_62 (by decide) ?_
            refine wp_iand dX12_strengthAt_63 ?_
            refine wp_iconst (v := 1) dX12_strengthAt_64 (by decide) ?_
            refine wp_icmp_ne (tgt := 72) dX12_strengthAt_65 (by decide) (fun h65 => ?_) (fun h65 => ?_)
            · refine wp_iconst (v := 0) dX12_strengthAt_72 (by decide) ?_
              refine wp_istore dX12_strengthAt_73 (by decide) ?_
              refine wp_iload dX12_strengthAt_75 rfl ?_
              refine wp_if_eq (tgt := 116) dX12_strengthAt_77 (by decide) (fun _ => ?_) (fun h77 => absurd rfl h77)
              refine wp_incN dX12_strengthAt_116 rfl (by decide) ?_
              refine wp_goto (tgt := 28) dX12_strengthAt_119 (by decide) ?_
              refine wp_forget 8 ?_
              first
                | exact ih (j + 1) (some b) (by omega) (by omega) (hskip (fun q => by first | exact h44 q.1.1 | exact q.1.2.elim (fun z => h50 (by rw [z])) h65))
                | exact ih (j + 1) (some b) (by omega) (by omega) (hskip (fun q => h93 ((hO.2.2 p j hpm hlt).mpr q.2)))
                | exact ih (j + 1) (some b) (by omega) (by omega) (hkeep b rfl (fun q => h109 ((hO.2.2 j b hlt hbm).mpr q)))
                | exact ih (j + 1) (some j) (by omega) (by omega) (htake ⟨⟨h44, by first | exact Or.inl ((nI_eq (by omega) (by omega)).mp h50) | exact Or.inr h65⟩, (hO.2.2 p j hpm hlt).mp h93⟩ (fun b' hb => by cases hb; exact (hO.2.2 j b hlt hbm).mp h109))
            · refine wp_iconst (v := 1) dX12_strengthAt_68 (by decide) ?_
              refine wp_goto (tgt := 73) dX12_strengthAt_69 (by decide) ?_
              refine wp_istore dX12_strengthAt_73 (by decide) ?_
              refine wp_iload dX12_strengthAt_75 rfl ?_
              refine wp_if_eq (tgt := 116) dX12_strengthAt_77 (by decide) (fun h77 => absurd h77 (by decide)) (fun _ => ?_)
              refine wp_iload dX12_strengthAt_80 rfl ?_
              refine wp_if_lt (tgt := 96) dX12_strengthAt_82 (by decide) (fun h82 => absurd h82 (nI_pos (by omega))) (fun _ => ?_)
              refine wp_aload_n dX12_strengthAt_85 rfl ?_
              refine wp_iload dX12_strengthAt_86 rfl ?_
              refine wp_iload dX12_strengthAt_88 rfl ?_
              refine wp_callv2 (ci := 12) dX12_strengthAt_90 lk_RX12_188 ok_X12_isAhead im_X12_isAhead se_X12_isAhead rfl rfl (fk_33 hF) (Nat.le_of_ble_eq_true rfl) (Nat.le_of_ble_eq_true rfl) ?_
              refine c_X12_isAhead hF (by omega) (by omega) ?_
              refine wp_ifb_eq (tgt := 116) dX12_strengthAt_93 (by decide) (fun h93 => ?_) (fun h93 => ?_)
              · refine wp_incN dX12_strengthAt_116 rfl (by decide) ?_
                refine wp_goto (tgt := 28) dX12_strengthAt_119 (by decide) ?_
                refine wp_forget 8 ?_
                first
                  | exact ih (j + 1) (some b) (by omega) (by omega) (hskip (fun q => by first | exact h44 q.1.1 | exact q.1.2.elim (fun z => h50 (by rw [z])) h65))
                  | exact ih (j + 1) (some b) (by omega) (by omega) (hskip (fun q => h93 ((hO.2.2 p j hpm hlt).mpr q.2)))
                  | exact ih (j + 1) (some b) (by omega) (by omega) (hkeep b rfl (fun q => h109 ((hO.2.2 j b hlt hbm).mpr q)))
                  | exact ih (j + 1) (some j) (by omega) (by omega) (htake ⟨⟨h44, by first | exact Or.inl ((nI_eq (by omega) (by omega)).mp h50) | exact Or.inr h65⟩, (hO.2.2 p j hpm hlt).mp h93⟩ (fun b' hb => by cases hb; exact (hO.2.2 j b hlt hbm).mp h109))
              · refine wp_iload dX12_strengthAt_96 rfl ?_
                refine wp_if_lt (tgt := 112) dX12_strengthAt_98 (by decide) (fun h98 => absurd h98 (nI_pos (by omega))) (fun _ => ?_)
                refine wp_aload_n dX12_strengthAt_101 rfl ?_
                refine wp_iload dX12_strengthAt_102 rfl ?_
                refine wp_iload dX12_strengthAt_104 rfl ?_
                refine wp_callv2 (ci := 12) dX12_strengthAt_106 lk_RX12_188 ok_X12_isAhead im_X12_isAhead se_X12_isAhead rfl rfl (fk_33 hF) (Nat.le_of_ble_eq_true rfl) (Nat.le_of_ble_eq_true rfl) ?_
                refine c_X12_isAhead hF (by omega) (by omega) ?_
                refine wp_ifb_eq (tgt := 116) dX12_strengthAt_109 (by decide) (fun h109 => ?_) (fun h109 => ?_)
                · refine wp_incN dX12_strengthAt_116 rfl (by decide) ?_
                  refine wp_goto (tgt := 28) dX12_strengthAt_119 (by decide) ?_
                  refine wp_forget 8 ?_
                  first
                    | exact ih (j + 1) (some b) (by omega) (by omega) (hskip (fun q => by first | exact h44 q.1.1 | exact q.1.2.elim (fun z => h50 (by rw [z])) h65))
                    | exact ih (j + 1) (some b) (by omega) (by omega) (hskip (fun q => h93 ((hO.2.2 p j hpm hlt).mpr q.2)))
                    | exact ih (j + 1) (some b) (by omega) (by omega) (hkeep b rfl (fun q => h109 ((hO.2.2 j b hlt hbm).mpr q)))
                    | exact ih (j + 1) (some j) (by omega) (by omega) (htake ⟨⟨h44, by first | exact Or.inl ((nI_eq (by omega) (by omega)).mp h50) | exact Or.inr h65⟩, (hO.2.2 p j hpm hlt).mp h93⟩ (fun b' hb => by cases hb; exact (hO.2.2 j b hlt hbm).mp h109))
                · refine wp_iload dX12_strengthAt_112 rfl ?_
                  refine wp_istore dX12_strengthAt_114 (by decide) ?_
                  refine wp_incN dX12_strengthAt_116 rfl (by decide) ?_
                  refine wp_goto (tgt := 28) dX12_strengthAt_119 (by decide) ?_
                  refine wp_forget 8 ?_
                  first
                    | exact ih (j + 1) (some b) (by omega) (by omega) (hskip (fun q => by first | exact h44 q.1.1 | exact q.1.2.elim (fun z => h50 (by rw [z])) h65))
                    | exact ih (j + 1) (some b) (by omega) (by omega) (hskip (fun q => h93 ((hO.2.2 p j hpm hlt).mpr q.2)))
                    | exact ih (j + 1) (some b) (by omega) (by omega) (hkeep b rfl (fun q => h109 ((hO.2.2 j b hlt hbm).mpr q)))
                    | exact ih (j + 1) (some j) (by omega) (by omega) (htake ⟨⟨h44, by first | exact Or.inl ((nI_eq (by omega) (by omega)).mp h50) | exact Or.inr h65⟩, (hO.2.2 p j hpm hlt).mp h93⟩ (fun b' hb => by cases hb; exact (hO.2.2 j b hlt hbm).mp h109))
def vv (H : PH) (fr tt : Nat → Nat) (u : Int32) : Option Nat → Int32
  | none => u
  | some p => msub H fr tt u p
theorem l_X12_str_out (hF : Fix H) (hM : MJ H m fr tt) (hO : OP H m ord pos) (hi : i < m) (hdi : hI H 47 i = 0) : ∀ (f r : Nat) (u : Int32) (ah : Option Nat), m - tOf pos ah = f → (∀ p, ah = some p → p < m) → tOf pos ah ≤ pos i → r ≤ tOf pos ah → Q (some (.int (mstrF H fr tt ord i hh (m - tOf pos ah) (tOf pos ah) (vv H fr tt u ah) ah))) H → Wp mX12_strengthAt (d + 3) 0 0 13 [some (.ref 33), some (.int (nI i)), some (.int (nI hh)), some (.int u), some (.int (befV ah)), some (.int (nI r)), none, none, none] [] H Q := by
  have hm := hM.1
  have h10 := hM.2.1
  have hpi := (hO.2.1 i hi).1
  intro f
  induction f using Nat.strongRecOn with
  | _ f ih =>
    intro r u ah hf hah ht hr hq
    have kont : ∀ nx, nxV H pos i hh (tOf pos ah) m nx → Wp mX12_strengthAt (d + 3) 0 0 122 [some (.ref 33), some (.int (nI i)), some (.int (nI hh)), some (.int u), some (.int (befV ah)), some (.int (nI r)), some (.int (befV nx)), none, none] [] H Q := by
      intro nx hnx
      cases nx with
      | none => exact absurd ⟨⟨hdi, Or.inl rfl⟩, ht⟩ (hnx i hi)
      | some b =>
        obtain ⟨hbm, hbc, hbl⟩ := hnx
        have hbi : pos b ≤ pos i := hbl i hi ⟨⟨hdi, Or.inl rfl⟩, ht⟩
        have hob := (hO.2.1 b hbm).2
        have hstep : mstrF H fr tt ord i hh (m - tOf pos ah) (tOf pos ah) (vv H fr tt u ah) ah = if b = i then mrst H fr tt b (vv H fr tt u ah) ah else mstrF H fr tt ord i hh (m - (pos b + 1)) (pos b + 1) (msub H fr tt (mrst H fr tt b (vv H fr tt u ah) ah) b) (some b) := by
          rw [mstrF_skip H fr tt ord i hh m _ _ (pos b - tOf pos ah) (tOf pos ah) (by have := hbc.2; omega) (fun s h1 h2 h3 => by
            have hs : s < m := by have := hbc.2; omega
            have := hbl (ord s) (hO.1 s hs).1 ⟨h3, by rw [(hO.1 s hs).2]; exact h1⟩
            rw [(hO.1 s hs).2] at this
            have := hbc.2; omega)]
          have e1 : tOf pos ah + (pos b - tOf pos ah) = pos b := by have := hbc.2; omega
          rw [e1, show m - pos b = (m - (pos b + 1)) + 1 by omega, mstrF, hob, if_neg (fun q => q hbc.1)]
        rw [hstep] at hq
        have hfin : ∀ v, v = mrst H fr tt b (vv H fr tt u ah) ah → Wp mX12_strengthAt (d + 3) 0 0 195 [some (.ref 33), some (.int (nI i)), some (.int (nI hh)), some (.int v), some (.int (befV ah)), some (.int (nI r)), some (.int (nI b)), none, none] [] H Q := by
          intro v hv
          refine wp_iload dX12_strengthAt_195 rfl ?_
          refine wp_iload_n dX12_strengthAt_197 rfl ?_
          refine wp_icmp_ne (tgt := 203) dX12_strengthAt_198 (by decide) (fun h198 => ?_) (fun h198 => ?_)
          · refine wp_iload dX12_strengthAt_203 rfl ?_
            refine wp_istore dX12_strengthAt_205 (by decide) ?_
            refine wp_incN dX12_strengthAt_207 rfl (by decide) ?_
            refine wp_goto (tgt := 13) dX12_strengthAt_210 (by decide) ?_
            rw [if_neg (fun q => h198 (by rw [q]))] at hq
            have hne : b ≠ i := fun q => h198 (by rw [q])
            have hlt : pos b < pos i := by
              rcases Nat.lt_or_ge (pos b) (pos i) with q | q
              · exact q
              · have e9 : pos b = pos i := by omega
                exact absurd (by rw [← hob, e9, (hO.2.1 i hi).2]) hne
            refine wp_forget 6 (ih (m - (pos b + 1)) (by have := hbc.2; omega) (r + 1) v (some b) rfl (fun p hp => by cases hp; exact hbm) hlt (by have := hbc.2; show r + 1 ≤ pos b + 1; omega) ?_)
            rw [hv]; exact hq
          · refine wp_iload_n dX12_strengthAt_201 rfl ?_
            refine wp_ireturn rfl dX12_strengthAt_202 ?_
            rw [if_pos ((nI_eq (by omega) (by omega)).mp h198)] at hq
            rw [hv]; exact hq
        cases ah with
        | none =>
          refine wp_iload dX12_strengthAt_122 rfl ?_
          refine wp_if_lt (tgt := 195) dX12_strengthAt_124 (by decide) (fun _ => ?_) (fun h124 => absurd h124 (fun h => h (by decide)))
          exact hfin u rfl
        | some p =>
          have hpm := hah p rfl
          refine wp_iload dX12_strengthAt_122 rfl ?_
          refine wp_if_lt (tgt := 195) dX12_strengthAt_124 (by decide) (fun h124 => absurd h124 (nI_pos (by omega))) (fun _ => ?_)
          refine wp_iload_n dX12_strengthAt_127 rfl ?_
          refine wp_aload_n dX12_strengthAt_128 rfl ?_
          refine wp_iload dX12_strengthAt_129 rfl ?_
          refine wp_callv1 (ci := 12) dX12_strengthAt_131 lk_RX12_204 ok_X12_costOf im_X12_costOf se_X12_costOf rfl rfl (fk_33 hF) (Nat.le_of_ble_eq_true rfl) (Nat.le_of_ble_eq_true rfl) ?_
          refine c_X12_costOf hF hM hpm ?_
          refine wp_icmp_ge (tgt := 141) dX12_strengthAt_134 (by decide) (fun h134 => ?_) (fun h134 => ?_)
          · refine wp_iload_n dX12_strengthAt_141 rfl ?_
            refine wp_aload_n dX12_strengthAt_142 rfl ?_
            refine wp_iload dX12_strengthAt_143 rfl ?_
            refine wp_callv1 (ci := 12) dX12_strengthAt_145 lk_RX12_204 ok_X12_costOf im_X12_costOf se_X12_costOf rfl rfl (fk_33 hF) (Nat.le_of_ble_eq_true rfl) (Nat.le_of_ble_eq_true rfl) ?_
            refine c_X12_costOf hF hM hpm ?_
            refine wp_isub dX12_strengthAt_148 ?_
            refine wp_istore_n dX12_strengthAt_149 (by decide) ?_
            refine wp_aload_n dX12_strengthAt_150 rfl ?_
            refine wp_geta dX12_strengthAt_151 fl_RX12_48 rfl (fk_33 hF) (fr_33_15 hF) ?_
            refine wp_iload dX12_strengthAt_154 rfl ?_
            refine wp_ialoadN dX12_strengthAt_156 (fk_43 hF) (by omega) (by decide) ?_
            refine wp_aload_n dX12_strengthAt_157 rfl ?_
            refine wp_iload dX12_strengthAt_158 rfl ?_
            refine wp_callv1 (ci := 12) dX12_strengthAt_160 lk_RX12_178 ok_X12_endOf im_X12_endOf se_X12_endOf rfl rfl (fk_33 hF) (Nat.le_of_ble_eq_true rfl) (Nat.le_of_ble_eq_true rfl) ?_
            refine c_X12_endOf hF hM hpm ?_
            refine wp_isub dX12_strengthAt_163 ?_
            refine wp_istore dX12_strengthAt_164 (by decide) ?_
            refine wp_iload dX12_strengthAt_166 rfl ?_
            refine wp_if_le (tgt := 178) dX12_strengthAt_168 (by decide) (fun h168 => ?_) (fun h168 => ?_)
            · refine wp_iload_n dX12_strengthAt_178 rfl ?_
              refine wp_istore_n dX12_strengthAt_179 (by decide) ?_
              refine wp_iload_n dX12_strengthAt_180 rfl ?_
              refine wp_sipush (v := 1000) dX12_strengthAt_181 (by decide) ?_
              refine wp_icmp_le (tgt := 193) dX12_strengthAt_184 (by decide) (fun h184 => ?_) (fun h184 => ?_)
              · refine wp_iload_n dX12_strengthAt_193 rfl ?_
                refine wp_istore_n dX12_strengthAt_194 (by decide) ?_
                refine wp_forget 7 (hfin _ ?_)
                show _ = cutR (addR (msub H fr tt u p) (hI H 43 b - mEnd H fr tt p))
                first | rw [show msub H fr tt u p = u - mCost H fr tt p from if_pos h134] | rw [show msub H fr tt u p = 0 from if_neg h134]
                first | (rw [addR, if_pos h168]) | (rw [addR, if_neg h168])
                first | (rw [cutR, if_pos h184]) | (rw [cutR, if_neg h184])
              · refine wp_sipush (v := 1000) dX12_strengthAt_187 (by decide) ?_
                refine wp_goto (tgt := 194) dX12_strengthAt_190 (by decide) ?_
                refine wp_istore_n dX12_strengthAt_194 (by decide) ?_
                refine wp_forget 7 (hfin _ ?_)
                show _ = cutR (addR (msub H fr tt u p) (hI H 43 b - mEnd H fr tt p))
                first | rw [show msub H fr tt u p = u - mCost H fr tt p from if_pos h134] | rw [show msub H fr tt u p = 0 from if_neg h134]
                first | (rw [addR, if_pos h168]) | (rw [addR, if_neg h168])
                first | (rw [cutR, if_pos h184]) | (rw [cutR, if_neg h184])
            · refine wp_iload_n dX12_strengthAt_171 rfl ?_
              refine wp_iload dX12_strengthAt_172 rfl ?_
              refine wp_iadd dX12_strengthAt_174 ?_
              refine wp_goto (tgt := 179) dX12_strengthAt_175 (by decide) ?_
              refine wp_istore_n dX12_strengthAt_179 (by decide) ?_
              refine wp_iload_n dX12_strengthAt_180 rfl ?_
              refine wp_sipush (v := 1000) dX12_strengthAt_181 (by decide) ?_
              refine wp_icmp_le (tgt := 193) dX12_strengthAt_184 (by decide) (fun h184 => ?_) (fun h184 => ?_)
              · refine wp_iload_n dX12_strengthAt_193 rfl ?_
                refine wp_istore_n dX12_strengthAt_194 (by decide) ?_
                refine wp_forget 7 (hfin _ ?_)
                show _ = cutR (addR (msub H fr tt u p) (hI H 43 b - mEnd H fr tt p))
                first | rw [show msub H fr tt u p = u - mCost H fr tt p from if_pos h134] | rw [show msub H fr tt u p = 0 from if_neg h134]
                first | (rw [addR, if_pos h168]) | (rw [addR, if_neg h168])
                first | (rw [cutR, if_pos h184]) | (rw [cutR, if_neg h184])
              · refine wp_sipush (v := 1000) dX12_strengthAt_187 (by decide) ?_
                refine wp_goto (tgt := 194) dX12_strengthAt_190 (by decide) ?_
                refine wp_istore_n dX12_strengthAt_194 (by decide) ?_
                refine wp_forget 7 (hfin _ ?_)
                show _ = cutR (addR (msub H fr tt u p) (hI H 43 b - mEnd H fr tt p))
                first | rw [show msub H fr tt u p = u - mCost H fr tt p from if_pos h134] | rw [show msub H fr tt u p = 0 from if_neg h134]
                first | (rw [addR, if_pos h168]) | (rw [addR, if_neg h168])
                first | (rw [cutR, if_pos h184]) | (rw [cutR, if_neg h184])
          · refine wp_iconst (v := 0) dX12_strengthAt_137 (by decide) ?_
            refine wp_goto (tgt := 149) dX12_strengthAt_138 (by decide) ?_
            refine wp_istore_n dX12_strengthAt_149 (by decide) ?_
            refine wp_aload_n dX12_strengthAt_150 rfl ?_
            refine wp_geta dX12_strengthAt_151 fl_RX12_48 rfl (fk_33 hF) (fr_33_15 hF) ?_
            refine wp_iload dX12_strengthAt_154 rfl ?_
            refine wp_ialoadN dX12_strengthAt_156 (fk_43 hF) (by omega) (by decide) ?_
            refine wp_aload_n dX12_strengthAt_157 rfl ?_
            refine wp_iload dX12_strengthAt_158 rfl ?_
            refine wp_callv1 (ci := 12) dX12_strengthAt_160 lk_RX12_178 ok_X12_endOf im_X12_endOf se_X12_endOf rfl rfl (fk_33 hF) (Nat.le_of_ble_eq_true rfl) (Nat.le_of_ble_eq_true rfl) ?_
            refine c_X12_endOf hF hM hpm ?_
            refine wp_isub dX12_strengthAt_163 ?_
            refine wp_istore dX12_strengthAt_164 (by decide) ?_
            refine wp_iload dX12_strengthAt_166 rfl ?_
            refine wp_if_le (tgt := 178) dX12_strengthAt_168 (by decide) (fun h168 => ?_) (fun h168 => ?_)
            · refine wp_iload_n dX12_strengthAt_178 rfl ?_
              refine wp_istore_n dX12_strengthAt_179 (by decide) ?_
              refine wp_iload_n dX12_strengthAt_180 rfl ?_
              refine wp_sipush (v := 1000) dX12_strengthAt_181 (by decide) ?_
              refine wp_icmp_le (tgt := 193) dX12_strengthAt_184 (by decide) (fun h184 => ?_) (fun h184 => ?_)
              · refine wp_iload_n dX12_strengthAt_193 rfl ?_
                refine wp_istore_n dX12_strengthAt_194 (by decide) ?_
                refine wp_forget 7 (hfin _ ?_)
                show _ = cutR (addR (msub H fr tt u p) (hI H 43 b - mEnd H fr tt p))
                first | rw [show msub H fr tt u p = u - mCost H fr tt p from if_pos h134] | rw [show msub H fr tt u p = 0 from if_neg h134]
                first | (rw [addR, if_pos h168]) | (rw [addR, if_neg h168])
                first | (rw [cutR, if_pos h184]) | (rw [cutR, if_neg h184])
              · refine wp_sipush (v := 1000) dX12_strengthAt_187 (by decide) ?_
                refine wp_goto (tgt := 194) dX12_strengthAt_190 (by decide) ?_
                refine wp_istore_n dX12_strengthAt_194 (by decide) ?_
                refine wp_forget 7 (hfin _ ?_)
                show _ = cutR (addR (msub H fr tt u p) (hI H 43 b - mEnd H fr tt p))
                first | rw [show msub H fr tt u p = u - mCost H fr tt p from if_pos h134] | rw [show msub H fr tt u p = 0 from if_neg h134]
                first | (rw [addR, if_pos h168]) | (rw [addR, if_neg h168])
                first | (rw [cutR, if_pos h184]) | (rw [cutR, if_neg h184])
            · refine wp_iload_n dX12_strengthAt_171 rfl ?_
              refine wp_iload dX12_strengthAt_172 rfl ?_
              refine wp_iadd dX12_strengthAt_174 ?_
              refine wp_goto (tgt := 179) dX12_strengthAt_175 (by decide) ?_
              refine wp_istore_n dX12_strengthAt_179 (by decide) ?_
              refine wp_iload_n dX12_strengthAt_180 rfl ?_
              refine wp_sipush (v := 1000) dX12_strengthAt_181 (by decide) ?_
              refine wp_icmp_le (tgt := 193) dX12_strengthAt_184 (by decide) (fun h184 => ?_) (fun h184 => ?_)
              · refine wp_iload_n dX12_strengthAt_193 rfl ?_
                refine wp_istore_n dX12_strengthAt_194 (by decide) ?_
                refine wp_forget 7 (hfin _ ?_)
                show _ = cutR (addR (msub H fr tt u p) (hI H 43 b - mEnd H fr tt p))
                first | rw [show msub H fr tt u p = u - mCost H fr tt p from if_pos h134] | rw [show msub H fr tt u p = 0 from if_neg h134]
                first | (rw [addR, if_pos h168]) | (rw [addR, if_neg h168])
                first | (rw [cutR, if_pos h184]) | (rw [cutR, if_neg h184])
              · refine wp_sipush (v := 1000) dX12_strengthAt_187 (by decide) ?_
                refine wp_goto (tgt := 194) dX12_strengthAt_190 (by decide) ?_
                refine wp_istore_n dX12_strengthAt_194 (by decide) ?_
                refine wp_forget 7 (hfin _ ?_)
                show _ = cutR (addR (msub H fr tt u p) (hI H 43 b - mEnd H fr tt p))
                first | rw [show msub H fr tt u p = u - mCost H fr tt p from if_pos h134] | rw [show msub H fr tt u p = 0 from if_neg h134]
                first | (rw [addR, if_pos h168]) | (rw [addR, if_neg h168])
                first | (rw [cutR, if_pos h184]) | (rw [cutR, if_neg h184])
    refine wp_iload dX12_strengthAt_13 rfl ?_
    refine wp_aload_n dX12_strengthAt_15 rfl ?_
    refine wp_geti dX12_strengthAt_16 fl_RX12_159 rfl (fk_33 hF) ?_
    refine wp_icmp_gt (tgt := 213) dX12_strengthAt_19 (by decide) (fun h19 => absurd h19 (by rw [hm]; exact nI_nlt (by omega) (by omega))) (fun _ => ?_)
    refine wp_iconst (v := -1) dX12_strengthAt_22 (by decide) ?_
    refine wp_istore dX12_strengthAt_23 (by decide) ?_
    refine wp_iconst (v := 0) dX12_strengthAt_25 (by decide) ?_
    refine wp_istore dX12_strengthAt_26 (by decide) ?_
    exact l_X12_str_in hF hM hO hi hah kont m 0 none (by omega) (by omega) (fun e he => absurd he (Nat.not_lt_zero e))
def strM (H : PH) (fr tt ord : Nat → Nat) (m i hh : Nat) : Int32 := mstrF H fr tt ord i hh m 0 (hI H 37 hh) none
theorem c_X12_strengthAt (hF : Fix H) (hM : MJ H m fr tt) (hO : OP H m ord pos) (hi : i < m) (hdi : hI H 47 i = 0) (hh1 : hh < 16) (hq : Q (some (.int (strM H fr tt ord m i hh))) H) : Wp mX12_strengthAt (d + 3) 0 0 0 [some (.ref 33), some (.int (nI i)), some (.int (nI hh)), none, none, none, none, none, none] [] H Q := by
  refine wp_aload_n dX12_strengthAt_0 rfl ?_
  refine wp_geta dX12_strengthAt_1 fl_RX12_29 rfl (fk_33 hF) (fr_33_8 hF) ?_
  refine wp_iload_n dX12_strengthAt_4 rfl ?_
  refine wp_ialoadN dX12_strengthAt_5 (fk_37 hF) (by omega) (by decide) ?_
  refine wp_istore_n dX12_strengthAt_6 (by decide) ?_
  refine wp_iconst (v := -1) dX12_strengthAt_7 (by decide) ?_
  refine wp_istore dX12_strengthAt_8 (by decide) ?_
  refine wp_iconst (v := 0) dX12_strengthAt_10 (by decide) ?_
  refine wp_istore dX12_strengthAt_11 (by decide) ?_
  exact l_X12_str_out hF hM hO hi hdi m 0 _ none rfl (fun p hp => by cases hp) (Nat.zero_le _) (Nat.zero_le _) hq
end MS
