theorem dX1_check_0 : decode cX1_check 0 = .ok (.iload_n 1, 1) := by decide +kernel
theorem dX1_check_1 : decode cX1_check 1 = .ok (.bipush 11, 2) := by decide +kernel
theorem dX1_check_3 : decode cX1_check 3 = .ok (.if_icmp .lt 6, 3) := by decide +kernel
theorem dX1_check_6 : decode cX1_check 6 = .ok (.bipush 6, 2) := by decide +kernel
theorem dX1_check_8 : decode cX1_check 8 = .ok (.ireturn, 1) := by decide +kernel
theorem dX1_check_9 : decode cX1_check 9 = .ok (.aload_n 0, 1) := by decide +kernel
theorem dX1_check_10 : decode cX1_check 10 = .ok (.getfield 53, 3) := by decide +kernel
theorem dX1_check_13 : decode cX1_check 13 = .ok (.iconst 3, 1) := by decide +kernel
theorem dX1_check_14 : decode cX1_check 14 = .ok (.aload_n 0, 1) := by decide +kernel
theorem dX1_check_15 : decode cX1_check 15 = .ok (.getfield 29, 3) := by decide +kernel
theorem dX1_check_18 : decode cX1_check 18 = .ok (.iload_n 1, 1) := by decide +kernel
theorem dX1_check_19 : decode cX1_check 19 = .ok (.aaload, 1) := by decide +kernel
theorem dX1_check_20 : decode cX1_check 20 = .ok (.invokevirtual 106, 3) := by decide +kernel
theorem dX1_check_23 : decode cX1_check 23 = .ok (.ifCond .eq 5, 3) := by decide +kernel
theorem dX1_check_26 : decode cX1_check 26 = .ok (.iconst 5, 1) := by decide +kernel
theorem dX1_check_27 : decode cX1_check 27 = .ok (.ireturn, 1) := by decide +kernel
theorem dX1_check_28 : decode cX1_check 28 = .ok (.aload_n 0, 1) := by decide +kernel
theorem dX1_check_29 : decode cX1_check 29 = .ok (.getfield 53, 3) := by decide +kernel
theorem dX1_check_32 : decode cX1_check 32 = .ok (.aload_n 0, 1) := by decide +kernel
theorem dX1_check_33 : decode cX1_check 33 = .ok (.getfield 29, 3) := by decide +kernel
theorem dX1_check_36 : decode cX1_check 36 = .ok (.iload_n 1, 1) := by decide +kernel
theorem dX1_check_37 : decode cX1_check 37 = .ok (.aaload, 1) := by decide +kernel
theorem dX1_check_38 : decode cX1_check 38 = .ok (.ldc 110, 2) := by decide +kernel
theorem dX1_check_40 : decode cX1_check 40 = .ok (.iconst 1, 1) := by decide +kernel
theorem dX1_check_41 : decode cX1_check 41 = .ok (.invokevirtual 112, 3) := by decide +kernel
theorem dX1_check_44 : decode cX1_check 44 = .ok (.istore_n 2, 1) := by decide +kernel
theorem dX1_check_45 : decode cX1_check 45 = .ok (.iload_n 2, 1) := by decide +kernel
theorem dX1_check_46 : decode cX1_check 46 = .ok (.ifCond .ge 15, 3) := by decide +kernel
theorem dX1_check_49 : decode cX1_check 49 = .ok (.iload_n 2, 1) := by decide +kernel
theorem dX1_check_50 : decode cX1_check 50 = .ok (.iconst (-1), 1) := by decide +kernel
theorem dX1_check_51 : decode cX1_check 51 = .ok (.if_icmp .ne 7, 3) := by decide +kernel
theorem dX1_check_54 : decode cX1_check 54 = .ok (.iconst 0, 1) := by decide +kernel
theorem dX1_check_55 : decode cX1_check 55 = .ok (.goto 5, 3) := by decide +kernel
theorem dX1_check_58 : decode cX1_check 58 = .ok (.bipush 6, 2) := by decide +kernel
theorem dX1_check_60 : decode cX1_check 60 = .ok (.ireturn, 1) := by decide +kernel
theorem dX1_check_61 : decode cX1_check 61 = .ok (.aload_n 0, 1) := by decide +kernel
theorem dX1_check_62 : decode cX1_check 62 = .ok (.getfield 53, 3) := by decide +kernel
theorem dX1_check_65 : decode cX1_check 65 = .ok (.iload_n 2, 1) := by decide +kernel
theorem dX1_check_66 : decode cX1_check 66 = .ok (.invokevirtual 116, 3) := by decide +kernel
theorem dX1_check_69 : decode cX1_check 69 = .ok (.astore_n 3, 1) := by decide +kernel
theorem dX1_check_70 : decode cX1_check 70 = .ok (.aload_n 0, 1) := by decide +kernel
theorem dX1_check_71 : decode cX1_check 71 = .ok (.getfield 35, 3) := by decide +kernel
theorem dX1_check_74 : decode cX1_check 74 = .ok (.iload_n 1, 1) := by decide +kernel
theorem dX1_check_75 : decode cX1_check 75 = .ok (.aaload, 1) := by decide +kernel
theorem dX1_check_76 : decode cX1_check 76 = .ok (.astore 4, 2) := by decide +kernel
theorem dX1_check_78 : decode cX1_check 78 = .ok (.aload_n 3, 1) := by decide +kernel
theorem dX1_check_79 : decode cX1_check 79 = .ok (.aload 4, 2) := by decide +kernel
theorem dX1_check_81 : decode cX1_check 81 = .ok (.invokestatic 120, 3) := by decide +kernel
theorem dX1_check_84 : decode cX1_check 84 = .ok (.istore 5, 2) := by decide +kernel
theorem dX1_check_86 : decode cX1_check 86 = .ok (.iload 5, 2) := by decide +kernel
theorem dX1_check_88 : decode cX1_check 88 = .ok (.iconst (-1), 1) := by decide +kernel
theorem dX1_check_89 : decode cX1_check 89 = .ok (.if_icmp .ne 6, 3) := by decide +kernel
theorem dX1_check_92 : decode cX1_check 92 = .ok (.bipush 6, 2) := by decide +kernel
theorem dX1_check_94 : decode cX1_check 94 = .ok (.ireturn, 1) := by decide +kernel
theorem dX1_check_95 : decode cX1_check 95 = .ok (.ldc 110, 2) := by decide +kernel
theorem dX1_check_97 : decode cX1_check 97 = .ok (.invokevirtual 124, 3) := by decide +kernel
theorem dX1_check_100 : decode cX1_check 100 = .ok (.iconst 1, 1) := by decide +kernel
theorem dX1_check_101 : decode cX1_check 101 = .ok (.iadd, 1) := by decide +kernel
theorem dX1_check_102 : decode cX1_check 102 = .ok (.istore 6, 2) := by decide +kernel
theorem dX1_check_104 : decode cX1_check 104 = .ok (.iload 6, 2) := by decide +kernel
theorem dX1_check_106 : decode cX1_check 106 = .ok (.aload_n 3, 1) := by decide +kernel
theorem dX1_check_107 : decode cX1_check 107 = .ok (.getfield 58, 3) := by decide +kernel
theorem dX1_check_110 : decode cX1_check 110 = .ok (.if_icmp .ge 74, 3) := by decide +kernel
theorem dX1_check_113 : decode cX1_check 113 = .ok (.aload_n 3, 1) := by decide +kernel
theorem dX1_check_114 : decode cX1_check 114 = .ok (.iload 6, 2) := by decide +kernel
theorem dX1_check_116 : decode cX1_check 116 = .ok (.invokestatic 130, 3) := by decide +kernel
theorem dX1_check_119 : decode cX1_check 119 = .ok (.ifCond .ne 6, 3) := by decide +kernel
theorem dX1_check_122 : decode cX1_check 122 = .ok (.goto 56, 3) := by decide +kernel
theorem dX1_check_125 : decode cX1_check 125 = .ok (.aload 4, 2) := by decide +kernel
theorem dX1_check_127 : decode cX1_check 127 = .ok (.aload_n 3, 1) := by decide +kernel
theorem dX1_check_128 : decode cX1_check 128 = .ok (.iload 6, 2) := by decide +kernel
theorem dX1_check_130 : decode cX1_check 130 = .ok (.aload_n 3, 1) := by decide +kernel
theorem dX1_check_131 : decode cX1_check 131 = .ok (.bipush 32, 2) := by decide +kernel
theorem dX1_check_133 : decode cX1_check 133 = .ok (.iload 6, 2) := by decide +kernel
theorem dX1_check_135 : decode cX1_check 135 = .ok (.aload_n 3, 1) := by decide +kernel
theorem dX1_check_136 : decode cX1_check 136 = .ok (.getfield 58, 3) := by decide +kernel
theorem dX1_check_139 : decode cX1_check 139 = .ok (.invokevirtual 61, 3) := by decide +kernel
theorem dX1_check_142 : decode cX1_check 142 = .ok (.invokevirtual 133, 3) := by decide +kernel
theorem dX1_check_145 : decode cX1_check 145 = .ok (.aload_n 0, 1) := by decide +kernel
theorem dX1_check_146 : decode cX1_check 146 = .ok (.aload_n 3, 1) := by decide +kernel
theorem dX1_check_147 : decode cX1_check 147 = .ok (.iload_n 1, 1) := by decide +kernel
theorem dX1_check_148 : decode cX1_check 148 = .ok (.invokevirtual 136, 3) := by decide +kernel
theorem dX1_check_151 : decode cX1_check 151 = .ok (.istore 7, 2) := by decide +kernel
theorem dX1_check_153 : decode cX1_check 153 = .ok (.iload 7, 2) := by decide +kernel
theorem dX1_check_155 : decode cX1_check 155 = .ok (.ifCond .eq 23, 3) := by decide +kernel
theorem dX1_check_158 : decode cX1_check 158 = .ok (.iload 7, 2) := by decide +kernel
theorem dX1_check_160 : decode cX1_check 160 = .ok (.iconst 2, 1) := by decide +kernel
theorem dX1_check_161 : decode cX1_check 161 = .ok (.if_icmp .ne 14, 3) := by decide +kernel
theorem dX1_check_164 : decode cX1_check 164 = .ok (.aload 4, 2) := by decide +kernel
theorem dX1_check_166 : decode cX1_check 166 = .ok (.getfield 140, 3) := by decide +kernel
theorem dX1_check_169 : decode cX1_check 169 = .ok (.invokestatic 143, 3) := by decide +kernel
theorem dX1_check_172 : decode cX1_check 172 = .ok (.goto 5, 3) := by decide +kernel
theorem dX1_check_175 : decode cX1_check 175 = .ok (.iload 7, 2) := by decide +kernel
theorem dX1_check_177 : decode cX1_check 177 = .ok (.ireturn, 1) := by decide +kernel
theorem dX1_check_178 : decode cX1_check 178 = .ok (.iinc 6 1, 3) := by decide +kernel
theorem dX1_check_181 : decode cX1_check 181 = .ok (.goto (-77), 3) := by decide +kernel
theorem dX1_check_184 : decode cX1_check 184 = .ok (.iload 5, 2) := by decide +kernel
theorem dX1_check_186 : decode cX1_check 186 = .ok (.ifCond .ne 5, 3) := by decide +kernel
theorem dX1_check_189 : decode cX1_check 189 = .ok (.iconst 1, 1) := by decide +kernel
theorem dX1_check_190 : decode cX1_check 190 = .ok (.ireturn, 1) := by decide +kernel
theorem dX1_check_191 : decode cX1_check 191 = .ok (.aload 4, 2) := by decide +kernel
theorem dX1_check_193 : decode cX1_check 193 = .ok (.aload_n 3, 1) := by decide +kernel
theorem dX1_check_194 : decode cX1_check 194 = .ok (.iload 5, 2) := by decide +kernel
theorem dX1_check_196 : decode cX1_check 196 = .ok (.aload_n 3, 1) := by decide +kernel
theorem dX1_check_197 : decode cX1_check 197 = .ok (.bipush 32, 2) := by decide +kernel
theorem dX1_check_199 : decode cX1_check 199 = .ok (.iload 5, 2) := by decide +kernel
theorem dX1_check_201 : decode cX1_check 201 = .ok (.aload_n 3, 1) := by decide +kernel
theorem dX1_check_202 : decode cX1_check 202 = .ok (.getfield 58, 3) := by decide +kernel
theorem dX1_check_205 : decode cX1_check 205 = .ok (.invokevirtual 61, 3) := by decide +kernel
theorem dX1_check_208 : decode cX1_check 208 = .ok (.invokevirtual 133, 3) := by decide +kernel
theorem dX1_check_211 : decode cX1_check 211 = .ok (.aload_n 0, 1) := by decide +kernel
theorem dX1_check_212 : decode cX1_check 212 = .ok (.aload_n 3, 1) := by decide +kernel
theorem dX1_check_213 : decode cX1_check 213 = .ok (.iload_n 1, 1) := by decide +kernel
theorem dX1_check_214 : decode cX1_check 214 = .ok (.invokevirtual 146, 3) := by decide +kernel
theorem dX1_check_217 : decode cX1_check 217 = .ok (.ireturn, 1) := by decide +kernel
theorem dX1_judge_0 : decode cX1_judge 0 = .ok (.aload_n 0, 1) := by decide +kernel
theorem dX1_judge_1 : decode cX1_judge 1 = .ok (.iconst 0, 1) := by decide +kernel
theorem dX1_judge_2 : decode cX1_judge 2 = .ok (.putfield 47, 3) := by decide +kernel
theorem dX1_judge_5 : decode cX1_judge 5 = .ok (.aload_n 0, 1) := by decide +kernel
theorem dX1_judge_6 : decode cX1_judge 6 = .ok (.iconst 0, 1) := by decide +kernel
theorem dX1_judge_7 : decode cX1_judge 7 = .ok (.putfield 50, 3) := by decide +kernel
theorem dX1_judge_10 : decode cX1_judge 10 = .ok (.aload_n 0, 1) := by decide +kernel
theorem dX1_judge_11 : decode cX1_judge 11 = .ok (.getfield 29, 3) := by decide +kernel
theorem dX1_judge_14 : decode cX1_judge 14 = .ok (.iconst 0, 1) := by decide +kernel
theorem dX1_judge_15 : decode cX1_judge 15 = .ok (.aaload, 1) := by decide +kernel
theorem dX1_judge_16 : decode cX1_judge 16 = .ok (.aload_n 0, 1) := by decide +kernel
theorem dX1_judge_17 : decode cX1_judge 17 = .ok (.getfield 23, 3) := by decide +kernel
theorem dX1_judge_20 : decode cX1_judge 20 = .ok (.invokevirtual 73, 3) := by decide +kernel
theorem dX1_judge_23 : decode cX1_judge 23 = .ok (.aload_n 0, 1) := by decide +kernel
theorem dX1_judge_24 : decode cX1_judge 24 = .ok (.iconst 0, 1) := by decide +kernel
theorem dX1_judge_25 : decode cX1_judge 25 = .ok (.invokevirtual 101, 3) := by decide +kernel
theorem dX1_judge_28 : decode cX1_judge 28 = .ok (.ireturn, 1) := by decide +kernel
theorem kt_636 : Cond.methodLink RX1 112 yX2_onlyText ∈ tb := tb_at (i := 610) (by decide +kernel) (by decide +kernel)
theorem kt_637 : Cond.code yX1_readTerms cX1_readTerms 5 (some .int) ∈ tb := tb_at (i := 678) (by decide +kernel) (by decide +kernel)
theorem kt_638 : Cond.methodLink RX1 120 yX1_readTerms ∈ tb := tb_at (i := 676) (by decide +kernel) (by decide +kernel)
theorem kt_639 : Cond.static yX1_readTerms ∈ tb := tb_at (i := 677) (by decide +kernel) (by decide +kernel)
theorem kt_640 : Cond.code yX1_follow cX1_follow 4 (some .int) ∈ tb := tb_at (i := 785) (by decide +kernel) (by decide +kernel)
theorem kt_641 : Cond.methodLink RX1 146 yX1_follow ∈ tb := tb_at (i := 782) (by decide +kernel) (by decide +kernel)
theorem kt_642 : Cond.instanceMethod yX1_follow ∈ tb := tb_at (i := 784) (by decide +kernel) (by decide +kernel)
theorem kt_643 : Cond.selects RX1 yX1_follow yX1_follow ∈ tb := tb_at (i := 12) (by decide +kernel) (by decide +kernel)
theorem kt_644 : Cond.code yX1_match cX1_match 5 (some .int) ∈ tb := tb_at (i := 730) (by decide +kernel) (by decide +kernel)
theorem kt_645 : Cond.methodLink RX1 136 yX1_match ∈ tb := tb_at (i := 727) (by decide +kernel) (by decide +kernel)
theorem kt_646 : Cond.instanceMethod yX1_match ∈ tb := tb_at (i := 729) (by decide +kernel) (by decide +kernel)
theorem kt_647 : Cond.selects RX1 yX1_match yX1_match ∈ tb := tb_at (i := 5) (by decide +kernel) (by decide +kernel)
theorem kt_648 : Cond.code yX1_answerOf cX1_answerOf 1 (some .int) ∈ tb := tb_at (i := 781) (by decide +kernel) (by decide +kernel)
theorem kt_649 : Cond.methodLink RX1 143 yX1_answerOf ∈ tb := tb_at (i := 779) (by decide +kernel) (by decide +kernel)
theorem kt_650 : Cond.static yX1_answerOf ∈ tb := tb_at (i := 780) (by decide +kernel) (by decide +kernel)
theorem kn_33 : Cond.fieldLinkNest RX1 140 "PostGate$Term" "sign" "I" "PostGate" ∈ nw := nw_at (i := 119) (by decide +kernel) rfl
theorem rtw_s {T : Nat → Nat} {z k i rd : Nat} : rtw T z (k + 1) i rd = @ite (Option Nat) (STT T i) (Classical.propDecidable _) ((rtx rd i (trT T i (fdT T 32 i z))).bind (fun x => rtw T z k (i + 1) x)) (rtw T z k (i + 1) rd) := rfl
theorem rtw_in {T : Nat → Nat} {z : Nat} : ∀ k i rd x, rtw T z k i rd = some x → x = rd ∨ (i ≤ x ∧ x < i + k ∧ STT T x ∧ ∃ t, trT T x (fdT T 32 x z) = some t ∧ t.1 = 7) := by
  intro k
  induction k with
  | zero =>
    intro i rd x h
    have h9 : some rd = some x := h
    exact Or.inl (Option.some.inj h9).symm
  | succ k ih =>
    intro i rd x h
    rw [rtw_s] at h
    by_cases c : STT T i
    · rw [if_pos c] at h
      cases e : trT T i (fdT T 32 i z) with
      | none =>
        rw [e] at h
        exact (nomatch h)
      | some t =>
        rw [e] at h
        by_cases c7 : t.1 = 7
        · by_cases c0 : rd = 0
          · rw [show rtx rd i (some t) = some i from (if_pos c7).trans (if_pos c0)] at h
            rcases ih (i + 1) i x h with q | ⟨q1, q2, q3⟩
            · subst q
              exact Or.inr ⟨Nat.le_refl _, by omega, c, t, e, c7⟩
            · exact Or.inr ⟨by omega, by omega, q3⟩
          · rw [show rtx rd i (some t) = none from (if_pos c7).trans (if_neg c0)] at h
            exact (nomatch h)
        · rw [show rtx rd i (some t) = some rd from if_neg c7] at h
          rcases ih (i + 1) rd x h with q | ⟨q1, q2, q3⟩
          · exact Or.inl q
          · exact Or.inr ⟨by omega, by omega, q3⟩
    · rw [if_neg c] at h
      rcases ih (i + 1) rd x h with q | ⟨q1, q2, q3⟩
      · exact Or.inl q
      · exact Or.inr ⟨by omega, by omega, q3⟩
theorem rtw_all {T : Nat → Nat} {z : Nat} : ∀ k i rd x, rtw T z k i rd = some x → ∀ j, i ≤ j → j < i + k → STT T j → ∃ t, trT T j (fdT T 32 j z) = some t := by
  intro k
  induction k with
  | zero =>
    intro i rd x _ j h1 h2 _
    omega
  | succ k ih =>
    intro i rd x h j h1 h2 hs
    rw [rtw_s] at h
    by_cases c : STT T i
    · rw [if_pos c] at h
      cases e : trT T i (fdT T 32 i z) with
      | none =>
        rw [e] at h
        exact (nomatch h)
      | some t =>
        rw [e] at h
        by_cases d : j = i
        · subst d
          exact ⟨t, e⟩
        · cases e2 : rtx rd i (some t) with
          | none =>
            rw [e2] at h
            exact (nomatch h)
          | some y =>
            rw [e2] at h
            exact ih (i + 1) y x h j (by omega) (by omega) hs
    · rw [if_neg c] at h
      have d : j ≠ i := fun q => c (q ▸ hs)
      exact ih (i + 1) rd x h j (by omega) (by omega) hs
theorem nbv_nm {X : Option Nat} {r : Int32} (h : r = nbv X) (hX : ∀ w, X = some w → w ≤ 10000) (c : r = (-1)) : X = none := by
  cases X with
  | none => rfl
  | some w => exact absurd (show nI w < 0 by rw [← show r = nI w from h, c]; decide) (nI_pos (by have h9 := hX w rfl; omega))
theorem nbv_sm {X : Option Nat} {r : Int32} (h : r = nbv X) (c : ¬ r = (-1)) : ∃ w : Nat, r = nI w ∧ X = some w := by
  cases X with
  | none => exact absurd h c
  | some w => exact ⟨w, h, rfl⟩
theorem rtT_le {T : Nat → Nat} {z w : Nat} (hz : z ≤ 8000) (h : rtT T z = some w) : w ≤ 10000 := by
  rcases rtw_in _ _ _ _ h with q | q
  · omega
  · omega
theorem tr_hs {T : Nat → Nat} {a b k g st q w : Nat} {y : Int32} (h : trT T a b = some (k, g, st, q, w, y)) (hk : k = 2 ∨ k = 3 ∨ k = 4 ∨ k = 6 ∨ k = 7) : st = q ∨ HSW T st q := by
  unfold trT at h
  generalize kdT T a b = K at h
  obtain ⟨k9, g9, s9⟩ := K
  have h : tnT T b k9 g9 s9 = some (k, g, st, q, w, y) := h
  unfold tnT at h
  by_cases c0 : k9 = 0
  · rw [if_pos c0] at h
    exact (nomatch h)
  · rw [if_neg c0] at h
    by_cases c1 : NETK k9
    · rw [if_pos c1] at h
      cases e : btT T b (fdT T 47 s9 b) with
      | none =>
        rw [e] at h
        exact (nomatch h)
      | some w9 =>
        rw [e] at h
        have h : (if 32 < w9 then none else if k9 = 5 then tnQ k9 g9 s9 (fdT T 47 s9 b) w9 (qdT T s9 (fdT T 47 s9 b)) else @ite (Option TRA) ((T (s9 - 1) = 58 → HSW T s9 (fdT T 47 s9 b)) ∧ (¬ T (s9 - 1) = 58 → s9 = fdT T 47 s9 b)) (Classical.propDecidable _) (some (k9, g9, s9, fdT T 47 s9 b, w9, 0)) none) = some (k, g, st, q, w, y) := h
        by_cases c2 : 32 < w9
        · rw [if_pos c2] at h
          exact (nomatch h)
        · rw [if_neg c2] at h
          by_cases c5 : k9 = 5
          · rw [if_pos c5] at h
            cases e2 : qdT T s9 (fdT T 47 s9 b) with
            | none =>
              rw [e2] at h
              exact (nomatch h)
            | some y9 =>
              rw [e2] at h
              by_cases c4 : y9.1 = 4
              · have h8 : some (k9, g9, s9, fdT T 47 s9 b, w9, y9.2) = some (k, g, st, q, w, y) := (if_pos c4).symm.trans h
                have h7 := congrArg (fun t : TRA => t.1) (Option.some.inj h8)
                have h6 : k9 = k := h7
                omega
              · have h8 : none = some (k, g, st, q, w, y) := (if_neg c4).symm.trans h
                exact (nomatch h8)
          · rw [if_neg c5] at h
            by_cases c6 : (T (s9 - 1) = 58 → HSW T s9 (fdT T 47 s9 b)) ∧ (¬ T (s9 - 1) = 58 → s9 = fdT T 47 s9 b)
            · rw [if_pos c6] at h
              have h7 := Option.some.inj h
              have e3 : s9 = st := congrArg (fun t : TRA => t.2.2.1) h7
              have e4 : fdT T 47 s9 b = q := congrArg (fun t : TRA => t.2.2.2.1) h7
              rw [e4] at c6
              rw [e3] at c6
              by_cases d : T (st - 1) = 58
              · exact Or.inr (c6.1 d)
              · exact Or.inl (c6.2 d)
            · rw [if_neg c6] at h
              exact (nomatch h)
    · rw [if_neg c1] at h
      by_cases c6 : HSTK k9 → HSW T s9 b
      · rw [if_pos c6] at h
        have h7 := Option.some.inj h
        have e2 : k9 = k := congrArg (fun t : TRA => t.1) h7
        have e3 : s9 = st := congrArg (fun t : TRA => t.2.2.1) h7
        have e4 : b = q := congrArg (fun t : TRA => t.2.2.2.1) h7
        have h5 : HSTK k9 := by
          rcases hk with d | d | d | d | d
          · exact Or.inl (by omega)
          · exact absurd (Or.inr (Or.inl (by omega))) c1
          · exact absurd (Or.inr (Or.inr (by omega))) c1
          · exact Or.inr (Or.inl (by omega))
          · exact Or.inr (Or.inr (by omega))
        have h6 := c6 h5
        rw [e3, e4] at h6
        exact Or.inr h6
      · rw [if_neg c6] at h
        exact (nomatch h)
theorem mtW_a {D : Nat → ETY} {ze : Nat} {S : SDR} {ad : Int32} {R : CKR} {T : Nat → Nat} {U : List Nat} {k g st q w c v : Nat} {x y : Int32} (h : k = 5 → y = x) : mtW D ze S ad R T U (k, g, st, q, w, x) c v = mtW D ze S ad R T U (k, g, st, q, w, y) c v := by
  by_cases c5 : k = 5
  · rw [h c5]
  · unfold mtW
    by_cases c1 : k = 1
    · rw [if_pos (show (k, g, st, q, w, x).1 = 1 from c1), if_pos (show (k, g, st, q, w, y).1 = 1 from c1)]
    · rw [if_neg (show ¬ (k, g, st, q, w, x).1 = 1 from c1), if_neg (show ¬ (k, g, st, q, w, y).1 = 1 from c1), if_neg (show ¬ (k, g, st, q, w, x).1 = 5 from c5), if_neg (show ¬ (k, g, st, q, w, y).1 = 5 from c5)] <;> rfl
abbrev TLA := Option Nat × Nat × Nat
theorem tlw_n {D : Nat → ETY} {ze : Nat} {S : SDR} {ad : Int32} {R : CKR} {T : Nat → Nat} {z : Nat} {U : List Nat} {j c v : Nat} {X : TLA} (h : tlw D ze S ad R T z U (z - j) j c v = X) (hj : j < z) (h1 : ¬ STT T j) : tlw D ze S ad R T z U (z - (j + 1)) (j + 1) c v = X := by
  rw [show z - j = z - (j + 1) + 1 by omega, tlw_s, if_neg h1] at h
  exact h
theorem tlw_y {D : Nat → ETY} {ze : Nat} {S : SDR} {ad : Int32} {R : CKR} {T : Nat → Nat} {z : Nat} {U : List Nat} {j c v : Nat} {X : TLA} {t : TRA} {M : Nat × Nat × Nat} (h : tlw D ze S ad R T z U (z - j) j c v = X) (hj : j < z) (h1 : STT T j) (ht : trT T j (fdT T 32 j z) = some t) (hM : mtW D ze S ad R T U t c v = M) (h0 : M.1 = 0) : tlw D ze S ad R T z U (z - (j + 1)) (j + 1) M.2.1 M.2.2 = X := by
  rw [show z - j = z - (j + 1) + 1 by omega, tlw_s, if_pos h1, ht, show (some t).getD NOT = t from rfl, hM, if_pos h0] at h
  exact h
theorem tlw_r {D : Nat → ETY} {ze : Nat} {S : SDR} {ad : Int32} {R : CKR} {T : Nat → Nat} {z : Nat} {U : List Nat} {j c v : Nat} {X : TLA} {t : TRA} {M : Nat × Nat × Nat} (h : tlw D ze S ad R T z U (z - j) j c v = X) (hj : j < z) (h1 : STT T j) (ht : trT T j (fdT T 32 j z) = some t) (hM : mtW D ze S ad R T U t c v = M) (h0 : ¬ M.1 = 0) : X = (some (if M.1 = 2 then anW t.2.1 else M.1), M.2) := by
  rw [show z - j = z - (j + 1) + 1 by omega, tlw_s, if_pos h1, ht, show (some t).getD NOT = t from rfl, hM, if_neg h0] at h
  exact h.symm
theorem tlw_e {D : Nat → ETY} {ze : Nat} {S : SDR} {ad : Int32} {R : CKR} {T : Nat → Nat} {z : Nat} {U : List Nat} {j c v : Nat} {X : TLA} (h : tlw D ze S ad R T z U (z - j) j c v = X) (hj : z ≤ j) : X = (none, c, v) := by
  rw [show z - j = 0 by omega] at h
  exact h.symm
theorem chB_t {D : Nat → ETY} {ze : Nat} {S : SDR} {ad : Int32} {R : CKR} {U : List Nat} {c v : Nat} (h : HAS D ze 3 (ooU U) (yU U) (faU U)) : chB D ze S ad R U c v = (5, c, v) := if_pos h
theorem chB_o {D : Nat → ETY} {ze : Nat} {S : SDR} {ad : Int32} {R : CKR} {U : List Nat} {c v : Nat} (h : ¬ HAS D ze 3 (ooU U) (yU U) (faU U)) (h1 : otw D (ooU U) (yU U) (faU U) 6 SPF ze < 0) : chB D ze S ad R U c v = (if otw D (ooU U) (yU U) (faU U) 6 SPF ze = (-1) then 0 else 6, c, v) := (if_neg h).trans (if_pos h1)
theorem chB_c {D : Nat → ETY} {ze : Nat} {S : SDR} {ad : Int32} {R : CKR} {U : List Nat} {c v j : Nat} (h : ¬ HAS D ze 3 (ooU U) (yU U) (faU U)) (h1 : otw D (ooU U) (yU U) (faU U) 6 SPF ze = nI j) (hj : j < 2 ^ 31) : chB D ze S ad R U c v = ctW D ze S ad R (TC (D j).2.2.2.2.2 (D j).2.2.2.2.1) (D j).2.2.2.2.1 U c v (rtT (TC (D j).2.2.2.2.2 (D j).2.2.2.2.1) (D j).2.2.2.2.1) := by
  have h2 : ¬ otw D (ooU U) (yU U) (faU U) 6 SPF ze < 0 := by
    rw [h1]
    exact nI_pos hj
  have h3 : (otw D (ooU U) (yU U) (faU U) 6 SPF ze).toNatClampNeg = j := by
    rw [h1]
    exact nI_clamp hj
  have h4 : chB D ze S ad R U c v = ctW D ze S ad R (TC (D (otw D (ooU U) (yU U) (faU U) 6 SPF ze).toNatClampNeg).2.2.2.2.2 (D (otw D (ooU U) (yU U) (faU U) 6 SPF ze).toNatClampNeg).2.2.2.2.1) (D (otw D (ooU U) (yU U) (faU U) 6 SPF ze).toNatClampNeg).2.2.2.2.1 U c v (rtT (TC (D (otw D (ooU U) (yU U) (faU U) 6 SPF ze).toNatClampNeg).2.2.2.2.2 (D (otw D (ooU U) (yU U) (faU U) 6 SPF ze).toNatClampNeg).2.2.2.2.1) (D (otw D (ooU U) (yU U) (faU U) 6 SPF ze).toNatClampNeg).2.2.2.2.1) := (if_neg h).trans (if_neg h2)
  rw [h3] at h4
  exact h4
set_option maxHeartbeats 4000000 in
set_option maxRecDepth 100000 in
theorem s_X1_check_e (l : Launch) (dC : Nat → ClassId) (dI : Nat → Nat → Nat) (cs : Nat → ClassId) (ty : TyM) (L : List Nat) (sz : Nat) (F : Nat → va_E) (h0 : Nat) (ρ : Nat) (d : Nat) (δ : Nat) (ea : Nat) (w0 : Nat) (w1 : Nat) (w2 : Nat) (w3 : Nat) (nm : Nat) (te : Nat) (lv : Nat) (fr : Nat) (lo : Nat) (cc : Nat) (vo : Nat) (ad : Int32) (v1 : Int32) (cn : Nat) (D : Nat → ETY) (SD : SDR) (R : CKR) (U : List Nat) (hW : WT ty L) (hL_h0 : h0 ∈ L) (hT_h0 : ty h0 = (1, ρ, [d, δ, ea, w0, w1, w2, w3, nm, te])) (hdl : δ + 2 = ρ) (hlv : lv ≤ 10) (hcn : cn ≤ 40) (hPR : PRR R) (hC : ∀ (sz : Nat) (F : Nat → va_E) (U : List Nat) (cc vo : Nat), (F h0 = .inr (1, [.ref d, .ref w0, .ref w1, .ref w2, .ref w3, .ref nm, .ref te, .int ad, .int v1, .int (nI cc), .int (nI vo)])) → (F d = .inr (2, [.ref ea, .int (nI cn)])) → (DIRC cs F ea cn D) → (SNP cs F w0 w1 w2 w3 SD) → (NMG cs F nm (lv + 1) U) → (lv + 1 ≤ cc) → (cc ≤ 10) → (vo ≤ cc) → (A8 U) → Met l yX1_check (.code yX1_check cX1_check 8 (some .int) :: tb) ({ frames := fr + 0, cells := 0, slots := 0, locals := lo + 0 }) (va_Pc [.ref h0, .int (nI (lv + 1))] (PTE (dC, dI) cs ty L F sz [])) (va_Qi (fun (r : Int32) (gp : Nat × Nat) => (r = nI (R U cc vo).1 ∧ gp = (R U cc vo).2)) (fun (gp : Nat × Nat) T9 => ∃ F2 : Nat → va_E, QT (dC, dI) cs ty L (chS ρ (lv + 2) (lv + 1)) F F2 (va_A (va_pl L F) sz) T9 ∧ F2 h0 = .inr (1, [.ref d, .ref w0, .ref w1, .ref w2, .ref w3, .ref nm, .ref te, .int ad, .int v1, .int (nI gp.1), .int (nI gp.2)])) (va_A (va_pl L F) sz)) 0 0 (va_A (va_pl L F) sz)) (hFh : F h0 = .inr (1, [.ref d, .ref w0, .ref w1, .ref w2, .ref w3, .ref nm, .ref te, .int ad, .int v1, .int (nI cc), .int (nI vo)])) (hFd : F d = .inr (2, [.ref ea, .int (nI cn)])) (hDI : DIRC cs F ea cn D) (hSD : SNP cs F w0 w1 w2 w3 SD) (hNG : NMG cs F nm lv U) (hlc : lv ≤ cc) (hc10 : cc ≤ 10) (hvc : vo ≤ cc) (hA8 : A8 U) : Met l yX1_check (.code yX1_check cX1_check 8 (some .int) :: tb) ({ frames := fr + 9, cells := 0, slots := 0, locals := lo + 207 }) (va_Pc [.ref h0, .int (nI lv)] (PTE (dC, dI) cs ty L F sz [])) (va_Qi (fun (r : Int32) (gp : Nat × Nat) => (r = nI (chB D cn SD ad R U cc vo).1 ∧ gp = (chB D cn SD ad R U cc vo).2)) (fun (gp : Nat × Nat) T9 => ∃ F2 : Nat → va_E, QT (dC, dI) cs ty L (chS ρ (lv + 1) lv) F F2 (va_A (va_pl L F) sz) T9 ∧ F2 h0 = .inr (1, [.ref d, .ref w0, .ref w1, .ref w2, .ref w3, .ref nm, .ref te, .int ad, .int v1, .int (nI gp.1), .int (nI gp.2)])) (va_A (va_pl L F) sz)) 0 0 (va_A (va_pl L F) sz) := by
  refine Met.ofW (cc := cX1_check) (maxL := 8) (ret := (some .int)) (by decide) rfl ?_
  intro p e s m args below meth c s₁ B hml hv
  obtain ⟨rfl, ⟨hsz, hP, hK, hD0, hE, hO⟩, hG, hX⟩ := hv
  have hx := B.exec
  have hb := B.bytes
  have hr := B.returns
  have hts : ∀ w ∈ tb, w.before _ s = true := fun w h => atoms_spec (ws := .code yX1_check cX1_check 8 (some .int) :: tb) B.pre w (List.mem_cons_of_mem _ h)
  have hown : s.vm.findClass RX1 = some m.cls := findClass_of_methodNamed B.named
  have hlocks := B.notSynchronized
  subst hsz
  have hD := hD0.self (sz := s.heap.size)
  generalize hAe : va_A (va_pl L F) s.heap.size = A at hD hG hX ⊢
  have hA : ∀ q : Nat, s.heap.size ≤ q → A q := fun q h => by rw [← hAe]; exact Or.inr h
  have hS : va_S A s.heap s.heap [] := va_S.rf
  have hR : FR ty (chS ρ (lv + 1) lv) F F := FR.refl
  have hl := lv_entry ([.ref h0, .int (nI lv)]) (n := 8) (Nat.le_of_ble_eq_true rfl)
  rw [lg_entry_eq]
  generalize (lg_sl ([.ref h0, .int (nI lv)]) ++ List.replicate (8 - (lg_sl ([.ref h0, .int (nI lv)])).length) Slot.unset).toArray = ls at hl ⊢
  have hl : lv_has ls 8 [(0, .ref h0), (1, .int (nI lv))] := hl
  obtain ⟨hi_1, ht_2, hi_3, ⟨r_4, ht_5⟩, hi_6, ⟨r_7, ht_8⟩, hi_9, ⟨r_10, ht_11⟩, hi_12, ⟨r_13, ht_14⟩, hi_15, ht_16, hi_17, ht_18⟩ := hW.chk hL_h0 hT_h0
  obtain ⟨f_19, hF_20, hq_21⟩ := hO.rbytes hi_15 ht_16
  obtain ⟨f_22, hF_23, hq_24⟩ := hO.rterm hi_17 ht_18
  obtain ⟨hi_25, ht_26⟩ := hW.dir hi_1 ht_2
  obtain ⟨f_27, hF_28, hq_29⟩ := hO.rentry hi_25 ht_26
  have hO0 := hO
  have hn0 := hF_20
  have he0 := hF_28
  refine lv_iload_n hx hb dX1_check_0 rfl (lv_at hl 1 rfl) ?_
  refine lv_bipush (v := 11) hx hb dX1_check_1 (by decide) ?_
  refine lv_icmp_lt (tgt := 9) hx hb dX1_check_3 (by decide) (fun c_30 => ?_) (fun c_30 => absurd ((nI_ltI (b := 11) (by omega) (by omega)).mpr (by omega)) c_30)
  refine lv_aload_n hx hb dX1_check_9 rfl (lv_at hl 0 rfl) ?_
  refine pg_get (ci := 1) (v := .ref d) (C := RX1) (T := TX1) (N := 11) hx hb hts it_1 hown hK hP hL_h0 hFh rfl 0 (by decide) (hts _ kt_596) (fun _ h9 => h9) rfl dX1_check_10 ?_
  refine lv_iconst (v := 3) hx hb dX1_check_13 (by decide) ?_
  refine lv_aload_n hx hb dX1_check_14 rfl (lv_at hl 0 rfl) ?_
  refine pg_get (ci := 1) (v := .ref nm) (C := RX1) (T := TX1) (N := 11) hx hb hts it_1 hown hK hP hL_h0 hFh rfl 5 (by decide) (hts _ kt_569) (fun _ h9 => h9) rfl dX1_check_15 ?_
  refine lv_iload_n hx hb dX1_check_18 rfl (lv_at hl 1 rfl) ?_
  obtain ⟨b_31, r_32, hbf_33, hi_34, ht_35⟩ := hq_21 lv (by omega)
  refine pg_aald (r := b_31) hx hb hK hP hi_15 4 hF_20 rfl (vp_in_nI (by omega) (by omega)) (show f_19 ((nI lv) : Int32).toNatClampNeg = _ from by rw [show ((nI lv) : Int32) = nI lv from rfl, nI_clamp (by omega)]; exact hbf_33) dX1_check_19 ?_
  obtain ⟨hi_36, ht_37, hq_38⟩ := hW.bytes hi_34 ht_35
  obtain ⟨yy, ov, fq, hy1, hy2, hy3⟩ := (hNG.get hF_20 hbf_33).get hO hi_34 ht_35
  have hyy : yy ≤ 60 := by have h9 := hy3.1; omega
  have hFc := pg_free hD hS hA
  refine va_calli (va_runV (As := [.int 3, .ref b_31]) (rest := []) ⟨hx, hb, hml, hown, hts⟩ (s_X2_has_e l dC dI cs ty L s.heap.size F d δ ea b_31 (ρ + 35 + lv + 5) r_32 60 yy cn fq D 3 ov hW hi_1 ht_2 hi_34 ht_35 hFd (by omega) hy1 hy2 (by omega) (by omega) (hDI)) ⟨callB_of 2 hts (gi kt_373) rfl rfl rfl (hts _ kt_103) (hts _ kt_599) (by decide +kernel) ⟨Nat.le_of_ble_eq_true rfl, Nat.le_of_ble_eq_true rfl⟩, (hts _ kt_375), (hts _ kt_376)⟩ ⟨fun a U g mk q => ⟨q.1, PT.calling q.2⟩, pg_recv hK hP hi_1 hFd (q := (RX2, TX2, 2)) rfl, fun U hU hWm => ⟨rfl, PT.mk hU hWm hP hK hD hE hO⟩⟩ rfl rfl hl.1 rfl (lv_room (Nat.le_of_ble_eq_true rfl)) dX1_check_20 ⟨by show _ + 0 ≤ 0; omega, by show _ + 0 ≤ 0; omega⟩) hS (fun q _ h => hFc q h) hFc (fun r_39 u t H1 locs ht hvm hw hB hz1 hk1 hS => ?_)
  obtain ⟨F_40, hB1⟩ := hB
  obtain rfl : F = F_40 := (funext (fun a => hB1.2.2.2 a List.not_mem_nil)).symm
  obtain ⟨hP, hD, hO, hR⟩ := QT.back hB1 ht hFc hR (fun q h => absurd h List.not_mem_nil)
  generalize H1 = H at hP hS ⊢
  have hw : (r_39 = 1 ∧ HAS D cn 3 ov yy fq) ∨ (r_39 = 0 ∧ ¬ HAS D cn 3 ov yy fq) := hw
  have hw_41 := hw
  refine lv_if_eq (tgt := 28) hx hb dX1_check_23 (by decide) (fun c_42 => ?_) (fun c_42 => ?_)
  ·
    have hHS : ¬ HAS D cn 3 (ooU U) (yU U) (faU U) := fun q => orp0 hw_41 c_42 ((has_u hy3).mpr q)
    refine lv_aload_n hx hb dX1_check_28 rfl (lv_at hl 0 rfl) ?_
    refine pg_get (ci := 1) (v := .ref d) (C := RX1) (T := TX1) (N := 11) hx hb hts it_1 hown hK hP hL_h0 hFh rfl 0 (by decide) (hts _ kt_596) (fun _ h9 => h9) rfl dX1_check_29 ?_
    refine lv_aload_n hx hb dX1_check_32 rfl (lv_at hl 0 rfl) ?_
    refine pg_get (ci := 1) (v := .ref nm) (C := RX1) (T := TX1) (N := 11) hx hb hts it_1 hown hK hP hL_h0 hFh rfl 5 (by decide) (hts _ kt_569) (fun _ h9 => h9) rfl dX1_check_33 ?_
    refine lv_iload_n hx hb dX1_check_36 rfl (lv_at hl 1 rfl) ?_
    refine pg_aald (r := b_31) hx hb hK hP hi_15 4 hF_20 rfl (vp_in_nI (by omega) (by omega)) (show f_19 ((nI lv) : Int32).toNatClampNeg = _ from by rw [show ((nI lv) : Int32) = nI lv from rfl, nI_clamp (by omega)]; exact hbf_33) dX1_check_37 ?_
    obtain ⟨q_43, v_44, hr_q_43, hXc_q_43⟩ := hG.2.2.2.2 ("PostGate$Checker", 110, "v=spf1", [118, 61, 115, 112, 102, 49]) (by decide +kernel)
    have hXc_q_43 : SXc q_43 v_44 6 (cct [118, 61, 115, 112, 102, 49]) A s s.heap := hXc_q_43
    have hX_q_43 : SX q_43 v_44 6 A s s.heap := hXc_q_43.sx
    obtain ⟨xo_q_43, xc_q_43, xv_q_43, xt_q_43, xn_q_43⟩ := id hXc_q_43
    have hr_q_43 : vk_R "PostGate$Checker" 110 "v=spf1" q_43 s := hr_q_43
    refine va_ldcS hx hb hown hr_q_43 dX1_check_38 ?_
    refine lv_iconst (v := 1) hx hb dX1_check_40 (by decide) ?_
    have hFc := pg_free hD hS hA
    refine va_calli (va_runV (As := [.ref b_31, .ref q_43, .int 1]) (rest := []) ⟨hx, hb, hml, hown, hts⟩ (s_X2_onlyText_e l dC dI cs ty L H.size F d δ ea b_31 (ρ + 35 + lv + 5) r_32 60 q_43 v_44 6 (cct [118, 61, 115, 112, 102, 49]) yy cn fq D ov SPF hW hi_1 ht_2 hi_34 ht_35 hFd (by omega) hy1 hy2 (by omega) (by omega) (hDI) (⟨rfl, by decide +kernel⟩)) ⟨callB_of 3 hts (gi kt_499) rfl rfl rfl (hts _ kt_103) (hts _ kt_636) (by decide +kernel) ⟨Nat.le_of_ble_eq_true rfl, Nat.le_of_ble_eq_true rfl⟩, (hts _ kt_501), (hts _ kt_502)⟩ ⟨fun a U g mk q => ⟨q.1, PTC.calling q.2⟩, pg_recv hK hP hi_1 hFd (q := (RX2, TX2, 2)) rfl, fun U hU hWm => ⟨rfl, PTC.mk hU hWm hP hK hD hE hO hG hXc_q_43 hS hFc⟩⟩ rfl rfl hl.1 rfl (lv_room (Nat.le_of_ble_eq_true rfl)) dX1_check_41 ⟨by show _ + 0 ≤ 0; omega, by show _ + 0 ≤ 0; omega⟩) hS (fun q _ h => hFc q h) hFc (fun r_45 u t H1 locs ht hvm hw hB hz1 hk1 hS => ?_)
    obtain ⟨F_46, hB1⟩ := hB
    obtain rfl : F = F_46 := (funext (fun a => hB1.2.2.2 a List.not_mem_nil)).symm
    obtain ⟨hP, hD, hO, hR⟩ := QT.back hB1 ht hFc hR (fun q h => absurd h List.not_mem_nil)
    generalize H1 = H at hP hS ⊢
    have hw : r_45 = otw D ov yy fq 6 SPF cn := hw
    have hw_47 := hw
    have hrow : r_45 = otw D (ooU U) (yU U) (faU U) 6 SPF cn := hw_47.trans (otw_u hy3)
    have hrw0 := hw_47
    refine lv_istore_n (lv' := [(2, .int r_45), (0, .ref h0), (1, .int (nI lv))]) hx hb dX1_check_44 rfl hl (by decide) rfl (fun ls hl => ?_)
    refine lv_iload_n hx hb dX1_check_45 rfl (lv_at hl 0 rfl) ?_
    refine lv_if_ge (tgt := 61) hx hb dX1_check_46 (by decide) (fun c_48 => ?_) (fun c_48 => ?_)
    ·
      obtain ⟨jr, hjr, hje, hOQ⟩ := otw_ge (D := D) (oo := ov) (y := yy) (fa := fq) (k := 6) (l := SPF) cn (by rw [← hrw0]; exact Int32.not_lt.mpr c_48)
      have hov : ov = 0 := hOQ.2.1.1
      have hUl : U.length ≤ 60 := by have h9 := hy3; rw [hov] at h9; exact tga_len h9
      have hND := hNG.nme hUl hA8
      have hrj : r_45 = nI jr := hrw0.trans hje
      have hOW : otw D (ooU U) (yU U) (faU U) 6 SPF cn = nI jr := hrow.symm.trans hrj
      subst hrj
      refine lv_aload_n hx hb dX1_check_61 rfl (lv_at hl 1 rfl) ?_
      refine pg_get (ci := 1) (v := .ref d) (C := RX1) (T := TX1) (N := 11) hx hb hts it_1 hown hK hP hL_h0 hFh rfl 0 (by decide) (hts _ kt_596) (fun _ h9 => h9) rfl dX1_check_62 ?_
      refine lv_iload_n hx hb dX1_check_65 rfl (lv_at hl 0 rfl) ?_
      have hFc := pg_free hD hS hA
      refine va_callr (va_runV (As := [.int (nI jr)]) (rest := []) ⟨hx, hb, hml, hown, hts⟩ (s_X2_valueAt_e l dC dI cs ty L H.size F d δ ea jr cn D hW hi_1 ht_2 (by omega) (hjr) (hDI)) ⟨callB_of 1 hts (gi kt_381) rfl rfl rfl (hts _ kt_103) (hts _ kt_598) (by decide +kernel) ⟨Nat.le_of_ble_eq_true rfl, Nat.le_of_ble_eq_true rfl⟩, (hts _ kt_383), (hts _ kt_384)⟩ ⟨fun a U g mk q => ⟨q.1, PT.calling q.2⟩, pg_recv hK hP hi_1 hFd (q := (RX2, TX2, 2)) rfl, fun U hU hWm => ⟨rfl, PT.mk hU hWm hP hK hD hE hO⟩⟩ rfl rfl hl.1 rfl (lv_room (Nat.le_of_ble_eq_true rfl)) dX1_check_66 ⟨by show _ + 0 ≤ 0; omega, by show _ + 0 ≤ 0; omega⟩) hS (fun q _ h => hFc q h) hFc (fun u r_49 t H1 locs ht hvm hw hB hz1 hk1 hS => ?_)
      obtain ⟨F_50, vr_51, μ_52, hB1, hq_53, hq_54, hq_55⟩ := hB
      obtain rfl : F = F_50 := (funext (fun a => hB1.2.2.2 a List.not_mem_nil)).symm
      obtain ⟨hP, hD, hO, hR⟩ := QT.back hB1 ht hFc hR (fun q h => absurd h List.not_mem_nil)
      generalize H1 = H at hP hS ⊢
      obtain ⟨hva1, hva2, hva3, hva4⟩ := hq_55
      obtain ⟨hi_56, ht_57, hq_58⟩ := hW.bytes hq_53 hq_54
      have hmu : ρ + 98 ≤ μ_52 := by omega
      refine lv_astore_n (lv' := [(3, .ref r_49), (2, .int (nI jr)), (0, .ref h0), (1, .int (nI lv))]) hx hb dX1_check_69 rfl hl (by decide) rfl (fun ls hl => ?_)
      refine lv_aload_n hx hb dX1_check_70 rfl (lv_at hl 2 rfl) ?_
      refine pg_get (ci := 1) (v := .ref te) (C := RX1) (T := TX1) (N := 11) hx hb hts it_1 hown hK hP hL_h0 hFh rfl 6 (by decide) (hts _ kt_579) (fun _ h9 => h9) rfl dX1_check_71 ?_
      refine lv_iload_n hx hb dX1_check_74 rfl (lv_at hl 3 rfl) ?_
      obtain ⟨b_59, hbf_60, hi_61, ht_62⟩ := hq_24 lv (by omega)
      refine pg_aald (r := b_59) hx hb hK hP hi_17 6 hF_23 rfl (vp_in_nI (by omega) (by omega)) (show f_22 ((nI lv) : Int32).toNatClampNeg = _ from by rw [show ((nI lv) : Int32) = nI lv from rfl, nI_clamp (by omega)]; exact hbf_60) dX1_check_75 ?_
      refine lv_astore (lv' := [(4, .ref b_59), (3, .ref r_49), (2, .int (nI jr)), (0, .ref h0), (1, .int (nI lv))]) hx hb dX1_check_76 hl (by decide) rfl (fun ls hl => ?_)
      refine lv_aload_n hx hb dX1_check_78 rfl (lv_at hl 1 rfl) ?_
      refine lv_aload hx hb dX1_check_79 (lv_at hl 0 rfl) ?_
      have hFc := pg_free hD hS hA
      refine va_calli (va_runS (As := [.ref r_49, .ref b_59]) (rest := []) ⟨hx, hb, hml, hown, hts⟩ (s_X1_readTerms_e l dC dI cs ty L H.size F r_49 μ_52 vr_51 700 b_59 (ρ + 36 + lv + 24) ((D jr).2.2.2.2.1) ((D jr).2.2.2.2.2) hW hq_53 hq_54 hi_61 ht_62 hva1 hva2 (by omega) (by omega) (by omega) (by omega)) ⟨callB_of 2 hts (gi kt_637) rfl rfl rfl (hts _ kt_572) (hts _ kt_638) (by decide +kernel) ⟨Nat.le_of_ble_eq_true rfl, Nat.le_of_ble_eq_true rfl⟩, (hts _ kt_639)⟩ ⟨fun a U g mk q => ⟨q.1, PTE.calling q.2⟩, fun U hU hWm => ⟨rfl, PTE.mk hU hWm hP hK hD hE hO hG (fun x hx => absurd hx List.not_mem_nil) hS hFc⟩⟩ rfl rfl hl.1 rfl (lv_room (Nat.le_of_ble_eq_true rfl)) dX1_check_81 ⟨by show _ + 0 ≤ 0; omega, by show _ + 0 ≤ 0; omega⟩) hS (fun q _ h => hFc q h) hFc (fun r_63 u t H1 locs ht hvm hw hB hz1 hk1 hS => ?_)
      obtain ⟨F_64, hB1⟩ := hB
      obtain ⟨hP, hD, hO, hR⟩ := QT.back hB1 ht hFc hR (fun q h => by simp only [mem_chS, List.mem_cons, List.not_mem_nil, or_false] at h ⊢; omega)
      have hF_65 : F_64 h0 = .inr (1, [.ref d, .ref w0, .ref w1, .ref w2, .ref w3, .ref nm, .ref te, .int ad, .int v1, .int (nI cc), .int (nI vo)]) := (hB1.2.2.2 h0 (by rw [hT_h0]; simp only [mem_chS, List.mem_cons, List.not_mem_nil, or_false]; omega)).trans hFh
      have hF_66 : F_64 d = .inr (2, [.ref ea, .int (nI cn)]) := (hB1.2.2.2 d (by rw [ht_2]; simp only [mem_chS, List.mem_cons, List.not_mem_nil, or_false]; omega)).trans hFd
      have hF_67 : F_64 nm = .inl (cs 20, 12, .inr (.inr (.inr (.inr f_19)))) := (hB1.2.2.2 nm (by rw [ht_16]; simp only [mem_chS, List.mem_cons, List.not_mem_nil, or_false]; omega)).trans hF_20
      have hF_68 : F_64 te = .inl (cs 22, 11, .inr (.inr (.inr (.inr f_22)))) := (hB1.2.2.2 te (by rw [ht_18]; simp only [mem_chS, List.mem_cons, List.not_mem_nil, or_false]; omega)).trans hF_23
      have hF_69 : F_64 ea = .inl (cs 21, 40, .inr (.inr (.inr (.inr f_27)))) := (hB1.2.2.2 ea (by rw [ht_26]; simp only [mem_chS, List.mem_cons, List.not_mem_nil, or_false]; omega)).trans hF_28
      have hF_70 : F_64 b_31 = .inr (0, [.ref r_32, .int (nI yy), .int ov]) := (hB1.2.2.2 b_31 (by rw [ht_35]; simp only [mem_chS, List.mem_cons, List.not_mem_nil, or_false]; omega)).trans hy1
      have hF_71 : F_64 r_32 = .inl (cs 16, 60, .inl fq) := (hB1.2.2.2 r_32 (by rw [ht_37]; simp only [mem_chS, List.mem_cons, List.not_mem_nil, or_false]; omega)).trans hy2
      have hF_72 : F_64 r_49 = .inr (0, [.ref vr_51, .int (nI (D jr).2.2.2.2.1), .int 0]) := (hB1.2.2.2 r_49 (by rw [hq_54]; simp only [mem_chS, List.mem_cons, List.not_mem_nil, or_false]; omega)).trans hva1
      have hF_73 : F_64 vr_51 = .inl (cs 16, 700, .inl ((D jr).2.2.2.2.2)) := (hB1.2.2.2 vr_51 (by rw [ht_57]; simp only [mem_chS, List.mem_cons, List.not_mem_nil, or_false]; omega)).trans hva2
      generalize H1 = H at hP hS ⊢
      have hw : r_63 = nbv (rtT (TC (D jr).2.2.2.2.2 (D jr).2.2.2.2.1) (D jr).2.2.2.2.1) := hw
      have hw_74 := hw
      refine lv_istore (lv' := [(5, .int r_63), (4, .ref b_59), (3, .ref r_49), (2, .int (nI jr)), (0, .ref h0), (1, .int (nI lv))]) hx hb dX1_check_84 hl (by decide) rfl (fun ls hl => ?_)
      refine lv_iload hx hb dX1_check_86 (lv_at hl 0 rfl) ?_
      refine lv_iconst (v := (-1)) hx hb dX1_check_88 (by decide) ?_
      refine lv_icmp_ne (tgt := 95) hx hb dX1_check_89 (by decide) (fun c_75 => ?_) (fun c_75 => ?_)
      ·
        obtain ⟨rd, hrd, hRT⟩ := nbv_sm hw_74 c_75
        have hrdi := rtw_in _ _ _ _ hRT
        have hrdl : rd ≤ 10000 := rtT_le (by omega) hRT
        have hall := rtw_all _ _ _ _ hRT
        subst hrd
        refine va_ldcS hx hb hown hr_q_43 dX1_check_95 ?_
        have hFc := pg_free hD hS hA
        refine va_calli (va_runV (As := []) (rest := []) ⟨hx, hb, hml, hown, hts⟩ (s_J0_length_8abf5 l dC dI cs ty L H.size F_64 q_43 v_44 6 hW ) ⟨callB_of 0 hts (gi kt_71) rfl rfl rfl (hts _ kt_51) (hts _ kt_588) (by decide +kernel) ⟨Nat.le_of_ble_eq_true rfl, Nat.le_of_ble_eq_true rfl⟩, (hts _ kt_73), (hts _ kt_74)⟩ ⟨fun a U g mk q => ⟨q.1, PTE.calling q.2⟩, sx_recv hX_q_43 hS, fun U hU hWm => ⟨rfl, PTE.mk hU hWm hP hK hD hE hO hG (fun x hx => by rw [List.mem_singleton] at hx; subst hx; exact hX_q_43) hS hFc⟩⟩ rfl rfl hl.1 rfl (lv_room (Nat.le_of_ble_eq_true rfl)) dX1_check_97 ⟨by show _ + 0 ≤ 0; omega, by show _ + 0 ≤ 0; omega⟩) hS (fun q _ h => hFc q h) hFc (fun r_76 u t H1 locs ht hvm hw hB hz1 hk1 hS => ?_)
        obtain ⟨F_77, hB1⟩ := hB
        obtain rfl : F_64 = F_77 := (funext (fun a => hB1.2.2.2 a List.not_mem_nil)).symm
        obtain ⟨hP, hD, hO, hR⟩ := QT.back hB1 ht hFc hR (fun q h => absurd h List.not_mem_nil)
        generalize H1 = H at hP hS ⊢
        have hw : r_76 = nI 6 := hw
        have hw_78 := hw
        subst hw_78
        refine lv_iconst (v := 1) hx hb dX1_check_100 (by decide) ?_
        refine lv_iadd hx hb dX1_check_101 ?_
        refine lv_topi (fun x_79 ex_79 => ?_)
        obtain rfl : x_79 = (nI 7) := ex_79.trans (nI_add 6 1)
        refine lv_istore (lv' := [(6, .int (nI 7)), (5, .int (nI rd)), (4, .ref b_59), (3, .ref r_49), (2, .int (nI jr)), (0, .ref h0), (1, .int (nI lv))]) hx hb dX1_check_102 hl (by decide) rfl (fun ls hl => ?_)
        refine W.widen (k := 0) (n := 0) (by omega) (by omega) ?_
        have hF_81 : F d = .inr (2, [.ref ea, .int (nI cn)]) := (hR d (by rw [ht_2]; simp only [mem_chS, List.mem_cons, List.not_mem_nil, or_false]; omega)).symm.trans hF_66
        have hF_82 : F nm = .inl (cs 20, 12, .inr (.inr (.inr (.inr f_19)))) := (hR nm (by rw [ht_16]; simp only [mem_chS, List.mem_cons, List.not_mem_nil, or_false]; omega)).symm.trans hF_67
        have hF_83 : F te = .inl (cs 22, 11, .inr (.inr (.inr (.inr f_22)))) := (hR te (by rw [ht_18]; simp only [mem_chS, List.mem_cons, List.not_mem_nil, or_false]; omega)).symm.trans hF_68
        have hF_84 : F ea = .inl (cs 21, 40, .inr (.inr (.inr (.inr f_27)))) := (hR ea (by rw [ht_26]; simp only [mem_chS, List.mem_cons, List.not_mem_nil, or_false]; omega)).symm.trans hF_69
        have hF_85 : F b_31 = .inr (0, [.ref r_32, .int (nI yy), .int ov]) := (hR b_31 (by rw [ht_35]; simp only [mem_chS, List.mem_cons, List.not_mem_nil, or_false]; omega)).symm.trans hF_70
        have hF_86 : F r_32 = .inl (cs 16, 60, .inl fq) := (hR r_32 (by rw [ht_37]; simp only [mem_chS, List.mem_cons, List.not_mem_nil, or_false]; omega)).symm.trans hF_71
        have hF_87 : F r_49 = .inr (0, [.ref vr_51, .int (nI (D jr).2.2.2.2.1), .int 0]) := (hR r_49 (by rw [hq_54]; simp only [mem_chS, List.mem_cons, List.not_mem_nil, or_false]; omega)).symm.trans hF_72
        have hF_88 : F vr_51 = .inl (cs 16, 700, .inl ((D jr).2.2.2.2.2)) := (hR vr_51 (by rw [ht_57]; simp only [mem_chS, List.mem_cons, List.not_mem_nil, or_false]; omega)).symm.trans hF_73
        refine pl_loop (σ := Nat × Nat × Nat) A (dC, dI) cs ty L (chS ρ (lv + 1) lv) F 104 8 (fun (j, cj, vj) => [(6, .int (nI j)), (5, .int (nI rd)), (4, .ref b_59), (3, .ref r_49), (2, .int (nI jr)), (0, .ref h0), (1, .int (nI lv))]) (fun (j, cj, vj) => []) (fun (j, cj, vj) FF => 7 ≤ j ∧ (j ≤ (D jr).2.2.2.2.1 ∨ j = 7) ∧ FF h0 = .inr (1, [.ref d, .ref w0, .ref w1, .ref w2, .ref w3, .ref nm, .ref te, .int ad, .int v1, .int (nI cj), .int (nI vj)]) ∧ tlw D cn SD ad R (TC (D jr).2.2.2.2.2 (D jr).2.2.2.2.1) (D jr).2.2.2.2.1 U ((D jr).2.2.2.2.1 - j) j cj vj = (tlw D cn SD ad R (TC (D jr).2.2.2.2.2 (D jr).2.2.2.2.1) (D jr).2.2.2.2.1 U ((D jr).2.2.2.2.1 - 7) 7 cc vo) ∧ cc ≤ cj ∧ cj ≤ 10 ∧ vj ≤ cj) (fun (j, cj, vj) => (D jr).2.2.2.2.1 - j) ?_ (7, cc, vo) F_64 (⟨Nat.le_refl _, Or.inr rfl, hF_65, rfl, Nat.le_refl _, hc10, hvc⟩) hO hR _ _ hP hD hS ls (lv_sub hl [0, 1, 2, 3, 4, 5, 6] rfl)
        rintro ⟨j, cj, vj⟩ F_80 hv_89 hO hR ih_90 H locs hP hD hS ls hl
        have hl : lv_has ls 8 [(6, .int (nI j)), (5, .int (nI rd)), (4, .ref b_59), (3, .ref r_49), (2, .int (nI jr)), (0, .ref h0), (1, .int (nI lv))] := hl
        have hv_89 : 7 ≤ j ∧ (j ≤ (D jr).2.2.2.2.1 ∨ j = 7) ∧ F_80 h0 = .inr (1, [.ref d, .ref w0, .ref w1, .ref w2, .ref w3, .ref nm, .ref te, .int ad, .int v1, .int (nI cj), .int (nI vj)]) ∧ tlw D cn SD ad R (TC (D jr).2.2.2.2.2 (D jr).2.2.2.2.1) (D jr).2.2.2.2.1 U ((D jr).2.2.2.2.1 - j) j cj vj = (tlw D cn SD ad R (TC (D jr).2.2.2.2.2 (D jr).2.2.2.2.1) (D jr).2.2.2.2.1 U ((D jr).2.2.2.2.1 - 7) 7 cc vo) ∧ cc ≤ cj ∧ cj ≤ 10 ∧ vj ≤ cj := hv_89
        refine W.eq (g2 := F0 m 104 ls []) rfl ?_
        have hF_91 : F_80 d = .inr (2, [.ref ea, .int (nI cn)]) := (hR d (by rw [ht_2]; simp only [mem_chS, List.mem_cons, List.not_mem_nil, or_false]; omega)).trans hF_81
        have hF_92 : F_80 nm = .inl (cs 20, 12, .inr (.inr (.inr (.inr f_19)))) := (hR nm (by rw [ht_16]; simp only [mem_chS, List.mem_cons, List.not_mem_nil, or_false]; omega)).trans hF_82
        have hF_93 : F_80 te = .inl (cs 22, 11, .inr (.inr (.inr (.inr f_22)))) := (hR te (by rw [ht_18]; simp only [mem_chS, List.mem_cons, List.not_mem_nil, or_false]; omega)).trans hF_83
        have hF_94 : F_80 ea = .inl (cs 21, 40, .inr (.inr (.inr (.inr f_27)))) := (hR ea (by rw [ht_26]; simp only [mem_chS, List.mem_cons, List.not_mem_nil, or_false]; omega)).trans hF_84
        have hF_95 : F_80 b_31 = .inr (0, [.ref r_32, .int (nI yy), .int ov]) := (hR b_31 (by rw [ht_35]; simp only [mem_chS, List.mem_cons, List.not_mem_nil, or_false]; omega)).trans hF_85
        have hF_96 : F_80 r_32 = .inl (cs 16, 60, .inl fq) := (hR r_32 (by rw [ht_37]; simp only [mem_chS, List.mem_cons, List.not_mem_nil, or_false]; omega)).trans hF_86
        have hF_97 : F_80 r_49 = .inr (0, [.ref vr_51, .int (nI (D jr).2.2.2.2.1), .int 0]) := (hR r_49 (by rw [hq_54]; simp only [mem_chS, List.mem_cons, List.not_mem_nil, or_false]; omega)).trans hF_87
        have hF_98 : F_80 vr_51 = .inl (cs 16, 700, .inl ((D jr).2.2.2.2.2)) := (hR vr_51 (by rw [ht_57]; simp only [mem_chS, List.mem_cons, List.not_mem_nil, or_false]; omega)).trans hF_88
        obtain ⟨hv1, hv2, hv3, hv4, hv5, hv6, hv7⟩ := id hv_89
        refine lv_iload hx hb dX1_check_104 (lv_at hl 0 rfl) ?_
        refine lv_aload_n hx hb dX1_check_106 rfl (lv_at hl 3 rfl) ?_
        refine pg_getN (ci := 0) (v := .int (nI (D jr).2.2.2.2.1)) (C := RX0) (T := TX0) (N := 3) hx hb hts it_0 hown hK hP hq_53 hF_97 rfl 1 (by decide) (hE.nest kn_23) (fun _ h9 => h9) rfl dX1_check_107 ?_
        refine lv_icmp_ge (tgt := 184) hx hb dX1_check_110 (by decide) (fun c_99 => ?_) (fun c_99 => ?_)
        ·
          have hi_100 : (D jr).2.2.2.2.1 ≤ j := leN (N := (D jr).2.2.2.2.1) c_99
          have hjz : (D jr).2.2.2.2.1 ≤ j := (nI_leI (by omega) (by omega)).mp c_99
          refine lv_iload hx hb dX1_check_184 (lv_at hl 1 rfl) ?_
          refine lv_if_ne (tgt := 191) hx hb dX1_check_186 (by decide) (fun c_101 => ?_) (fun c_101 => ?_)
          ·
            have hr0 : ¬ rd = 0 := fun q => c_101 (by rw [q]; rfl)
            obtain ⟨hra, hrz, hST, hrt⟩ := hrdi.resolve_left hr0
            have hrz : rd < (D jr).2.2.2.2.1 := by omega
            have hgt := fdT_gt (T := (TC (D jr).2.2.2.2.2 (D jr).2.2.2.2.1)) (c := 32) hST.2 hrz
            obtain ⟨v0_103, v1_104, v2_105, z_106, v4_107, v5_108, hF_109, hq_110⟩ := hO.term hi_61 ht_62
            refine lv_aload hx hb dX1_check_191 (lv_at hl 2 rfl) ?_
            refine lv_aload_n hx hb dX1_check_193 rfl (lv_at hl 3 rfl) ?_
            refine lv_iload hx hb dX1_check_194 (lv_at hl 1 rfl) ?_
            refine lv_aload_n hx hb dX1_check_196 rfl (lv_at hl 3 rfl) ?_
            refine lv_bipush (v := 32) hx hb dX1_check_197 (by decide) ?_
            refine lv_iload hx hb dX1_check_199 (lv_at hl 1 rfl) ?_
            refine lv_aload_n hx hb dX1_check_201 rfl (lv_at hl 3 rfl) ?_
            refine pg_getN (ci := 0) (v := .int (nI (D jr).2.2.2.2.1)) (C := RX0) (T := TX0) (N := 3) hx hb hts it_0 hown hK hP hq_53 hF_97 rfl 1 (by decide) (hE.nest kn_23) (fun _ h9 => h9) rfl dX1_check_202 ?_
            have hFc := pg_free hD hS hA
            refine va_calli (va_runV (As := [.int 32, .int (nI rd), .int (nI (D jr).2.2.2.2.1)]) (rest := [.int (nI rd), .ref r_49, .ref b_59]) ⟨hx, hb, hml, hown, hts⟩ (s_X0_find_g l dC dI cs ty L H.size F_80 r_49 μ_52 vr_51 700 ((D jr).2.2.2.2.1) rd ((D jr).2.2.2.2.1) ((D jr).2.2.2.2.2) 32 hW hq_53 hq_54 hF_97 hF_98 (by omega) (by omega) (by omega) (Nat.le_refl _)) ⟨callB_of 3 hts (gi kt_122) rfl rfl rfl (hts _ kt_1) (hts _ kt_561) (by decide +kernel) ⟨Nat.le_of_ble_eq_true rfl, Nat.le_of_ble_eq_true rfl⟩, (hts _ kt_124), (hts _ kt_125)⟩ ⟨fun a U g mk q => ⟨q.1, PT.calling q.2⟩, pg_recv hK hP hq_53 hF_97 (q := (RX0, TX0, 3)) rfl, fun U hU hWm => ⟨rfl, PT.mk hU hWm hP hK hD hE hO⟩⟩ rfl rfl hl.1 rfl (lv_room (Nat.le_of_ble_eq_true rfl)) dX1_check_205 ⟨by show _ + 0 ≤ 0; omega, by show _ + 0 ≤ 0; omega⟩) hS (fun q _ h => hFc q h) hFc (fun r_111 u t H1 locs ht hvm hw hB hz1 hk1 hS => ?_)
            obtain ⟨F_112, hB1⟩ := hB
            obtain rfl : F_80 = F_112 := (funext (fun a => hB1.2.2.2 a List.not_mem_nil)).symm
            obtain ⟨hP, hD, hO, hR⟩ := QT.back hB1 ht hFc hR (fun q h => absurd h List.not_mem_nil)
            generalize H1 = H at hP hS ⊢
            have hw : (∃ k : Nat, r_111 = nI k ∧ FSX (D jr).2.2.2.2.2 32 rd (D jr).2.2.2.2.1 k) := hw
            have hw_113 := hw
            obtain ⟨k9, hk9, hfs⟩ := hw_113
            obtain rfl := fd_of (c := 32) hfs (Nat.le_refl _) (by omega)
            subst hk9
            have hfl : rd ≤ (fdT (TC (D jr).2.2.2.2.2 (D jr).2.2.2.2.1) 32 rd (D jr).2.2.2.2.1) ∧ (fdT (TC (D jr).2.2.2.2.2 (D jr).2.2.2.2.1) 32 rd (D jr).2.2.2.2.1) ≤ rd + ((D jr).2.2.2.2.1 - rd) := fdT_le ((D jr).2.2.2.2.1 - rd) rd
            have hFc := pg_free hD hS hA
            refine va_callv (va_runV (As := [.ref r_49, .int (nI rd), .int (nI (fdT (TC (D jr).2.2.2.2.2 (D jr).2.2.2.2.1) 32 rd (D jr).2.2.2.2.1))]) (rest := []) ⟨hx, hb, hml, hown, hts⟩ (s_X10_read_e l dC dI cs ty L H.size F_80 b_59 (ρ + 36 + lv + 24) r_49 μ_52 vr_51 700 ((D jr).2.2.2.2.1) rd (fdT (TC (D jr).2.2.2.2.2 (D jr).2.2.2.2.1) 32 rd (D jr).2.2.2.2.1) ((D jr).2.2.2.2.2) v0_103 v1_104 v2_105 z_106 v4_107 v5_108 hW hi_61 ht_62 hq_53 hq_54 hF_97 hF_98 (by omega) (by omega) (by omega) (by omega) (hgt) (by omega) (by omega) (by omega) hF_109) ⟨callB_of 3 hts (gi kt_592) rfl rfl rfl (hts _ kt_90) (hts _ kt_593) (by decide +kernel) ⟨Nat.le_of_ble_eq_true rfl, Nat.le_of_ble_eq_true rfl⟩, (hts _ kt_594), (hts _ kt_595)⟩ ⟨fun a U g mk q => ⟨q.1, PTE.calling q.2⟩, pg_recv hK hP hi_61 hF_109 (q := (RX10, TX10, 6)) rfl, fun U hU hWm => ⟨rfl, PTE.mk hU hWm hP hK hD hE hO hG (fun x hx => absurd hx List.not_mem_nil) hS hFc⟩⟩ rfl rfl hl.1 rfl (lv_room (Nat.le_of_ble_eq_true rfl)) dX1_check_208 ⟨by show _ + 0 ≤ 0; omega, by show _ + 0 ≤ 0; omega⟩) hS (fun q _ h => hFc q h) hFc (fun u t H1 locs ht hvm hw hB hz1 hk1 hS => ?_)
            obtain ⟨F_115, k1_116, k2_117, k3_118, k4_119, xb_120, xa_121, hB1, hq_122, hq_123, hq_124⟩ := hB
            obtain ⟨hP, hD, hO, hR⟩ := QT.back hB1 ht hFc hR (fun q h => by simp only [mem_chS, List.mem_cons, List.not_mem_nil, or_false] at h ⊢; omega)
            have hF_125 : F_115 d = .inr (2, [.ref ea, .int (nI cn)]) := (hB1.2.2.2 d (by rw [ht_2]; simp only [mem_chS, List.mem_cons, List.not_mem_nil, or_false]; omega)).trans hF_91
            have hF_126 : F_115 nm = .inl (cs 20, 12, .inr (.inr (.inr (.inr f_19)))) := (hB1.2.2.2 nm (by rw [ht_16]; simp only [mem_chS, List.mem_cons, List.not_mem_nil, or_false]; omega)).trans hF_92
            have hF_127 : F_115 te = .inl (cs 22, 11, .inr (.inr (.inr (.inr f_22)))) := (hB1.2.2.2 te (by rw [ht_18]; simp only [mem_chS, List.mem_cons, List.not_mem_nil, or_false]; omega)).trans hF_93
            have hF_128 : F_115 ea = .inl (cs 21, 40, .inr (.inr (.inr (.inr f_27)))) := (hB1.2.2.2 ea (by rw [ht_26]; simp only [mem_chS, List.mem_cons, List.not_mem_nil, or_false]; omega)).trans hF_94
            have hF_129 : F_115 b_31 = .inr (0, [.ref r_32, .int (nI yy), .int ov]) := (hB1.2.2.2 b_31 (by rw [ht_35]; simp only [mem_chS, List.mem_cons, List.not_mem_nil, or_false]; omega)).trans hF_95
            have hF_130 : F_115 r_32 = .inl (cs 16, 60, .inl fq) := (hB1.2.2.2 r_32 (by rw [ht_37]; simp only [mem_chS, List.mem_cons, List.not_mem_nil, or_false]; omega)).trans hF_96
            have hF_131 : F_115 r_49 = .inr (0, [.ref vr_51, .int (nI (D jr).2.2.2.2.1), .int 0]) := (hB1.2.2.2 r_49 (by rw [hq_54]; simp only [mem_chS, List.mem_cons, List.not_mem_nil, or_false]; omega)).trans hF_97
            have hF_132 : F_115 vr_51 = .inl (cs 16, 700, .inl ((D jr).2.2.2.2.2)) := (hB1.2.2.2 vr_51 (by rw [ht_57]; simp only [mem_chS, List.mem_cons, List.not_mem_nil, or_false]; omega)).trans hF_98
            have hF_133 : F_115 h0 = .inr (1, [.ref d, .ref w0, .ref w1, .ref w2, .ref w3, .ref nm, .ref te, .int ad, .int v1, .int (nI cj), .int (nI vj)]) := (hB1.2.2.2 h0 (by rw [hT_h0]; simp only [mem_chS, List.mem_cons, List.not_mem_nil, or_false]; omega)).trans hv3
            generalize H1 = H at hP hS ⊢
            have hkb := hq_124
            obtain ⟨t9, ht9⟩ := hrt
            have hk0 : ¬ k1_116 = 0 := fun q => by have h9 := trr_0 hq_123 q; rw [h9] at ht9; exact (nomatch ht9.1)
            obtain ⟨w, y9, hw32, hxb, hX, hxa⟩ := trr_s hq_123 hk0
            subst hxb
            have hSD2 := hSD.fr hO0 hW hi_3 ht_5 hi_6 ht_8 hi_9 ht_11 hi_12 ht_14 hR (fun k9 h1 h2 => by simp only [mem_chS, List.mem_cons, List.not_mem_nil, or_false]; omega)
            have hDI2 := DIRC.fr hDI hO0 hW hi_25 ht_26 hcn hR (hF_128.trans he0.symm) (fun k hk => by simp only [mem_chS, List.mem_cons, List.not_mem_nil, or_false]; omega)
            have hND2 := hND.fr hn0 hF_126 hbf_33 hO0 hW hi_34 ht_35 hR (by simp only [mem_chS, List.mem_cons, List.not_mem_nil, or_false]; omega)
            have hk7 : k1_116 = 7 := by have h9 := Option.some.inj (hX.symm.trans ht9.1); have h8 := ht9.2; rw [← h9] at h8; exact h8
            refine lv_aload_n hx hb dX1_check_211 rfl (lv_at hl 5 rfl) ?_
            refine lv_aload_n hx hb dX1_check_212 rfl (lv_at hl 3 rfl) ?_
            refine lv_iload_n hx hb dX1_check_213 rfl (lv_at hl 6 rfl) ?_
            have hFc := pg_free hD hS hA
            refine va_calli (va_runV (As := [.ref r_49, .int (nI lv)]) (rest := []) ⟨hx, hb, hml, hown, hts⟩ (s_X1_follow_e l dC dI cs ty L H.size F_115 h0 ρ d δ ea w0 w1 w2 w3 nm te r_49 μ_52 vr_51 700 lv fr lo ((D jr).2.2.2.2.1) k1_116 k2_117 k3_118 k4_119 w ((D jr).2.2.2.2.2) cj vj ad v1 cn D SD R U xa_121 hW hL_h0 hT_h0 hq_53 hq_54 hF_131 hF_132 (by omega) (by omega) (hmu) (by omega) (by omega) (by omega) hF_133 hF_125 (hDI2) (hSD2) (hND2) (hw32) (by omega) (by omega) (by omega) (by omega) (hv6) (hv7) (⟨_, _, hF_127, hbf_60, hq_122⟩) (hC) (tr_hs hX (by omega)) (fun U c v => Nat.lt_of_le_of_lt (hPR U c v).1 (by omega))) ⟨callB_of 2 hts (gi kt_640) rfl rfl rfl (hts _ kt_572) (hts _ kt_641) (by decide +kernel) ⟨by show fr + 7 + 1 ≤ fr + 9; omega, by show 8 + (4 + 11) + (lo + 161) ≤ lo + 207; omega⟩, (hts _ kt_642), (hts _ kt_643)⟩ ⟨fun a U g mk q => ⟨q.1, PTE.calling q.2⟩, pg_recv hK hP hL_h0 hF_133 (q := (RX1, TX1, 11)) rfl, fun U hU hWm => ⟨rfl, PTE.mk hU hWm hP hK hD hE hO hG (fun x hx => absurd hx List.not_mem_nil) hS hFc⟩⟩ rfl rfl hl.1 rfl (lv_room (Nat.le_of_ble_eq_true rfl)) dX1_check_214 ⟨by show _ + 0 ≤ 0; omega, by show _ + 0 ≤ 0; omega⟩) hS (fun q _ h => hFc q h) hFc (fun r_135 gp_134 t H1 locs ht hvm hw hB hz1 hk1 hS => ?_)
            obtain ⟨F_136, hB1, hq_137⟩ := hB
            obtain ⟨hP, hD, hO, hR⟩ := QT.back hB1 ht hFc hR (fun q h => by simp only [mem_chS, List.mem_cons, List.not_mem_nil, or_false] at h ⊢; omega)
            have hF_138 : F_136 d = .inr (2, [.ref ea, .int (nI cn)]) := (hB1.2.2.2 d (by rw [ht_2]; simp only [mem_chS, List.mem_cons, List.not_mem_nil, or_false]; omega)).trans hF_125
            have hF_139 : F_136 nm = .inl (cs 20, 12, .inr (.inr (.inr (.inr f_19)))) := (hB1.2.2.2 nm (by rw [ht_16]; simp only [mem_chS, List.mem_cons, List.not_mem_nil, or_false]; omega)).trans hF_126
            have hF_140 : F_136 te = .inl (cs 22, 11, .inr (.inr (.inr (.inr f_22)))) := (hB1.2.2.2 te (by rw [ht_18]; simp only [mem_chS, List.mem_cons, List.not_mem_nil, or_false]; omega)).trans hF_127
            have hF_141 : F_136 ea = .inl (cs 21, 40, .inr (.inr (.inr (.inr f_27)))) := (hB1.2.2.2 ea (by rw [ht_26]; simp only [mem_chS, List.mem_cons, List.not_mem_nil, or_false]; omega)).trans hF_128
            have hF_142 : F_136 b_31 = .inr (0, [.ref r_32, .int (nI yy), .int ov]) := (hB1.2.2.2 b_31 (by rw [ht_35]; simp only [mem_chS, List.mem_cons, List.not_mem_nil, or_false]; omega)).trans hF_129
            have hF_143 : F_136 r_32 = .inl (cs 16, 60, .inl fq) := (hB1.2.2.2 r_32 (by rw [ht_37]; simp only [mem_chS, List.mem_cons, List.not_mem_nil, or_false]; omega)).trans hF_130
            have hF_144 : F_136 r_49 = .inr (0, [.ref vr_51, .int (nI (D jr).2.2.2.2.1), .int 0]) := (hB1.2.2.2 r_49 (by rw [hq_54]; simp only [mem_chS, List.mem_cons, List.not_mem_nil, or_false]; omega)).trans hF_131
            have hF_145 : F_136 vr_51 = .inl (cs 16, 700, .inl ((D jr).2.2.2.2.2)) := (hB1.2.2.2 vr_51 (by rw [ht_57]; simp only [mem_chS, List.mem_cons, List.not_mem_nil, or_false]; omega)).trans hF_132
            have hF_146 : F_136 b_59 = .inr (10, [.int (nI k1_116), .int (nI k2_117), .int (nI k3_118), .int (nI k4_119), .int (nI w), .int xa_121]) := (hB1.2.2.2 b_59 (by rw [ht_62]; simp only [mem_chS, List.mem_cons, List.not_mem_nil, or_false]; omega)).trans hq_122
            generalize H1 = H at hP hS ⊢
            have hw : (r_135 = nI (flW SD R (TC (D jr).2.2.2.2.2 (D jr).2.2.2.2.1) U (k1_116, k2_117, k3_118, k4_119, w, xa_121) cj vj).1 ∧ gp_134 = (flW SD R (TC (D jr).2.2.2.2.2 (D jr).2.2.2.2.1) U (k1_116, k2_117, k3_118, k4_119, w, xa_121) cj vj).2) := hw
            have hw_147 := hw
            refine W.widen (k := 0) (n := 0) (by omega) (by omega) ?_
            exact W.iret (v := r_135) hx hb hr (fun t ht hWm => ⟨⟨r_135, gp_134, rfl, (by rw [chB_c hHS hOW (by omega), hRT, show ctW D cn SD ad R (TC (D jr).2.2.2.2.2 (D jr).2.2.2.2.1) (D jr).2.2.2.2.1 U cc vo (some rd) = cfW SD R (TC (D jr).2.2.2.2.2 (D jr).2.2.2.2.1) (D jr).2.2.2.2.1 U rd (tlw D cn SD ad R (TC (D jr).2.2.2.2.2 (D jr).2.2.2.2.1) (D jr).2.2.2.2.1 U ((D jr).2.2.2.2.1 - 7) 7 cc vo) from rfl, tlw_e hv4 hjz, show cfW SD R (TC (D jr).2.2.2.2.2 (D jr).2.2.2.2.1) (D jr).2.2.2.2.1 U rd (none, cj, vj) = flW SD R (TC (D jr).2.2.2.2.2 (D jr).2.2.2.2.1) U ((trT (TC (D jr).2.2.2.2.2 (D jr).2.2.2.2.1) rd (fdT (TC (D jr).2.2.2.2.2 (D jr).2.2.2.2.1) 32 rd (D jr).2.2.2.2.1)).getD NOT) cj vj from if_neg hr0, hX]; exact hw_147), ⟨F_136, QT.mk ht hP hD hO hR, hq_137⟩⟩, hS.F ht⟩) hS.2.2 dX1_check_217
          ·
            have hr0 : rd = 0 := (nI_eq (b := 0) (by omega) (by omega)).mp c_101
            refine lv_iconst (v := 1) hx hb dX1_check_189 (by decide) ?_
            refine W.widen (k := 0) (n := 0) (by omega) (by omega) ?_
            exact W.iret (v := 1) hx hb hr (fun t ht hWm => ⟨⟨1, (cj, vj), rfl, (by rw [chB_c hHS hOW (by omega), hRT, show ctW D cn SD ad R (TC (D jr).2.2.2.2.2 (D jr).2.2.2.2.1) (D jr).2.2.2.2.1 U cc vo (some rd) = cfW SD R (TC (D jr).2.2.2.2.2 (D jr).2.2.2.2.1) (D jr).2.2.2.2.1 U rd (tlw D cn SD ad R (TC (D jr).2.2.2.2.2 (D jr).2.2.2.2.1) (D jr).2.2.2.2.1 U ((D jr).2.2.2.2.1 - 7) 7 cc vo) from rfl, tlw_e hv4 hjz, show cfW SD R (TC (D jr).2.2.2.2.2 (D jr).2.2.2.2.1) (D jr).2.2.2.2.1 U rd (none, cj, vj) = (1, cj, vj) from if_pos hr0]; exact ⟨rfl, rfl⟩), ⟨F_80, QT.mk ht hP hD hO hR, hv3⟩⟩, hS.F ht⟩) hS.2.2 dX1_check_190
        ·
          have hi_149 : j < (D jr).2.2.2.2.1 := ltN (N := (D jr).2.2.2.2.1) c_99
          have hjz : j < (D jr).2.2.2.2.1 := Nat.not_le.mp (fun q => c_99 ((nI_leI (by omega) (by omega)).mpr q))
          refine lv_aload_n hx hb dX1_check_113 rfl (lv_at hl 3 rfl) ?_
          refine lv_iload hx hb dX1_check_114 (lv_at hl 0 rfl) ?_
          have hFc := pg_free hD hS hA
          refine va_calli (va_runS (As := [.ref r_49, .int (nI j)]) (rest := []) ⟨hx, hb, hml, hown, hts⟩ (s_X1_startsTerm_e l dC dI cs ty L H.size F_80 r_49 μ_52 vr_51 700 ((D jr).2.2.2.2.1) j ((D jr).2.2.2.2.2) hW hq_53 hq_54 hF_97 hF_98 (by omega) (by omega) (by omega) (by omega)) ⟨callB_of 2 hts (gi kt_589) rfl rfl rfl (hts _ kt_572) (hts _ kt_590) (by decide +kernel) ⟨Nat.le_of_ble_eq_true rfl, Nat.le_of_ble_eq_true rfl⟩, (hts _ kt_591)⟩ ⟨fun a U g mk q => ⟨q.1, PT.calling q.2⟩, fun U hU hWm => ⟨rfl, PT.mk hU hWm hP hK hD hE hO⟩⟩ rfl rfl hl.1 rfl (lv_room (Nat.le_of_ble_eq_true rfl)) dX1_check_116 ⟨by show _ + 0 ≤ 0; omega, by show _ + 0 ≤ 0; omega⟩) hS (fun q _ h => hFc q h) hFc (fun r_150 u t H1 locs ht hvm hw hB hz1 hk1 hS => ?_)
          obtain ⟨F_151, hB1⟩ := hB
          obtain rfl : F_80 = F_151 := (funext (fun a => hB1.2.2.2 a List.not_mem_nil)).symm
          obtain ⟨hP, hD, hO, hR⟩ := QT.back hB1 ht hFc hR (fun q h => absurd h List.not_mem_nil)
          generalize H1 = H at hP hS ⊢
          have hw : (r_150 = 1 ∧ (TC (D jr).2.2.2.2.2 (D jr).2.2.2.2.1) (j - 1) = 32 ∧ ¬ (TC (D jr).2.2.2.2.2 (D jr).2.2.2.2.1) j = 32) ∨ (r_150 = 0 ∧ ¬ ((TC (D jr).2.2.2.2.2 (D jr).2.2.2.2.1) (j - 1) = 32 ∧ ¬ (TC (D jr).2.2.2.2.2 (D jr).2.2.2.2.1) j = 32)) := hw
          have hw_152 := hw
          refine lv_if_ne (tgt := 125) hx hb dX1_check_119 (by decide) (fun c_153 => ?_) (fun c_153 => ?_)
          ·
            have hST : STT (TC (D jr).2.2.2.2.2 (D jr).2.2.2.2.1) j := orp1 hw_152 c_153
            have hgt := fdT_gt (T := (TC (D jr).2.2.2.2.2 (D jr).2.2.2.2.1)) (c := 32) hST.2 hjz
            obtain ⟨v0_154, v1_155, v2_156, z_157, v4_158, v5_159, hF_160, hq_161⟩ := hO.term hi_61 ht_62
            refine lv_aload hx hb dX1_check_125 (lv_at hl 2 rfl) ?_
            refine lv_aload_n hx hb dX1_check_127 rfl (lv_at hl 3 rfl) ?_
            refine lv_iload hx hb dX1_check_128 (lv_at hl 0 rfl) ?_
            refine lv_aload_n hx hb dX1_check_130 rfl (lv_at hl 3 rfl) ?_
            refine lv_bipush (v := 32) hx hb dX1_check_131 (by decide) ?_
            refine lv_iload hx hb dX1_check_133 (lv_at hl 0 rfl) ?_
            refine lv_aload_n hx hb dX1_check_135 rfl (lv_at hl 3 rfl) ?_
            refine pg_getN (ci := 0) (v := .int (nI (D jr).2.2.2.2.1)) (C := RX0) (T := TX0) (N := 3) hx hb hts it_0 hown hK hP hq_53 hF_97 rfl 1 (by decide) (hE.nest kn_23) (fun _ h9 => h9) rfl dX1_check_136 ?_
            have hFc := pg_free hD hS hA
            refine va_calli (va_runV (As := [.int 32, .int (nI j), .int (nI (D jr).2.2.2.2.1)]) (rest := [.int (nI j), .ref r_49, .ref b_59]) ⟨hx, hb, hml, hown, hts⟩ (s_X0_find_g l dC dI cs ty L H.size F_80 r_49 μ_52 vr_51 700 ((D jr).2.2.2.2.1) j ((D jr).2.2.2.2.1) ((D jr).2.2.2.2.2) 32 hW hq_53 hq_54 hF_97 hF_98 (by omega) (by omega) (by omega) (Nat.le_refl _)) ⟨callB_of 3 hts (gi kt_122) rfl rfl rfl (hts _ kt_1) (hts _ kt_561) (by decide +kernel) ⟨Nat.le_of_ble_eq_true rfl, Nat.le_of_ble_eq_true rfl⟩, (hts _ kt_124), (hts _ kt_125)⟩ ⟨fun a U g mk q => ⟨q.1, PT.calling q.2⟩, pg_recv hK hP hq_53 hF_97 (q := (RX0, TX0, 3)) rfl, fun U hU hWm => ⟨rfl, PT.mk hU hWm hP hK hD hE hO⟩⟩ rfl rfl hl.1 rfl (lv_room (Nat.le_of_ble_eq_true rfl)) dX1_check_139 ⟨by show _ + 0 ≤ 0; omega, by show _ + 0 ≤ 0; omega⟩) hS (fun q _ h => hFc q h) hFc (fun r_162 u t H1 locs ht hvm hw hB hz1 hk1 hS => ?_)
            obtain ⟨F_163, hB1⟩ := hB
            obtain rfl : F_80 = F_163 := (funext (fun a => hB1.2.2.2 a List.not_mem_nil)).symm
            obtain ⟨hP, hD, hO, hR⟩ := QT.back hB1 ht hFc hR (fun q h => absurd h List.not_mem_nil)
            generalize H1 = H at hP hS ⊢
            have hw : (∃ k : Nat, r_162 = nI k ∧ FSX (D jr).2.2.2.2.2 32 j (D jr).2.2.2.2.1 k) := hw
            have hw_164 := hw
            obtain ⟨k9, hk9, hfs⟩ := hw_164
            obtain rfl := fd_of (c := 32) hfs (Nat.le_refl _) (by omega)
            subst hk9
            have hfl : j ≤ (fdT (TC (D jr).2.2.2.2.2 (D jr).2.2.2.2.1) 32 j (D jr).2.2.2.2.1) ∧ (fdT (TC (D jr).2.2.2.2.2 (D jr).2.2.2.2.1) 32 j (D jr).2.2.2.2.1) ≤ j + ((D jr).2.2.2.2.1 - j) := fdT_le ((D jr).2.2.2.2.1 - j) j
            have hFc := pg_free hD hS hA
            refine va_callv (va_runV (As := [.ref r_49, .int (nI j), .int (nI (fdT (TC (D jr).2.2.2.2.2 (D jr).2.2.2.2.1) 32 j (D jr).2.2.2.2.1))]) (rest := []) ⟨hx, hb, hml, hown, hts⟩ (s_X10_read_e l dC dI cs ty L H.size F_80 b_59 (ρ + 36 + lv + 24) r_49 μ_52 vr_51 700 ((D jr).2.2.2.2.1) j (fdT (TC (D jr).2.2.2.2.2 (D jr).2.2.2.2.1) 32 j (D jr).2.2.2.2.1) ((D jr).2.2.2.2.2) v0_154 v1_155 v2_156 z_157 v4_158 v5_159 hW hi_61 ht_62 hq_53 hq_54 hF_97 hF_98 (by omega) (by omega) (by omega) (by omega) (hgt) (by omega) (by omega) (by omega) hF_160) ⟨callB_of 3 hts (gi kt_592) rfl rfl rfl (hts _ kt_90) (hts _ kt_593) (by decide +kernel) ⟨Nat.le_of_ble_eq_true rfl, Nat.le_of_ble_eq_true rfl⟩, (hts _ kt_594), (hts _ kt_595)⟩ ⟨fun a U g mk q => ⟨q.1, PTE.calling q.2⟩, pg_recv hK hP hi_61 hF_160 (q := (RX10, TX10, 6)) rfl, fun U hU hWm => ⟨rfl, PTE.mk hU hWm hP hK hD hE hO hG (fun x hx => absurd hx List.not_mem_nil) hS hFc⟩⟩ rfl rfl hl.1 rfl (lv_room (Nat.le_of_ble_eq_true rfl)) dX1_check_142 ⟨by show _ + 0 ≤ 0; omega, by show _ + 0 ≤ 0; omega⟩) hS (fun q _ h => hFc q h) hFc (fun u t H1 locs ht hvm hw hB hz1 hk1 hS => ?_)
            obtain ⟨F_166, k1_167, k2_168, k3_169, k4_170, xb_171, xa_172, hB1, hq_173, hq_174, hq_175⟩ := hB
            obtain ⟨hP, hD, hO, hR⟩ := QT.back hB1 ht hFc hR (fun q h => by simp only [mem_chS, List.mem_cons, List.not_mem_nil, or_false] at h ⊢; omega)
            have hF_176 : F_166 d = .inr (2, [.ref ea, .int (nI cn)]) := (hB1.2.2.2 d (by rw [ht_2]; simp only [mem_chS, List.mem_cons, List.not_mem_nil, or_false]; omega)).trans hF_91
            have hF_177 : F_166 nm = .inl (cs 20, 12, .inr (.inr (.inr (.inr f_19)))) := (hB1.2.2.2 nm (by rw [ht_16]; simp only [mem_chS, List.mem_cons, List.not_mem_nil, or_false]; omega)).trans hF_92
            have hF_178 : F_166 te = .inl (cs 22, 11, .inr (.inr (.inr (.inr f_22)))) := (hB1.2.2.2 te (by rw [ht_18]; simp only [mem_chS, List.mem_cons, List.not_mem_nil, or_false]; omega)).trans hF_93
            have hF_179 : F_166 ea = .inl (cs 21, 40, .inr (.inr (.inr (.inr f_27)))) := (hB1.2.2.2 ea (by rw [ht_26]; simp only [mem_chS, List.mem_cons, List.not_mem_nil, or_false]; omega)).trans hF_94
            have hF_180 : F_166 b_31 = .inr (0, [.ref r_32, .int (nI yy), .int ov]) := (hB1.2.2.2 b_31 (by rw [ht_35]; simp only [mem_chS, List.mem_cons, List.not_mem_nil, or_false]; omega)).trans hF_95
            have hF_181 : F_166 r_32 = .inl (cs 16, 60, .inl fq) := (hB1.2.2.2 r_32 (by rw [ht_37]; simp only [mem_chS, List.mem_cons, List.not_mem_nil, or_false]; omega)).trans hF_96
            have hF_182 : F_166 r_49 = .inr (0, [.ref vr_51, .int (nI (D jr).2.2.2.2.1), .int 0]) := (hB1.2.2.2 r_49 (by rw [hq_54]; simp only [mem_chS, List.mem_cons, List.not_mem_nil, or_false]; omega)).trans hF_97
            have hF_183 : F_166 vr_51 = .inl (cs 16, 700, .inl ((D jr).2.2.2.2.2)) := (hB1.2.2.2 vr_51 (by rw [ht_57]; simp only [mem_chS, List.mem_cons, List.not_mem_nil, or_false]; omega)).trans hF_98
            have hF_184 : F_166 h0 = .inr (1, [.ref d, .ref w0, .ref w1, .ref w2, .ref w3, .ref nm, .ref te, .int ad, .int v1, .int (nI cj), .int (nI vj)]) := (hB1.2.2.2 h0 (by rw [hT_h0]; simp only [mem_chS, List.mem_cons, List.not_mem_nil, or_false]; omega)).trans hv3
            generalize H1 = H at hP hS ⊢
            have hkb := hq_175
            obtain ⟨t9, ht9⟩ := hall j (by omega) (by omega) hST
            have hk0 : ¬ k1_167 = 0 := fun q => by have h9 := trr_0 hq_174 q; rw [h9] at ht9; exact (nomatch ht9)
            obtain ⟨w, y9, hw32, hxb, hX, hxa⟩ := trr_s hq_174 hk0
            subst hxb
            have hSD2 := hSD.fr hO0 hW hi_3 ht_5 hi_6 ht_8 hi_9 ht_11 hi_12 ht_14 hR (fun k9 h1 h2 => by simp only [mem_chS, List.mem_cons, List.not_mem_nil, or_false]; omega)
            have hDI2 := DIRC.fr hDI hO0 hW hi_25 ht_26 hcn hR (hF_179.trans he0.symm) (fun k hk => by simp only [mem_chS, List.mem_cons, List.not_mem_nil, or_false]; omega)
            have hND2 := hND.fr hn0 hF_177 hbf_33 hO0 hW hi_34 ht_35 hR (by simp only [mem_chS, List.mem_cons, List.not_mem_nil, or_false]; omega)
            refine lv_aload_n hx hb dX1_check_145 rfl (lv_at hl 5 rfl) ?_
            refine lv_aload_n hx hb dX1_check_146 rfl (lv_at hl 3 rfl) ?_
            refine lv_iload_n hx hb dX1_check_147 rfl (lv_at hl 6 rfl) ?_
            have hFc := pg_free hD hS hA
            refine va_calli (va_runV (As := [.ref r_49, .int (nI lv)]) (rest := []) ⟨hx, hb, hml, hown, hts⟩ (s_X1_match_e l dC dI cs ty L H.size F_166 h0 ρ d δ ea w0 w1 w2 w3 nm te r_49 μ_52 vr_51 700 lv fr lo ((D jr).2.2.2.2.1) k1_167 k2_168 k3_169 k4_170 w ((D jr).2.2.2.2.2) cj vj ad v1 cn D SD R U xa_172 hW hL_h0 hT_h0 hq_53 hq_54 hF_182 hF_183 (by omega) (by omega) (hmu) (by omega) (by omega) (by omega) hF_184 hF_176 (hDI2) (hSD2) (hND2) (hw32) (by omega) (by omega) (by omega) (by omega) (hv6) (hv7) (⟨_, _, hF_178, hbf_60, hq_173⟩) (hC) (fun q => tr_hs hX (by omega)) (fun U c v => Nat.lt_of_le_of_lt (hPR U c v).1 (by omega))) ⟨callB_of 2 hts (gi kt_644) rfl rfl rfl (hts _ kt_572) (hts _ kt_645) (by decide +kernel) ⟨by show fr + 7 + 1 ≤ fr + 9; omega, by show 8 + (5 + 11) + (lo + 161) ≤ lo + 207; omega⟩, (hts _ kt_646), (hts _ kt_647)⟩ ⟨fun a U g mk q => ⟨q.1, PTE.calling q.2⟩, pg_recv hK hP hL_h0 hF_184 (q := (RX1, TX1, 11)) rfl, fun U hU hWm => ⟨rfl, PTE.mk hU hWm hP hK hD hE hO hG (fun x hx => absurd hx List.not_mem_nil) hS hFc⟩⟩ rfl rfl hl.1 rfl (lv_room (Nat.le_of_ble_eq_true rfl)) dX1_check_148 ⟨by show _ + 0 ≤ 0; omega, by show _ + 0 ≤ 0; omega⟩) hS (fun q _ h => hFc q h) hFc (fun r_186 gp_185 t H1 locs ht hvm hw hB hz1 hk1 hS => ?_)
            obtain ⟨F_187, hB1, hq_188⟩ := hB
            obtain ⟨hP, hD, hO, hR⟩ := QT.back hB1 ht hFc hR (fun q h => by simp only [mem_chS, List.mem_cons, List.not_mem_nil, or_false] at h ⊢; omega)
            have hF_189 : F_187 d = .inr (2, [.ref ea, .int (nI cn)]) := (hB1.2.2.2 d (by rw [ht_2]; simp only [mem_chS, List.mem_cons, List.not_mem_nil, or_false]; omega)).trans hF_176
            have hF_190 : F_187 nm = .inl (cs 20, 12, .inr (.inr (.inr (.inr f_19)))) := (hB1.2.2.2 nm (by rw [ht_16]; simp only [mem_chS, List.mem_cons, List.not_mem_nil, or_false]; omega)).trans hF_177
            have hF_191 : F_187 te = .inl (cs 22, 11, .inr (.inr (.inr (.inr f_22)))) := (hB1.2.2.2 te (by rw [ht_18]; simp only [mem_chS, List.mem_cons, List.not_mem_nil, or_false]; omega)).trans hF_178
            have hF_192 : F_187 ea = .inl (cs 21, 40, .inr (.inr (.inr (.inr f_27)))) := (hB1.2.2.2 ea (by rw [ht_26]; simp only [mem_chS, List.mem_cons, List.not_mem_nil, or_false]; omega)).trans hF_179
            have hF_193 : F_187 b_31 = .inr (0, [.ref r_32, .int (nI yy), .int ov]) := (hB1.2.2.2 b_31 (by rw [ht_35]; simp only [mem_chS, List.mem_cons, List.not_mem_nil, or_false]; omega)).trans hF_180
            have hF_194 : F_187 r_32 = .inl (cs 16, 60, .inl fq) := (hB1.2.2.2 r_32 (by rw [ht_37]; simp only [mem_chS, List.mem_cons, List.not_mem_nil, or_false]; omega)).trans hF_181
            have hF_195 : F_187 r_49 = .inr (0, [.ref vr_51, .int (nI (D jr).2.2.2.2.1), .int 0]) := (hB1.2.2.2 r_49 (by rw [hq_54]; simp only [mem_chS, List.mem_cons, List.not_mem_nil, or_false]; omega)).trans hF_182
            have hF_196 : F_187 vr_51 = .inl (cs 16, 700, .inl ((D jr).2.2.2.2.2)) := (hB1.2.2.2 vr_51 (by rw [ht_57]; simp only [mem_chS, List.mem_cons, List.not_mem_nil, or_false]; omega)).trans hF_183
            have hF_197 : F_187 b_59 = .inr (10, [.int (nI k1_167), .int (nI k2_168), .int (nI k3_169), .int (nI k4_170), .int (nI w), .int xa_172]) := (hB1.2.2.2 b_59 (by rw [ht_62]; simp only [mem_chS, List.mem_cons, List.not_mem_nil, or_false]; omega)).trans hq_173
            generalize H1 = H at hP hS ⊢
            have hw : (r_186 = nI (mtW D cn SD ad R (TC (D jr).2.2.2.2.2 (D jr).2.2.2.2.1) U (k1_167, k2_168, k3_169, k4_170, w, xa_172) cj vj).1 ∧ gp_185 = (mtW D cn SD ad R (TC (D jr).2.2.2.2.2 (D jr).2.2.2.2.1) U (k1_167, k2_168, k3_169, k4_170, w, xa_172) cj vj).2) := hw
            have hw_198 := hw
            obtain ⟨hr1, hr2⟩ := hw_198
            subst hr1
            have hMb := mtW_b (D := D) (ze := cn) (S := SD) (ad := ad) (T := (TC (D jr).2.2.2.2.2 (D jr).2.2.2.2.1)) (U := U) (t := (k1_167, k2_168, k3_169, k4_170, w, xa_172)) (c := cj) (v := vj) hPR
            have hM6 := hMb.1
            refine lv_istore (lv' := [(7, .int (nI (mtW D cn SD ad R (TC (D jr).2.2.2.2.2 (D jr).2.2.2.2.1) U (k1_167, k2_168, k3_169, k4_170, w, xa_172) cj vj).1)), (6, .int (nI j)), (5, .int (nI rd)), (4, .ref b_59), (3, .ref r_49), (2, .int (nI jr)), (0, .ref h0), (1, .int (nI lv))]) hx hb dX1_check_151 hl (by decide) rfl (fun ls hl => ?_)
            refine lv_iload hx hb dX1_check_153 (lv_at hl 0 rfl) ?_
            refine lv_if_eq (tgt := 178) hx hb dX1_check_155 (by decide) (fun c_199 => ?_) (fun c_199 => ?_)
            ·
              have hm0 : (mtW D cn SD ad R (TC (D jr).2.2.2.2.2 (D jr).2.2.2.2.1) U (k1_167, k2_168, k3_169, k4_170, w, xa_172) cj vj).1 = 0 := (nI_eq (b := 0) (by omega) (by omega)).mp c_199
              have hcb : cc ≤ gp_185.1 ∧ gp_185.1 ≤ 10 ∧ gp_185.2 ≤ gp_185.1 := by obtain ⟨k1, k2, k3, k4⟩ := hMb.2 hv6 hv7; rw [hr2]; exact ⟨Nat.le_trans hv5 k2, Nat.not_lt.mp (fun q => absurd (hm0.symm.trans (k4 q)) (by decide)), k1⟩
              refine lv_iinc (v := (nI (j + 1))) (lv' := [(6, .int (nI (j + 1))), (7, .int (nI (mtW D cn SD ad R (TC (D jr).2.2.2.2.2 (D jr).2.2.2.2.1) U (k1_167, k2_168, k3_169, k4_170, w, xa_172) cj vj).1)), (5, .int (nI rd)), (4, .ref b_59), (3, .ref r_49), (2, .int (nI jr)), (0, .ref h0), (1, .int (nI lv))]) hx hb dX1_check_178 hl (k := 1) rfl (nI_1 _) (by decide) rfl (fun ls hl => ?_)
              refine lv_goto (tgt := 104) hx hb dX1_check_181 (by decide) ?_
              refine W.widen (k := 0) (n := 0) (by omega) (by omega) ?_
              exact ih_90 ((j + 1), gp_185.1, gp_185.2) F_187 (⟨by omega, by omega, hq_188, by have h9 := tlw_y hv4 hjz hST hX (mtW_a hxa).symm hm0; rw [← hr2] at h9; exact h9, hcb.1, hcb.2.1, hcb.2.2⟩) (by show (D jr).2.2.2.2.1 - (j + 1) < (D jr).2.2.2.2.1 - j; omega) hO hR _ _ hP hD hS ls (lv_sub hl [0, 2, 3, 4, 5, 6, 7] rfl)
            ·
              have hm0 : ¬ (mtW D cn SD ad R (TC (D jr).2.2.2.2.2 (D jr).2.2.2.2.1) U (k1_167, k2_168, k3_169, k4_170, w, xa_172) cj vj).1 = 0 := fun q => c_199 (by rw [q]; rfl)
              refine lv_iload hx hb dX1_check_158 (lv_at hl 0 rfl) ?_
              refine lv_iconst (v := 2) hx hb dX1_check_160 (by decide) ?_
              refine lv_icmp_ne (tgt := 175) hx hb dX1_check_161 (by decide) (fun c_202 => ?_) (fun c_202 => ?_)
              ·
                have hm2 : ¬ (mtW D cn SD ad R (TC (D jr).2.2.2.2.2 (D jr).2.2.2.2.1) U (k1_167, k2_168, k3_169, k4_170, w, xa_172) cj vj).1 = 2 := fun q => c_202 (by rw [q]; rfl)
                refine lv_iload hx hb dX1_check_175 (lv_at hl 0 rfl) ?_
                refine W.widen (k := 0) (n := 0) (by omega) (by omega) ?_
                exact W.iret (v := (nI (mtW D cn SD ad R (TC (D jr).2.2.2.2.2 (D jr).2.2.2.2.1) U (k1_167, k2_168, k3_169, k4_170, w, xa_172) cj vj).1)) hx hb hr (fun t ht hWm => ⟨⟨(nI (mtW D cn SD ad R (TC (D jr).2.2.2.2.2 (D jr).2.2.2.2.1) U (k1_167, k2_168, k3_169, k4_170, w, xa_172) cj vj).1), gp_185, rfl, (by rw [chB_c hHS hOW (by omega), hRT, show ctW D cn SD ad R (TC (D jr).2.2.2.2.2 (D jr).2.2.2.2.1) (D jr).2.2.2.2.1 U cc vo (some rd) = cfW SD R (TC (D jr).2.2.2.2.2 (D jr).2.2.2.2.1) (D jr).2.2.2.2.1 U rd (tlw D cn SD ad R (TC (D jr).2.2.2.2.2 (D jr).2.2.2.2.1) (D jr).2.2.2.2.1 U ((D jr).2.2.2.2.1 - 7) 7 cc vo) from rfl, tlw_r hv4 hjz hST hX (mtW_a hxa).symm hm0, if_neg hm2]; exact ⟨rfl, hr2⟩), ⟨F_187, QT.mk ht hP hD hO hR, hq_188⟩⟩, hS.F ht⟩) hS.2.2 dX1_check_177
              ·
                have hm2 : (mtW D cn SD ad R (TC (D jr).2.2.2.2.2 (D jr).2.2.2.2.1) U (k1_167, k2_168, k3_169, k4_170, w, xa_172) cj vj).1 = 2 := (nI_eq (b := 2) (by omega) (by omega)).mp c_202
                refine lv_aload hx hb dX1_check_164 (lv_at hl 3 rfl) ?_
                refine pg_getN (ci := 10) (v := .int (nI k2_168)) (C := RX10) (T := TX10) (N := 6) hx hb hts it_10 hown hK hP hi_61 hF_197 rfl 1 (by decide) (hE.nest kn_33) (fun _ h9 => h9) rfl dX1_check_166 ?_
                have hFc := pg_free hD hS hA
                refine va_calli (va_runS (As := [.int (nI k2_168)]) (rest := []) ⟨hx, hb, hml, hown, hts⟩ (s_X1_answerOf_e l dC dI cs ty L H.size F_187 k2_168 hW (by omega)) ⟨callB_of 1 hts (gi kt_648) rfl rfl rfl (hts _ kt_572) (hts _ kt_649) (by decide +kernel) ⟨Nat.le_of_ble_eq_true rfl, Nat.le_of_ble_eq_true rfl⟩, (hts _ kt_650)⟩ ⟨fun a U g mk q => ⟨q.1, PT.calling q.2⟩, fun U hU hWm => ⟨rfl, PT.mk hU hWm hP hK hD hE hO⟩⟩ rfl rfl hl.1 rfl (lv_room (Nat.le_of_ble_eq_true rfl)) dX1_check_169 ⟨by show _ + 0 ≤ 0; omega, by show _ + 0 ≤ 0; omega⟩) hS (fun q _ h => hFc q h) hFc (fun r_205 u t H1 locs ht hvm hw hB hz1 hk1 hS => ?_)
                obtain ⟨F_206, hB1⟩ := hB
                obtain rfl : F_187 = F_206 := (funext (fun a => hB1.2.2.2 a List.not_mem_nil)).symm
                obtain ⟨hP, hD, hO, hR⟩ := QT.back hB1 ht hFc hR (fun q h => absurd h List.not_mem_nil)
                generalize H1 = H at hP hS ⊢
                have hw : r_205 = nI (anW k2_168) := hw
                have hw_207 := hw
                refine lv_goto (tgt := 177) hx hb dX1_check_172 (by decide) ?_
                refine W.widen (k := 0) (n := 0) (by omega) (by omega) ?_
                exact W.iret (v := r_205) hx hb hr (fun t ht hWm => ⟨⟨r_205, gp_185, rfl, (by rw [chB_c hHS hOW (by omega), hRT, show ctW D cn SD ad R (TC (D jr).2.2.2.2.2 (D jr).2.2.2.2.1) (D jr).2.2.2.2.1 U cc vo (some rd) = cfW SD R (TC (D jr).2.2.2.2.2 (D jr).2.2.2.2.1) (D jr).2.2.2.2.1 U rd (tlw D cn SD ad R (TC (D jr).2.2.2.2.2 (D jr).2.2.2.2.1) (D jr).2.2.2.2.1 U ((D jr).2.2.2.2.1 - 7) 7 cc vo) from rfl, tlw_r hv4 hjz hST hX (mtW_a hxa).symm hm0, if_pos hm2]; exact ⟨hw_207, hr2⟩), ⟨F_187, QT.mk ht hP hD hO hR, hq_188⟩⟩, hS.F ht⟩) hS.2.2 dX1_check_177
          ·
            refine lv_goto (tgt := 178) hx hb dX1_check_122 (by decide) ?_
            refine lv_iinc (v := (nI (j + 1))) (lv' := [(6, .int (nI (j + 1))), (5, .int (nI rd)), (4, .ref b_59), (3, .ref r_49), (2, .int (nI jr)), (0, .ref h0), (1, .int (nI lv))]) hx hb dX1_check_178 hl (k := 0) rfl (nI_1 _) (by decide) rfl (fun ls hl => ?_)
            refine lv_goto (tgt := 104) hx hb dX1_check_181 (by decide) ?_
            refine W.widen (k := 0) (n := 0) (by omega) (by omega) ?_
            exact ih_90 ((j + 1), cj, vj) F_80 (⟨by omega, by omega, hv3, tlw_n hv4 hjz (orp0 hw_152 c_153), hv5, hv6, hv7⟩) (by show (D jr).2.2.2.2.1 - (j + 1) < (D jr).2.2.2.2.1 - j; omega) hO hR _ _ hP hD hS ls (lv_sub hl [0, 1, 2, 3, 4, 5, 6] rfl)
      ·
        have hRT : rtT (TC (D jr).2.2.2.2.2 (D jr).2.2.2.2.1) (D jr).2.2.2.2.1 = none := nbv_nm hw_74 (fun w h => rtT_le (by omega) h) c_75
        refine lv_bipush (v := 6) hx hb dX1_check_92 (by decide) ?_
        refine W.widen (k := 0) (n := 0) (by omega) (by omega) ?_
        exact W.iret (v := 6) hx hb hr (fun t ht hWm => ⟨⟨6, (cc, vo), rfl, (by rw [chB_c hHS hOW (by omega), hRT]; exact ⟨rfl, rfl⟩), ⟨F_64, QT.mk ht hP hD hO hR, hF_65⟩⟩, hS.F ht⟩) hS.2.2 dX1_check_94
    ·
      have hOn : otw D (ooU U) (yU U) (faU U) 6 SPF cn < 0 := by rw [← hrow]; exact Int32.not_le.mp c_48
      refine lv_iload_n hx hb dX1_check_49 rfl (lv_at hl 0 rfl) ?_
      refine lv_iconst (v := (-1)) hx hb dX1_check_50 (by decide) ?_
      refine lv_icmp_ne (tgt := 58) hx hb dX1_check_51 (by decide) (fun c_208 => ?_) (fun c_208 => ?_)
      ·
        refine lv_bipush (v := 6) hx hb dX1_check_58 (by decide) ?_
        refine W.widen (k := 0) (n := 0) (by omega) (by omega) ?_
        exact W.iret (v := 6) hx hb hr (fun t ht hWm => ⟨⟨6, (cc, vo), rfl, (by rw [chB_o hHS hOn, if_neg (fun q => c_208 (hrow.trans q))]; exact ⟨rfl, rfl⟩), ⟨F, QT.mk ht hP hD hO hR, hFh⟩⟩, hS.F ht⟩) hS.2.2 dX1_check_60
      ·
        refine lv_iconst (v := 0) hx hb dX1_check_54 (by decide) ?_
        refine lv_goto (tgt := 60) hx hb dX1_check_55 (by decide) ?_
        refine W.widen (k := 0) (n := 0) (by omega) (by omega) ?_
        exact W.iret (v := 0) hx hb hr (fun t ht hWm => ⟨⟨0, (cc, vo), rfl, (by rw [chB_o hHS hOn, if_pos (hrow.symm.trans c_208)]; exact ⟨rfl, rfl⟩), ⟨F, QT.mk ht hP hD hO hR, hFh⟩⟩, hS.F ht⟩) hS.2.2 dX1_check_60
  ·
    have hHS : HAS D cn 3 (ooU U) (yU U) (faU U) := (has_u hy3).mp (orp1 hw_41 c_42)
    refine lv_iconst (v := 5) hx hb dX1_check_26 (by decide) ?_
    refine W.widen (k := 0) (n := 0) (by omega) (by omega) ?_
    exact W.iret (v := 5) hx hb hr (fun t ht hWm => ⟨⟨5, (cc, vo), rfl, (by rw [chB_t hHS]; exact ⟨rfl, rfl⟩), ⟨F, QT.mk ht hP hD hO hR, hFh⟩⟩, hS.F ht⟩) hS.2.2 dX1_check_27
theorem chk_rec_e (l : Launch) (dC : Nat → ClassId) (dI : Nat → Nat → Nat) (cs : Nat → ClassId) (ty : TyM) (L : List Nat) (h0 ρ d δ ea w0 w1 w2 w3 nm te : Nat) (ad v1 : Int32) (cn : Nat) (D : Nat → ETY) (SD : SDR) (hW : WT ty L) (hL_h0 : h0 ∈ L) (hT_h0 : ty h0 = (1, ρ, [d, δ, ea, w0, w1, w2, w3, nm, te])) (hdl : δ + 2 = ρ) (hcn : cn ≤ 40) : ∀ (k lv : Nat), lv + k = 10 → ∀ (sz : Nat) (F : Nat → va_E) (U : List Nat) (cc vo : Nat), (F h0 = .inr (1, [.ref d, .ref w0, .ref w1, .ref w2, .ref w3, .ref nm, .ref te, .int ad, .int v1, .int (nI cc), .int (nI vo)])) → (F d = .inr (2, [.ref ea, .int (nI cn)])) → (DIRC cs F ea cn D) → (SNP cs F w0 w1 w2 w3 SD) → (NMG cs F nm lv U) → (lv ≤ cc) → (cc ≤ 10) → (vo ≤ cc) → (A8 U) → Met l yX1_check (.code yX1_check cX1_check 8 (some .int) :: tb) ({ frames := 9 * (k + 1), cells := 0, slots := 0, locals := 207 * (k + 1) }) (va_Pc [.ref h0, .int (nI lv)] (PTE (dC, dI) cs ty L F sz [])) (va_Qi (fun (r : Int32) (gp : Nat × Nat) => (r = nI (CHW D cn SD ad (k + 1) U cc vo).1 ∧ gp = (CHW D cn SD ad (k + 1) U cc vo).2)) (fun (gp : Nat × Nat) T9 => ∃ F2 : Nat → va_E, QT (dC, dI) cs ty L (chS ρ (lv + 1) lv) F F2 (va_A (va_pl L F) sz) T9 ∧ F2 h0 = .inr (1, [.ref d, .ref w0, .ref w1, .ref w2, .ref w3, .ref nm, .ref te, .int ad, .int v1, .int (nI gp.1), .int (nI gp.2)])) (va_A (va_pl L F) sz)) 0 0 (va_A (va_pl L F) sz) := by
  intro k
  induction k with
  | zero =>
    intro lv h sz F U cc vo g1 g2 g3 g4 g5 g6 g7 g8 g9
    exact s_X1_check_e l dC dI cs ty L sz F h0 ρ d δ ea w0 w1 w2 w3 nm te lv 0 0 cc vo ad v1 cn D SD (CHW D cn SD ad 0) U hW hL_h0 hT_h0 hdl (by omega) hcn (CHW_b 0) (fun sz F U cc vo _ _ _ _ _ h1 h2 _ _ => absurd h1 (by omega)) g1 g2 g3 g4 g5 g6 g7 g8 g9
  | succ k ih =>
    intro lv h sz F U cc vo g1 g2 g3 g4 g5 g6 g7 g8 g9
    exact s_X1_check_e l dC dI cs ty L sz F h0 ρ d δ ea w0 w1 w2 w3 nm te lv (9 * (k + 1)) (207 * (k + 1)) cc vo ad v1 cn D SD (CHW D cn SD ad (k + 1)) U hW hL_h0 hT_h0 hdl (by omega) hcn (CHW_b (k + 1)) (fun sz F U cc vo q1 q2 q3 q4 q5 q6 q7 q8 q9 => ih (lv + 1) (by omega) sz F U cc vo q1 q2 q3 q4 q5 q6 q7 q8 q9) g1 g2 g3 g4 g5 g6 g7 g8 g9
theorem s_X1_check0_e (l : Launch) (dC : Nat → ClassId) (dI : Nat → Nat → Nat) (cs : Nat → ClassId) (ty : TyM) (L : List Nat) (sz : Nat) (F : Nat → va_E) (h0 : Nat) (ρ : Nat) (d : Nat) (δ : Nat) (ea : Nat) (w0 : Nat) (w1 : Nat) (w2 : Nat) (w3 : Nat) (nm : Nat) (te : Nat) (cc : Nat) (vo : Nat) (ad : Int32) (v1 : Int32) (cn : Nat) (D : Nat → ETY) (SD : SDR) (U : List Nat) (hW : WT ty L) (hL_h0 : h0 ∈ L) (hT_h0 : ty h0 = (1, ρ, [d, δ, ea, w0, w1, w2, w3, nm, te])) (hdl : δ + 2 = ρ) (hcn : cn ≤ 40) (hFh : F h0 = .inr (1, [.ref d, .ref w0, .ref w1, .ref w2, .ref w3, .ref nm, .ref te, .int ad, .int v1, .int (nI cc), .int (nI vo)])) (hFd : F d = .inr (2, [.ref ea, .int (nI cn)])) (hDI : DIRC cs F ea cn D) (hSD : SNP cs F w0 w1 w2 w3 SD) (hNG : NMG cs F nm 0 U) (hlc : 0 ≤ cc) (hc10 : cc ≤ 10) (hvc : vo ≤ cc) (hA8 : A8 U) : Met l yX1_check (.code yX1_check cX1_check 8 (some .int) :: tb) ({ frames := 99, cells := 0, slots := 0, locals := 2277 }) (va_Pc [.ref h0, .int 0] (PTE (dC, dI) cs ty L F sz [])) (va_Qi (fun (r : Int32) (gp : Nat × Nat) => (r = nI (CHW D cn SD ad 11 U cc vo).1 ∧ gp = (CHW D cn SD ad 11 U cc vo).2)) (fun (gp : Nat × Nat) T9 => ∃ F2 : Nat → va_E, QT (dC, dI) cs ty L (chS ρ 1 0) F F2 (va_A (va_pl L F) sz) T9 ∧ F2 h0 = .inr (1, [.ref d, .ref w0, .ref w1, .ref w2, .ref w3, .ref nm, .ref te, .int ad, .int v1, .int (nI gp.1), .int (nI gp.2)])) (va_A (va_pl L F) sz)) 0 0 (va_A (va_pl L F) sz) := chk_rec_e l dC dI cs ty L h0 ρ d δ ea w0 w1 w2 w3 nm te ad v1 cn D SD hW hL_h0 hT_h0 hdl hcn 10 0 rfl sz F U cc vo hFh hFd hDI hSD hNG hlc hc10 hvc hA8
set_option maxHeartbeats 4000000 in
set_option maxRecDepth 100000 in
theorem s_X1_judge_e (l : Launch) (dC : Nat → ClassId) (dI : Nat → Nat → Nat) (cs : Nat → ClassId) (ty : TyM) (L : List Nat) (sz : Nat) (F : Nat → va_E) (h0 : Nat) (ρ : Nat) (d : Nat) (δ : Nat) (ea : Nat) (w0 : Nat) (w1 : Nat) (w2 : Nat) (w3 : Nat) (nm : Nat) (te : Nat) (cc : Nat) (vo : Nat) (ad : Int32) (v1 : Int32) (cn : Nat) (D : Nat → ETY) (SD : SDR) (hW : WT ty L) (hL_h0 : h0 ∈ L) (hT_h0 : ty h0 = (1, ρ, [d, δ, ea, w0, w1, w2, w3, nm, te])) (hdl : δ + 2 = ρ) (hcn : cn ≤ 40) (hFh : F h0 = .inr (1, [.ref d, .ref w0, .ref w1, .ref w2, .ref w3, .ref nm, .ref te, .int ad, .int v1, .int (nI cc), .int (nI vo)])) (hFd : F d = .inr (2, [.ref ea, .int (nI cn)])) (hDI : DIRC cs F ea cn D) (hSD : SNP cs F w0 w1 w2 w3 SD) : Met l yX1_judge (.code yX1_judge cX1_judge 1 (some .int) :: tb) ({ frames := 100, cells := 0, slots := 0, locals := 2304 }) (va_Pc [.ref h0] (PTE (dC, dI) cs ty L F sz [])) (va_Qi (fun (r : Int32) (gp : Nat × Nat) => (r = nI (CHW D cn SD ad 11 SD.2.2.1 0 0).1 ∧ gp = (CHW D cn SD ad 11 SD.2.2.1 0 0).2)) (fun (gp : Nat × Nat) T9 => ∃ F2 : Nat → va_E, QT (dC, dI) cs ty L (chS ρ 0 0) F F2 (va_A (va_pl L F) sz) T9 ∧ F2 h0 = .inr (1, [.ref d, .ref w0, .ref w1, .ref w2, .ref w3, .ref nm, .ref te, .int ad, .int v1, .int (nI gp.1), .int (nI gp.2)])) (va_A (va_pl L F) sz)) 0 0 (va_A (va_pl L F) sz) := by
  refine Met.ofW (cc := cX1_judge) (maxL := 1) (ret := (some .int)) (by decide) rfl ?_
  intro p e s m args below meth c s₁ B hml hv
  obtain ⟨rfl, ⟨hsz, hP, hK, hD0, hE, hO⟩, hG, hX⟩ := hv
  have hx := B.exec
  have hb := B.bytes
  have hr := B.returns
  have hts : ∀ w ∈ tb, w.before _ s = true := fun w h => atoms_spec (ws := .code yX1_judge cX1_judge 1 (some .int) :: tb) B.pre w (List.mem_cons_of_mem _ h)
  have hown : s.vm.findClass RX1 = some m.cls := findClass_of_methodNamed B.named
  have hlocks := B.notSynchronized
  subst hsz
  have hD := hD0.self (sz := s.heap.size)
  generalize hAe : va_A (va_pl L F) s.heap.size = A at hD hG hX ⊢
  have hA : ∀ q : Nat, s.heap.size ≤ q → A q := fun q h => by rw [← hAe]; exact Or.inr h
  have hS : va_S A s.heap s.heap [] := va_S.rf
  have hR : FR ty (chS ρ 0 0) F F := FR.refl
  have hl := lv_entry ([.ref h0]) (n := 1) (Nat.le_of_ble_eq_true rfl)
  rw [lg_entry_eq]
  generalize (lg_sl ([.ref h0]) ++ List.replicate (1 - (lg_sl ([.ref h0])).length) Slot.unset).toArray = ls at hl ⊢
  have hl : lv_has ls 1 [(0, .ref h0)] := hl
  obtain ⟨hi_1, ht_2, hi_3, ⟨r_4, ht_5⟩, hi_6, ⟨r_7, ht_8⟩, hi_9, ⟨r_10, ht_11⟩, hi_12, ⟨r_13, ht_14⟩, hi_15, ht_16, hi_17, ht_18⟩ := hW.chk hL_h0 hT_h0
  obtain ⟨f_19, hF_20, hq_21⟩ := hO.rbytes hi_15 ht_16
  obtain ⟨f_22, hF_23, hq_24⟩ := hO.rterm hi_17 ht_18
  obtain ⟨hi_25, ht_26⟩ := hW.dir hi_1 ht_2
  obtain ⟨f_27, hF_28, hq_29⟩ := hO.rentry hi_25 ht_26
  have hO0 := hO
  have hn0 := hF_20
  have he0 := hF_28
  refine lv_aload_n hx hb dX1_judge_0 rfl (lv_at hl 0 rfl) ?_
  refine lv_iconst (v := 0) hx hb dX1_judge_1 (by decide) ?_
  refine pg_put (ci := 1) (v := .int 0) (ty := .int) (C := RX1) (T := TX1) (N := 11) hx hb hts it_1 tyX1 tyX1_ok nmX1 hown hK hP hD hS hL_h0 hFh rfl 9 (by decide) (hts _ kt_304) (fun _ h9 => h9) rfl (by decide +kernel) (rfl) (rfl) (Nat.le_of_ble_eq_true rfl) dX1_judge_2 (fun H locs hP hD hS => ?_)
  obtain ⟨F_30, he_31, hP, hD, hO, hR⟩ : ∃ G, G = va_up F h0 (.inr (1, [.ref d, .ref w0, .ref w1, .ref w2, .ref w3, .ref nm, .ref te, .int ad, .int v1, .int 0, .int (nI vo)])) ∧ va_P (dC, dI) vwCl (va_pl L G) H ∧ va_D A (va_pl L G) ∧ OK cs ty L G ∧ FR ty (chS ρ 0 0) F G := ⟨_, rfl, hP, hD, hO.up (sh.chk hT_h0 ⟨ad, v1, 0, (nI vo), rfl⟩), hR.up hT_h0 (mem_chS.mpr (Or.inl rfl))⟩
  have hF_32 : F_30 h0 = .inr (1, [.ref d, .ref w0, .ref w1, .ref w2, .ref w3, .ref nm, .ref te, .int ad, .int v1, .int 0, .int (nI vo)]) := by rw [he_31]; exact up_self
  have hF_33 : F_30 d = .inr (2, [.ref ea, .int (nI cn)]) := by rw [he_31, up_ne (ne_ty ht_2 hT_h0 (by simp))]; exact hFd
  have hF_34 : F_30 nm = .inl (cs 20, 12, .inr (.inr (.inr (.inr f_19)))) := by rw [he_31, up_ne (ne_ty ht_16 hT_h0 (by simp))]; exact hF_20
  have hF_35 : F_30 te = .inl (cs 22, 11, .inr (.inr (.inr (.inr f_22)))) := by rw [he_31, up_ne (ne_ty ht_18 hT_h0 (by simp))]; exact hF_23
  have hF_36 : F_30 ea = .inl (cs 21, 40, .inr (.inr (.inr (.inr f_27)))) := by rw [he_31, up_ne (ne_ty ht_26 hT_h0 (by simp))]; exact hF_28
  refine lv_aload_n hx hb dX1_judge_5 rfl (lv_at hl 0 rfl) ?_
  refine lv_iconst (v := 0) hx hb dX1_judge_6 (by decide) ?_
  refine pg_put (ci := 1) (v := .int 0) (ty := .int) (C := RX1) (T := TX1) (N := 11) hx hb hts it_1 tyX1 tyX1_ok nmX1 hown hK hP hD hS hL_h0 hF_32 rfl 10 (by decide) (hts _ kt_605) (fun _ h9 => h9) rfl (by decide +kernel) (rfl) (rfl) (Nat.le_of_ble_eq_true rfl) dX1_judge_7 (fun H locs hP hD hS => ?_)
  obtain ⟨F_37, he_38, hP, hD, hO, hR⟩ : ∃ G, G = va_up F_30 h0 (.inr (1, [.ref d, .ref w0, .ref w1, .ref w2, .ref w3, .ref nm, .ref te, .int ad, .int v1, .int 0, .int 0])) ∧ va_P (dC, dI) vwCl (va_pl L G) H ∧ va_D A (va_pl L G) ∧ OK cs ty L G ∧ FR ty (chS ρ 0 0) F G := ⟨_, rfl, hP, hD, hO.up (sh.chk hT_h0 ⟨ad, v1, 0, 0, rfl⟩), hR.up hT_h0 (mem_chS.mpr (Or.inl rfl))⟩
  have hF_39 : F_37 h0 = .inr (1, [.ref d, .ref w0, .ref w1, .ref w2, .ref w3, .ref nm, .ref te, .int ad, .int v1, .int 0, .int 0]) := by rw [he_38]; exact up_self
  have hF_40 : F_37 d = .inr (2, [.ref ea, .int (nI cn)]) := by rw [he_38, up_ne (ne_ty ht_2 hT_h0 (by simp))]; exact hF_33
  have hF_41 : F_37 nm = .inl (cs 20, 12, .inr (.inr (.inr (.inr f_19)))) := by rw [he_38, up_ne (ne_ty ht_16 hT_h0 (by simp))]; exact hF_34
  have hF_42 : F_37 te = .inl (cs 22, 11, .inr (.inr (.inr (.inr f_22)))) := by rw [he_38, up_ne (ne_ty ht_18 hT_h0 (by simp))]; exact hF_35
  have hF_43 : F_37 ea = .inl (cs 21, 40, .inr (.inr (.inr (.inr f_27)))) := by rw [he_38, up_ne (ne_ty ht_26 hT_h0 (by simp))]; exact hF_36
  refine lv_aload_n hx hb dX1_judge_10 rfl (lv_at hl 0 rfl) ?_
  refine pg_get (ci := 1) (v := .ref nm) (C := RX1) (T := TX1) (N := 11) hx hb hts it_1 hown hK hP hL_h0 hF_39 rfl 5 (by decide) (hts _ kt_569) (fun _ h9 => h9) rfl dX1_judge_11 ?_
  refine lv_iconst (v := 0) hx hb dX1_judge_14 (by decide) ?_
  obtain ⟨b_44, r_45, hbf_46, hi_47, ht_48⟩ := hq_21 0 (by omega)
  refine pg_aald (r := b_44) hx hb hK hP hi_15 4 hF_41 rfl (show vp_in (0 : Int32) 12 from (show vp_in (nI 0) 12 from vp_in_nI (by omega) (by omega))) (show f_19 (0 : Int32).toNatClampNeg = _ from by rw [show (0 : Int32) = nI 0 from rfl, nI_clamp (by omega)]; exact hbf_46) dX1_judge_15 ?_
  have ht_48 : ty b_44 = (0, ρ + 40, [r_45, 60]) := ht_48
  refine lv_aload_n hx hb dX1_judge_16 rfl (lv_at hl 0 rfl) ?_
  refine pg_get (ci := 1) (v := .ref w2) (C := RX1) (T := TX1) (N := 11) hx hb hts it_1 hown hK hP hL_h0 hF_39 rfl 3 (by decide) (hts _ kt_567) (fun _ h9 => h9) rfl dX1_judge_17 ?_
  obtain ⟨hi_49, ht_50, hq_51⟩ := hW.bytes hi_47 ht_48
  obtain ⟨z_52, o_53, hF_54, hq_55, hq_56⟩ := hO.bytes hi_47 ht_48
  obtain ⟨f_57, hF_58⟩ := hO.ints hi_49 ht_50
  obtain ⟨hi_59, ht_60, hq_61⟩ := hW.bytes hi_9 ht_11
  have hSDb := hSD.fr hO0 hW hi_3 ht_5 hi_6 ht_8 hi_9 ht_11 hi_12 ht_14 hR (fun k9 h1 h2 => by simp only [mem_chS, List.mem_cons, List.not_mem_nil, or_false]; omega)
  obtain ⟨pz, pf, hp1, hp2, hp3, hp4⟩ := hSDb.2.2.1.get hO hi_9 ht_11
  have hFc := pg_free hD hS hA
  refine va_callv (va_runV (As := [.ref w2]) (rest := []) ⟨hx, hb, hml, hown, hts⟩ (s_X0_copy_e l dC dI cs ty L H.size F_37 b_44 (ρ + 40) r_45 60 w2 (ρ + 33) r_10 60 pz pf hW hi_47 ht_48 hi_9 ht_11 hp1 hp2 (by omega) (by omega) (by omega) (hp4) (by omega)) ⟨callB_of 1 hts (gi kt_221) rfl rfl rfl (hts _ kt_1) (hts _ kt_587) (by decide +kernel) ⟨Nat.le_of_ble_eq_true rfl, Nat.le_of_ble_eq_true rfl⟩, (hts _ kt_223), (hts _ kt_224)⟩ ⟨fun a U g mk q => ⟨q.1, PT.calling q.2⟩, pg_recv hK hP hi_47 hF_54 (q := (RX0, TX0, 3)) rfl, fun U hU hWm => ⟨rfl, PT.mk hU hWm hP hK hD hE hO⟩⟩ rfl rfl hl.1 rfl (lv_room (Nat.le_of_ble_eq_true rfl)) dX1_judge_20 ⟨by show _ + 0 ≤ 0; omega, by show _ + 0 ≤ 0; omega⟩) hS (fun q _ h => hFc q h) hFc (fun u t H1 locs ht hvm hw hB hz1 hk1 hS => ?_)
  obtain ⟨F_63, fc_64, hB1, hq_65, hq_66, hq_67⟩ := hB
  obtain ⟨hP, hD, hO, hR⟩ := QT.back hB1 ht hFc hR (fun q h => by simp only [mem_chS, List.mem_cons, List.not_mem_nil, or_false] at h ⊢; omega)
  have hF_68 : F_63 h0 = .inr (1, [.ref d, .ref w0, .ref w1, .ref w2, .ref w3, .ref nm, .ref te, .int ad, .int v1, .int 0, .int 0]) := (hB1.2.2.2 h0 (by rw [hT_h0]; simp)).trans hF_39
  have hF_69 : F_63 d = .inr (2, [.ref ea, .int (nI cn)]) := (hB1.2.2.2 d (by rw [ht_2]; simp only [mem_chS, List.mem_cons, List.not_mem_nil, or_false]; omega)).trans hF_40
  have hF_70 : F_63 nm = .inl (cs 20, 12, .inr (.inr (.inr (.inr f_19)))) := (hB1.2.2.2 nm (by rw [ht_16]; simp)).trans hF_41
  have hF_71 : F_63 te = .inl (cs 22, 11, .inr (.inr (.inr (.inr f_22)))) := (hB1.2.2.2 te (by rw [ht_18]; simp)).trans hF_42
  have hF_72 : F_63 ea = .inl (cs 21, 40, .inr (.inr (.inr (.inr f_27)))) := (hB1.2.2.2 ea (by rw [ht_26]; simp only [mem_chS, List.mem_cons, List.not_mem_nil, or_false]; omega)).trans hF_43
  have hF_73 : F_63 w2 = .inr (0, [.ref r_10, .int (nI pz), .int 0]) := (hB1.2.2.2 w2 (by rw [ht_11]; simp)).trans hp1
  have hF_74 : F_63 r_10 = .inl (cs 16, 60, .inl pf) := (hB1.2.2.2 r_10 (by rw [ht_60]; simp)).trans hp2
  generalize H1 = H at hP hS ⊢
  have hNG : NMG cs F_63 nm 0 SD.2.2.1 := ⟨f_19, b_44, hF_70, hbf_46, r_45, _, _, _, hq_65, hq_66, src_tga hp3 hp4 hq_67⟩
  have hSD2 := hSD.fr hO0 hW hi_3 ht_5 hi_6 ht_8 hi_9 ht_11 hi_12 ht_14 hR (fun k9 h1 h2 => by simp only [mem_chS, List.mem_cons, List.not_mem_nil, or_false]; omega)
  have hDI2 := DIRC.fr hDI hO0 hW hi_25 ht_26 hcn hR (hF_72.trans he0.symm) (fun k hk => by simp only [mem_chS, List.mem_cons, List.not_mem_nil, or_false]; omega)
  refine lv_aload_n hx hb dX1_judge_23 rfl (lv_at hl 0 rfl) ?_
  refine lv_iconst (v := 0) hx hb dX1_judge_24 (by decide) ?_
  have hFc := pg_free hD hS hA
  refine va_calli (va_runV (As := [.int 0]) (rest := []) ⟨hx, hb, hml, hown, hts⟩ (s_X1_check0_e l dC dI cs ty L H.size F_63 h0 ρ d δ ea w0 w1 w2 w3 nm te 0 0 ad v1 cn D SD SD.2.2.1 hW hL_h0 hT_h0 (by omega) (by omega) hF_68 hF_69 (hDI2) (hSD2) (hNG) (by omega) (by omega) (by omega) (hSD.a8.2.2.1)) ⟨callB_of 1 hts (gi kt_627) rfl rfl rfl (hts _ kt_572) (hts _ kt_628) (by decide +kernel) ⟨Nat.le_of_ble_eq_true rfl, Nat.le_of_ble_eq_true rfl⟩, (hts _ kt_629), (hts _ kt_630)⟩ ⟨fun a U g mk q => ⟨q.1, PTE.calling q.2⟩, pg_recv hK hP hL_h0 hF_68 (q := (RX1, TX1, 11)) rfl, fun U hU hWm => ⟨rfl, PTE.mk hU hWm hP hK hD hE hO hG (fun x hx => absurd hx List.not_mem_nil) hS hFc⟩⟩ rfl rfl hl.1 rfl (lv_room (Nat.le_of_ble_eq_true rfl)) dX1_judge_25 ⟨by show _ + 0 ≤ 0; omega, by show _ + 0 ≤ 0; omega⟩) hS (fun q _ h => hFc q h) hFc (fun r_76 gp_75 t H1 locs ht hvm hw hB hz1 hk1 hS => ?_)
  obtain ⟨F_77, hB1, hq_78⟩ := hB
  obtain ⟨hP, hD, hO, hR⟩ := QT.back hB1 ht hFc hR (fun q h => by simp only [mem_chS, List.mem_cons, List.not_mem_nil, or_false] at h ⊢; omega)
  have hF_79 : F_77 d = .inr (2, [.ref ea, .int (nI cn)]) := (hB1.2.2.2 d (by rw [ht_2]; simp only [mem_chS, List.mem_cons, List.not_mem_nil, or_false]; omega)).trans hF_69
  have hF_80 : F_77 nm = .inl (cs 20, 12, .inr (.inr (.inr (.inr f_19)))) := (hB1.2.2.2 nm (by rw [ht_16]; simp only [mem_chS, List.mem_cons, List.not_mem_nil, or_false]; omega)).trans hF_70
  have hF_81 : F_77 te = .inl (cs 22, 11, .inr (.inr (.inr (.inr f_22)))) := (hB1.2.2.2 te (by rw [ht_18]; simp only [mem_chS, List.mem_cons, List.not_mem_nil, or_false]; omega)).trans hF_71
  have hF_82 : F_77 ea = .inl (cs 21, 40, .inr (.inr (.inr (.inr f_27)))) := (hB1.2.2.2 ea (by rw [ht_26]; simp only [mem_chS, List.mem_cons, List.not_mem_nil, or_false]; omega)).trans hF_72
  have hF_83 : F_77 w2 = .inr (0, [.ref r_10, .int (nI pz), .int 0]) := (hB1.2.2.2 w2 (by rw [ht_11]; simp only [mem_chS, List.mem_cons, List.not_mem_nil, or_false]; omega)).trans hF_73
  have hF_84 : F_77 r_10 = .inl (cs 16, 60, .inl pf) := (hB1.2.2.2 r_10 (by rw [ht_60]; simp only [mem_chS, List.mem_cons, List.not_mem_nil, or_false]; omega)).trans hF_74
  generalize H1 = H at hP hS ⊢
  have hw : (r_76 = nI (CHW D cn SD ad 11 SD.2.2.1 0 0).1 ∧ gp_75 = (CHW D cn SD ad 11 SD.2.2.1 0 0).2) := hw
  have hw_85 := hw
  refine W.widen (k := 0) (n := 0) (by omega) (by omega) ?_
  exact W.iret (v := r_76) hx hb hr (fun t ht hWm => ⟨⟨r_76, gp_75, rfl, hw_85, ⟨F_77, QT.mk ht hP hD hO hR, hq_78⟩⟩, hS.F ht⟩) hS.2.2 dX1_judge_28
