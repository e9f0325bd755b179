section Syc
variable {D : va_G} {cI cB cL : ClassId} {bb L : Nat} {xs : Nat → Int32} {n hm b1 b2 b3 b4 F sx : Nat} {cd : Int32} {pd th : Nat → Bool} {sm : Nat → Nat} {u : Nat → Int32} {z0 z1 z2 z3 z4 z5 : Nat × va_E} {rest es : va_W}
set_option maxRecDepth 100000 in
set_option maxHeartbeats 1000000 in
theorem k_j1 (s t p q : Nat) (hs : s < 6) (ht : t < 6) (hp : p < 8) (hq : q < 8) (b0 : Bool) (gn : Nat) {Psi : gR → va_W → Prop} (hk : Go (gg D cI cB cL bb L xs) mY_join (n + 2) 0 0 131 [(8, .int (bI (b0 && decide (gcnt (fun k => decide (¬ u (16 * (8 * s + p) + k) = u (16 * (8 * t + q) + k))) 16 = 0)))), (7, .int (nI gn)), (6, .int (nI (8 * t + q))), (5, .int (nI (8 * s + p))), (0, .ref hm)] [] (zW z0 z1 z2 z3 z4 z5 cI cB hm b1 b2 b3 b4 cd F sx pd th sm u rest) Psi) : ∀ (m i : Nat), i + m = 16 → Go (gg D cI cB cL bb L xs) mY_join (n + 2) 0 0 77 [(9, .int (nI i)), (8, .int (bI (b0 && decide (gcnt (fun k => decide (¬ u (16 * (8 * s + p) + k) = u (16 * (8 * t + q) + k))) i = 0)))), (7, .int (nI gn)), (6, .int (nI (8 * t + q))), (5, .int (nI (8 * s + p))), (0, .ref hm)] [] (zW z0 z1 z2 z3 z4 z5 cI cB hm b1 b2 b3 b4 cd F sx pd th sm u rest) Psi := by
  intro m
  induction m with
  | zero =>
    intro i hi
    obtain rfl : i = 16 := by omega
    refine go_iload (pc := 77) 9 0 rfl eY_join_77 ?_
    refine go_bipush (pc := 79) (v := 16) (by decide) eY_join_79 ?_
    refine go_icmp_ge (pc := 81) 131 (by decide) eY_join_81 (fun c81 => ?_) (fun c81 => ?_)
    · refine go_ls [1, 2, 3, 4, 5] rfl ?_
      exact hk
    · exact absurd (show (16 : Int32) ≤ nI 16 by decide) c81
  | succ m ih =>
    intro i hi
    refine go_iload (pc := 77) 9 0 rfl eY_join_77 ?_
    refine go_bipush (pc := 79) (v := 16) (by decide) eY_join_79 ?_
    refine go_icmp_ge (pc := 81) 131 (by decide) eY_join_81 (fun c81 => ?_) (fun c81 => ?_)
    · exact absurd c81 (nI_ge (b := 16) (by omega) (by omega))
    · refine go_iload (pc := 84) 8 1 rfl eY_join_84 ?_
      refine go_if_eq (pc := 86) 122 (by decide) eY_join_86 (fun c86 => ?_) (fun c86 => ?_)
      · have e9 : (b0 && decide (gcnt (fun k => decide (¬ u (16 * (8 * s + p) + k) = u (16 * (8 * t + q) + k))) (i + 1) = 0)) = false := by
          have h1 := bI0.mp c86
          cases b0 with
          | false => rfl
          | true => exact decide_eq_false (fun z => by
              have h2 : gcnt (fun k => decide (¬ u (16 * (8 * s + p) + k) = u (16 * (8 * t + q) + k))) i ≠ 0 := fun y => by rw [y] at h1; cases h1
              have h3 : gcnt (fun k => decide (¬ u (16 * (8 * s + p) + k) = u (16 * (8 * t + q) + k))) (i + 1) = gcnt (fun k => decide (¬ u (16 * (8 * s + p) + k) = u (16 * (8 * t + q) + k))) i + (if (fun k => decide (¬ u (16 * (8 * s + p) + k) = u (16 * (8 * t + q) + k))) i then 1 else 0) := rfl
              omega)
        refine go_iconst (pc := 122) (v := 0) (by decide) eY_join_122 ?_
        refine go_istore (pc := 123) (ls' := [(8, _), (9, _), (7, _), (6, _), (5, _), (0, _)]) 8 (by decide) eY_join_123 rfl ?_
        refine go_iinc (pc := 125) (z := 1) (v := nI (i + 1)) (ls' := [(9, _), (8, _), (7, _), (6, _), (5, _), (0, _)]) 9 1 rfl (nI_1 i) (by decide) eY_join_125 rfl ?_
        refine go_goto (pc := 128) 77 (by decide) eY_join_128 ?_
        have h9 := ih (i + 1) (by omega)
        rw [e9] at h9
        exact h9
      · have h1 := bI1 c86
        rw [Bool.and_eq_true] at h1
        have h2 := of_decide_eq_true h1.2
        refine go_aload_n (pc := 89) 0 5 rfl rfl eY_join_89 ?_
        refine go_get (pc := 90) hwY 6 rfl rfl 6 (by decide) lkY_20 rfl eY_join_90 ?_
        refine go_bipush (pc := 93) (v := 16) (by decide) eY_join_93 ?_
        refine go_iload (pc := 95) 5 4 rfl eY_join_95 ?_
        refine go_imul (pc := 97) eY_join_97 ?_
        refine go_iload (pc := 98) 9 0 rfl eY_join_98 ?_
        refine go_iadd (pc := 100) eY_join_100 ?_
        refine go_ialdN (pc := 101) 10 0 (16 * (8 * s + p) + i) eY_join_101 rfl rfl (n16 (8 * s + p) i) (by omega) (by omega) ?_
        refine go_aload_n (pc := 102) 0 5 rfl rfl eY_join_102 ?_
        refine go_get (pc := 103) hwY 6 rfl rfl 6 (by decide) lkY_20 rfl eY_join_103 ?_
        refine go_bipush (pc := 106) (v := 16) (by decide) eY_join_106 ?_
        refine go_iload (pc := 108) 6 3 rfl eY_join_108 ?_
        refine go_imul (pc := 110) eY_join_110 ?_
        refine go_iload (pc := 111) 9 0 rfl eY_join_111 ?_
        refine go_iadd (pc := 113) eY_join_113 ?_
        refine go_ialdN (pc := 114) 10 0 (16 * (8 * t + q) + i) eY_join_114 rfl rfl (n16 (8 * t + q) i) (by omega) (by omega) ?_
        refine go_icmp_ne (pc := 115) 122 (by decide) eY_join_115 (fun c115 => ?_) (fun c115 => ?_)
        · have e9 : (b0 && decide (gcnt (fun k => decide (¬ u (16 * (8 * s + p) + k) = u (16 * (8 * t + q) + k))) (i + 1) = 0)) = false := by
            have h4 : gcnt (fun k => decide (¬ u (16 * (8 * s + p) + k) = u (16 * (8 * t + q) + k))) (i + 1) = gcnt (fun k => decide (¬ u (16 * (8 * s + p) + k) = u (16 * (8 * t + q) + k))) i + 1 := gcnt_s (decide_eq_true c115)
            rw [decide_eq_false (show ¬ gcnt (fun k => decide (¬ u (16 * (8 * s + p) + k) = u (16 * (8 * t + q) + k))) (i + 1) = 0 from by omega), Bool.and_false]
          refine go_iconst (pc := 122) (v := 0) (by decide) eY_join_122 ?_
          refine go_istore (pc := 123) (ls' := [(8, _), (9, _), (7, _), (6, _), (5, _), (0, _)]) 8 (by decide) eY_join_123 rfl ?_
          refine go_iinc (pc := 125) (z := 1) (v := nI (i + 1)) (ls' := [(9, _), (8, _), (7, _), (6, _), (5, _), (0, _)]) 9 1 rfl (nI_1 i) (by decide) eY_join_125 rfl ?_
          refine go_goto (pc := 128) 77 (by decide) eY_join_128 ?_
          have h9 := ih (i + 1) (by omega)
          rw [e9] at h9
          exact h9
        · have e9 : (b0 && decide (gcnt (fun k => decide (¬ u (16 * (8 * s + p) + k) = u (16 * (8 * t + q) + k))) (i + 1) = 0)) = true := by
            have h4 : gcnt (fun k => decide (¬ u (16 * (8 * s + p) + k) = u (16 * (8 * t + q) + k))) (i + 1) = gcnt (fun k => decide (¬ u (16 * (8 * s + p) + k) = u (16 * (8 * t + q) + k))) i := gcnt_n (decide_eq_false (fun z => z c115))
            rw [decide_eq_true (show gcnt (fun k => decide (¬ u (16 * (8 * s + p) + k) = u (16 * (8 * t + q) + k))) (i + 1) = 0 from by omega), Bool.and_true]; exact h1.1
          refine go_iconst (pc := 118) (v := 1) (by decide) eY_join_118 ?_
          refine go_goto (pc := 119) 123 (by decide) eY_join_119 ?_
          refine go_istore (pc := 123) (ls' := [(8, _), (9, _), (7, _), (6, _), (5, _), (0, _)]) 8 (by decide) eY_join_123 rfl ?_
          refine go_iinc (pc := 125) (z := 1) (v := nI (i + 1)) (ls' := [(9, _), (8, _), (7, _), (6, _), (5, _), (0, _)]) 9 1 rfl (nI_1 i) (by decide) eY_join_125 rfl ?_
          refine go_goto (pc := 128) 77 (by decide) eY_join_128 ?_
          have h9 := ih (i + 1) (by omega)
          rw [e9] at h9
          exact h9
set_option maxRecDepth 100000 in
set_option maxHeartbeats 1000000 in
theorem k_j2 (hsm : ∀ k, sm k < 2 ^ 30) (s t p q : Nat) (hs : s < 6) (ht : t < 6) (hp : p < 8) (hq : q < 8) (gn : Nat) (hgn : gn < 2 ^ 30) (hne : ¬ sm (8 * s + p) = gn) {Psi : gR → va_W → Prop} (hf : Psi (.inl (some (.int (nI (gcnt (fun k => decide (sm k = gn)) 432))))) (zW z0 z1 z2 z3 z4 z5 cI cB hm b1 b2 b3 b4 cd F sx pd th (mvs sm gn (sm (8 * s + p)) 432) u rest)) : ∀ (m i : Nat), i + m = 432 → Go (gg D cI cB cL bb L xs) mY_join (n + 2) 0 0 137 [(10, .int (nI i)), (9, .int (nI (gcnt (fun k => decide (sm k = gn)) i))), (8, .int (1)), (7, .int (nI gn)), (6, .int (nI (8 * t + q))), (5, .int (nI (8 * s + p))), (0, .ref hm)] [] (zW z0 z1 z2 z3 z4 z5 cI cB hm b1 b2 b3 b4 cd F sx pd th (mvs sm gn (sm (8 * s + p)) i) u rest) Psi := by
  intro m
  induction m with
  | zero =>
    intro i hi
    obtain rfl : i = 432 := by omega
    refine go_iload (pc := 137) 10 0 rfl eY_join_137 ?_
    refine go_sipush (pc := 139) (v := 432) (by decide) eY_join_139 ?_
    refine go_icmp_ge (pc := 142) 215 (by decide) eY_join_142 (fun c142 => ?_) (fun c142 => ?_)
    · refine go_iload (pc := 215) 9 1 rfl eY_join_215 ?_
      exact go_iret (pc := 217) rfl rfl eY_join_217 (hf)
    · exact absurd (show (432 : Int32) ≤ nI 432 by decide) c142
  | succ m ih =>
    intro i hi
    refine go_iload (pc := 137) 10 0 rfl eY_join_137 ?_
    refine go_sipush (pc := 139) (v := 432) (by decide) eY_join_139 ?_
    refine go_icmp_ge (pc := 142) 215 (by decide) eY_join_142 (fun c142 => ?_) (fun c142 => ?_)
    · exact absurd c142 (nI_ge (b := 432) (by omega) (by omega))
    · refine go_iload (pc := 145) 8 2 rfl eY_join_145 ?_
      refine go_if_eq (pc := 147) 215 (by decide) eY_join_147 (fun c147 => ?_) (fun c147 => ?_)
      · exact absurd c147 (by decide)
      · refine go_aload_n (pc := 150) 0 6 rfl rfl eY_join_150 ?_
        refine go_get (pc := 151) hwY 6 rfl rfl 5 (by decide) lkY_16 rfl eY_join_151 ?_
        refine go_iload (pc := 154) 10 0 rfl eY_join_154 ?_
        refine go_ialdN (pc := 156) 9 0 (i) eY_join_156 rfl rfl (rfl) (by omega) (by omega) ?_
        rw [mvs_at]
        refine go_iload (pc := 157) 7 3 rfl eY_join_157 ?_
        refine go_icmp_ne (pc := 159) 169 (by decide) eY_join_159 (fun c159 => ?_) (fun c159 => ?_)
        · have h1 : ¬ sm i = gn := fun z => c159 (by rw [z])
          have e9 : gcnt (fun k => decide (sm k = gn)) (i + 1) = gcnt (fun k => decide (sm k = gn)) i := gcnt_n (decide_eq_false h1)
          rw [← e9]
          refine go_iload (pc := 169) 9 1 rfl eY_join_169 ?_
          refine go_istore (pc := 171) (ls' := [(9, _), (10, _), (8, _), (7, _), (6, _), (5, _), (0, _)]) 9 (by decide) eY_join_171 rfl ?_
          refine go_aload_n (pc := 173) 0 6 rfl rfl eY_join_173 ?_
          refine go_get (pc := 174) hwY 6 rfl rfl 5 (by decide) lkY_16 rfl eY_join_174 ?_
          refine go_iload (pc := 177) 10 1 rfl eY_join_177 ?_
          refine go_aload_n (pc := 179) 0 6 rfl rfl eY_join_179 ?_
          refine go_get (pc := 180) hwY 6 rfl rfl 5 (by decide) lkY_16 rfl eY_join_180 ?_
          refine go_iload (pc := 183) 10 1 rfl eY_join_183 ?_
          refine go_ialdN (pc := 185) 9 0 (i) eY_join_185 rfl rfl (rfl) (by omega) (by omega) ?_
          rw [mvs_at]
          refine go_iload (pc := 186) 7 3 rfl eY_join_186 ?_
          refine go_icmp_ne (pc := 188) 201 (by decide) eY_join_188 (fun c188 => ?_) (fun c188 => ?_)
          · have h2 : ¬ sm i = gn := fun z => c188 (by rw [z])
            refine go_aload_n (pc := 201) 0 6 rfl rfl eY_join_201 ?_
            refine go_get (pc := 202) hwY 6 rfl rfl 5 (by decide) lkY_16 rfl eY_join_202 ?_
            refine go_iload (pc := 205) 10 1 rfl eY_join_205 ?_
            refine go_ialdN (pc := 207) 9 0 (i) eY_join_207 rfl rfl (rfl) (by omega) (by omega) ?_
            try rw [mvs_at]
            refine go_iastN (pc := 208) (es' := (zW z0 z1 z2 z3 z4 z5 cI cB hm b1 b2 b3 b4 cd F sx pd th (mvs sm gn (sm (8 * s + p)) (i + 1)) u rest)) 9 0 i eY_join_208 rfl rfl rfl (by omega) (by omega) (ys9 (upd_n.trans (by first | rw [mvs_s h2] | rw [mvs_n h2]))) ?_
            refine go_iinc (pc := 209) (z := 1) (v := nI (i + 1)) (ls' := [(10, _), (9, _), (8, _), (7, _), (6, _), (5, _), (0, _)]) 10 1 rfl (nI_1 i) (by decide) eY_join_209 rfl ?_
            refine go_goto (pc := 212) 137 (by decide) eY_join_212 ?_
            exact ih (i + 1) (by omega)
          · have h2 : sm i = gn := (nI_eq (by have := hsm i; omega) (by omega)).mp c188
            refine go_aload_n (pc := 191) 0 6 rfl rfl eY_join_191 ?_
            refine go_get (pc := 192) hwY 6 rfl rfl 5 (by decide) lkY_16 rfl eY_join_192 ?_
            refine go_iload (pc := 195) 5 5 rfl eY_join_195 ?_
            refine go_ialdN (pc := 197) 9 0 ((8 * s + p)) eY_join_197 rfl rfl (rfl) (by omega) (by omega) ?_
            rw [mvs_one hne]
            refine go_goto (pc := 198) 208 (by decide) eY_join_198 ?_
            try rw [mvs_at]
            refine go_iastN (pc := 208) (es' := (zW z0 z1 z2 z3 z4 z5 cI cB hm b1 b2 b3 b4 cd F sx pd th (mvs sm gn (sm (8 * s + p)) (i + 1)) u rest)) 9 0 i eY_join_208 rfl rfl rfl (by omega) (by omega) (ys9 (upd_n.trans (by first | rw [mvs_s h2] | rw [mvs_n h2]))) ?_
            refine go_iinc (pc := 209) (z := 1) (v := nI (i + 1)) (ls' := [(10, _), (9, _), (8, _), (7, _), (6, _), (5, _), (0, _)]) 10 1 rfl (nI_1 i) (by decide) eY_join_209 rfl ?_
            refine go_goto (pc := 212) 137 (by decide) eY_join_212 ?_
            exact ih (i + 1) (by omega)
        · have h1 : sm i = gn := (nI_eq (by have := hsm i; omega) (by omega)).mp c159
          have e9 : gcnt (fun k => decide (sm k = gn)) (i + 1) = gcnt (fun k => decide (sm k = gn)) i + 1 := gcnt_s (decide_eq_true h1)
          refine go_iload (pc := 162) 9 1 rfl eY_join_162 ?_
          refine go_iconst (pc := 164) (v := 1) (by decide) eY_join_164 ?_
          refine go_iadd (pc := 165) eY_join_165 ?_
          rw [nI_1, ← e9]
          refine go_goto (pc := 166) 171 (by decide) eY_join_166 ?_
          refine go_istore (pc := 171) (ls' := [(9, _), (10, _), (8, _), (7, _), (6, _), (5, _), (0, _)]) 9 (by decide) eY_join_171 rfl ?_
          refine go_aload_n (pc := 173) 0 6 rfl rfl eY_join_173 ?_
          refine go_get (pc := 174) hwY 6 rfl rfl 5 (by decide) lkY_16 rfl eY_join_174 ?_
          refine go_iload (pc := 177) 10 1 rfl eY_join_177 ?_
          refine go_aload_n (pc := 179) 0 6 rfl rfl eY_join_179 ?_
          refine go_get (pc := 180) hwY 6 rfl rfl 5 (by decide) lkY_16 rfl eY_join_180 ?_
          refine go_iload (pc := 183) 10 1 rfl eY_join_183 ?_
          refine go_ialdN (pc := 185) 9 0 (i) eY_join_185 rfl rfl (rfl) (by omega) (by omega) ?_
          rw [mvs_at]
          refine go_iload (pc := 186) 7 3 rfl eY_join_186 ?_
          refine go_icmp_ne (pc := 188) 201 (by decide) eY_join_188 (fun c188 => ?_) (fun c188 => ?_)
          · have h2 : ¬ sm i = gn := fun z => c188 (by rw [z])
            refine go_aload_n (pc := 201) 0 6 rfl rfl eY_join_201 ?_
            refine go_get (pc := 202) hwY 6 rfl rfl 5 (by decide) lkY_16 rfl eY_join_202 ?_
            refine go_iload (pc := 205) 10 1 rfl eY_join_205 ?_
            refine go_ialdN (pc := 207) 9 0 (i) eY_join_207 rfl rfl (rfl) (by omega) (by omega) ?_
            try rw [mvs_at]
            refine go_iastN (pc := 208) (es' := (zW z0 z1 z2 z3 z4 z5 cI cB hm b1 b2 b3 b4 cd F sx pd th (mvs sm gn (sm (8 * s + p)) (i + 1)) u rest)) 9 0 i eY_join_208 rfl rfl rfl (by omega) (by omega) (ys9 (upd_n.trans (by first | rw [mvs_s h2] | rw [mvs_n h2]))) ?_
            refine go_iinc (pc := 209) (z := 1) (v := nI (i + 1)) (ls' := [(10, _), (9, _), (8, _), (7, _), (6, _), (5, _), (0, _)]) 10 1 rfl (nI_1 i) (by decide) eY_join_209 rfl ?_
            refine go_goto (pc := 212) 137 (by decide) eY_join_212 ?_
            exact ih (i + 1) (by omega)
          · have h2 : sm i = gn := (nI_eq (by have := hsm i; omega) (by omega)).mp c188
            refine go_aload_n (pc := 191) 0 6 rfl rfl eY_join_191 ?_
            refine go_get (pc := 192) hwY 6 rfl rfl 5 (by decide) lkY_16 rfl eY_join_192 ?_
            refine go_iload (pc := 195) 5 5 rfl eY_join_195 ?_
            refine go_ialdN (pc := 197) 9 0 ((8 * s + p)) eY_join_197 rfl rfl (rfl) (by omega) (by omega) ?_
            rw [mvs_one hne]
            refine go_goto (pc := 198) 208 (by decide) eY_join_198 ?_
            try rw [mvs_at]
            refine go_iastN (pc := 208) (es' := (zW z0 z1 z2 z3 z4 z5 cI cB hm b1 b2 b3 b4 cd F sx pd th (mvs sm gn (sm (8 * s + p)) (i + 1)) u rest)) 9 0 i eY_join_208 rfl rfl rfl (by omega) (by omega) (ys9 (upd_n.trans (by first | rw [mvs_s h2] | rw [mvs_n h2]))) ?_
            refine go_iinc (pc := 209) (z := 1) (v := nI (i + 1)) (ls' := [(10, _), (9, _), (8, _), (7, _), (6, _), (5, _), (0, _)]) 10 1 rfl (nI_1 i) (by decide) eY_join_209 rfl ?_
            refine go_goto (pc := 212) 137 (by decide) eY_join_212 ?_
            exact ih (i + 1) (by omega)
set_option maxRecDepth 100000 in
set_option maxHeartbeats 1000000 in
theorem d_join0a (hsm : ∀ k, sm k < 2 ^ 30) (s : Nat) (hs : s < 6) (hth : th s = true) (t : Nat) (ht : t < 6) (htt : th t = true) (p q : Nat) (hp : p < 8) (hq : q < 8) (h0 : sm (8 * s + p) = 0) : Ret (gg D cI cB cL bb L xs) mY_join (n + 2) 0 0 [.ref hm, .int (nI s), .int (nI p), .int (nI t), .int (nI q)] (zW z0 z1 z2 z3 z4 z5 cI cB hm b1 b2 b3 b4 cd F sx pd th sm u rest) (some (.int (0))) (zW z0 z1 z2 z3 z4 z5 cI cB hm b1 b2 b3 b4 0 F sx pd th sm u rest) := by
  intro Psi hf
  show Go _ _ _ _ _ 0 [(0, .ref hm), (1, .int (nI s)), (2, .int (nI p)), (3, .int (nI t)), (4, .int (nI q))] [] _ Psi
  refine go_aload_n (pc := 0) 0 0 rfl rfl eY_join_0 ?_
  refine go_iload_n (pc := 1) 1 1 rfl rfl eY_join_1 ?_
  refine go_iload_n (pc := 2) 2 2 rfl rfl eY_join_2 ?_
  refine go_iload_n (pc := 3) 3 3 rfl rfl eY_join_3 ?_
  refine go_iload (pc := 4) 4 4 rfl eY_join_4 ?_
  refine go_rV (pc := 6) 6 (d_af0 s hs hth t ht htt p q hp hq) okY_areFaulty lmY_73 eY_join_6 rfl rfl rfl rfl rfl (Nat.le_of_ble_eq_true rfl) (Nat.le_of_ble_eq_true rfl) ?_
  refine go_if_eq (pc := 9) 14 (by decide) eY_join_9 (fun c9 => ?_) (fun c9 => ?_)
  · refine go_iconst (pc := 14) (v := 0) (by decide) eY_join_14 ?_
    refine go_iload_n (pc := 15) 1 1 rfl rfl eY_join_15 ?_
    refine go_iload_n (pc := 16) 2 2 rfl rfl eY_join_16 ?_
    refine go_rS (pc := 17) (d_page0 s p) okY_page lmY_34 eY_join_17 rfl rfl (Nat.le_of_ble_eq_true rfl) (Nat.le_of_ble_eq_true rfl) ?_
    refine go_istore (pc := 20) (ls' := [(5, _), (0, _), (1, _), (2, _), (3, _), (4, _)]) 5 (by decide) eY_join_20 rfl ?_
    refine go_iconst (pc := 22) (v := 0) (by decide) eY_join_22 ?_
    refine go_iload_n (pc := 23) 3 4 rfl rfl eY_join_23 ?_
    refine go_iload (pc := 24) 4 5 rfl eY_join_24 ?_
    refine go_rS (pc := 26) (d_page0 t q) okY_page lmY_34 eY_join_26 rfl rfl (Nat.le_of_ble_eq_true rfl) (Nat.le_of_ble_eq_true rfl) ?_
    refine go_istore (pc := 29) (ls' := [(6, _), (5, _), (0, _), (1, _), (2, _), (3, _), (4, _)]) 6 (by decide) eY_join_29 rfl ?_
    refine go_aload_n (pc := 31) 0 2 rfl rfl eY_join_31 ?_
    refine go_get (pc := 32) hwY 6 rfl rfl 5 (by decide) lkY_16 rfl eY_join_32 ?_
    refine go_iload (pc := 35) 6 0 rfl eY_join_35 ?_
    refine go_ialdN (pc := 37) 9 0 (8 * t + q) eY_join_37 rfl rfl (rfl) (by omega) (by omega) ?_
    refine go_istore (pc := 38) (ls' := [(7, _), (6, _), (5, _), (0, _), (1, _), (2, _), (3, _), (4, _)]) 7 (by decide) eY_join_38 rfl ?_
    refine go_aload_n (pc := 40) 0 3 rfl rfl eY_join_40 ?_
    refine go_get (pc := 41) hwY 6 rfl rfl 5 (by decide) lkY_16 rfl eY_join_41 ?_
    refine go_iload (pc := 44) 5 2 rfl eY_join_44 ?_
    refine go_ialdN (pc := 46) 9 0 (8 * s + p) eY_join_46 rfl rfl (rfl) (by omega) (by omega) ?_
    refine go_if_le (pc := 47) 71 (by decide) eY_join_47 (fun c47 => ?_) (fun c47 => ?_)
    · refine go_iconst (pc := 71) (v := 0) (by decide) eY_join_71 ?_
      refine go_istore (pc := 72) (ls' := [(8, _), (7, _), (6, _), (5, _), (0, _), (1, _), (2, _), (3, _), (4, _)]) 8 (by decide) eY_join_72 rfl ?_
      refine go_iconst (pc := 74) (v := 0) (by decide) eY_join_74 ?_
      refine go_istore (pc := 75) (ls' := [(9, _), (8, _), (7, _), (6, _), (5, _), (0, _), (1, _), (2, _), (3, _), (4, _)]) 9 (by decide) eY_join_75 rfl ?_
      refine go_ls (ls' := [(9, _), (8, _), (7, _), (6, _), (5, _), (0, _)]) [0, 1, 2, 3, 4, 5] rfl ?_
      refine k_j1 s t p q hs ht hp hq false (sm (8 * t + q)) ?_ 16 0 (by omega)
      show Go _ _ _ _ _ 131 [(8, .int 0), (7, _), (6, _), (5, _), (0, _)] [] _ _
      refine go_iconst (pc := 131) (v := 0) (by decide) eY_join_131 ?_
      refine go_istore (pc := 132) (ls' := [(9, _), (8, _), (7, _), (6, _), (5, _), (0, _)]) 9 (by decide) eY_join_132 rfl ?_
      refine go_iconst (pc := 134) (v := 0) (by decide) eY_join_134 ?_
      refine go_istore (pc := 135) (ls' := [(10, _), (9, _), (8, _), (7, _), (6, _), (5, _), (0, _)]) 10 (by decide) eY_join_135 rfl ?_
      refine go_iload (pc := 137) 10 0 rfl eY_join_137 ?_
      refine go_sipush (pc := 139) (v := 432) (by decide) eY_join_139 ?_
      refine go_icmp_ge (pc := 142) 215 (by decide) eY_join_142 (fun c142 => ?_) (fun c142 => ?_)
      · exact absurd c142 (nI_ge (a := 0) (b := 432) (by omega) (by omega))
      · refine go_iload (pc := 145) 8 2 rfl eY_join_145 ?_
        refine go_if_eq (pc := 147) 215 (by decide) eY_join_147 (fun c147 => ?_) (fun c147 => ?_)
        · refine go_iload (pc := 215) 9 1 rfl eY_join_215 ?_
          exact go_iret (pc := 217) rfl rfl eY_join_217 (hf)
        · exact absurd rfl c147
    · exact absurd ((nI_lz (by have := hsm (8 * s + p); omega)).mpr h0) c47
  · exact absurd rfl c9
set_option maxRecDepth 100000 in
set_option maxHeartbeats 1000000 in
theorem d_join0b (hsm : ∀ k, sm k < 2 ^ 30) (s : Nat) (hs : s < 6) (hth : th s = true) (t : Nat) (ht : t < 6) (htt : th t = true) (p q : Nat) (hp : p < 8) (hq : q < 8) (h1 : sm (8 * s + p) ≠ 0) (h0 : sm (8 * t + q) = 0) : Ret (gg D cI cB cL bb L xs) mY_join (n + 2) 0 0 [.ref hm, .int (nI s), .int (nI p), .int (nI t), .int (nI q)] (zW z0 z1 z2 z3 z4 z5 cI cB hm b1 b2 b3 b4 cd F sx pd th sm u rest) (some (.int (0))) (zW z0 z1 z2 z3 z4 z5 cI cB hm b1 b2 b3 b4 0 F sx pd th sm u rest) := by
  intro Psi hf
  show Go _ _ _ _ _ 0 [(0, .ref hm), (1, .int (nI s)), (2, .int (nI p)), (3, .int (nI t)), (4, .int (nI q))] [] _ Psi
  refine go_aload_n (pc := 0) 0 0 rfl rfl eY_join_0 ?_
  refine go_iload_n (pc := 1) 1 1 rfl rfl eY_join_1 ?_
  refine go_iload_n (pc := 2) 2 2 rfl rfl eY_join_2 ?_
  refine go_iload_n (pc := 3) 3 3 rfl rfl eY_join_3 ?_
  refine go_iload (pc := 4) 4 4 rfl eY_join_4 ?_
  refine go_rV (pc := 6) 6 (d_af0 s hs hth t ht htt p q hp hq) okY_areFaulty lmY_73 eY_join_6 rfl rfl rfl rfl rfl (Nat.le_of_ble_eq_true rfl) (Nat.le_of_ble_eq_true rfl) ?_
  refine go_if_eq (pc := 9) 14 (by decide) eY_join_9 (fun c9 => ?_) (fun c9 => ?_)
  · refine go_iconst (pc := 14) (v := 0) (by decide) eY_join_14 ?_
    refine go_iload_n (pc := 15) 1 1 rfl rfl eY_join_15 ?_
    refine go_iload_n (pc := 16) 2 2 rfl rfl eY_join_16 ?_
    refine go_rS (pc := 17) (d_page0 s p) okY_page lmY_34 eY_join_17 rfl rfl (Nat.le_of_ble_eq_true rfl) (Nat.le_of_ble_eq_true rfl) ?_
    refine go_istore (pc := 20) (ls' := [(5, _), (0, _), (1, _), (2, _), (3, _), (4, _)]) 5 (by decide) eY_join_20 rfl ?_
    refine go_iconst (pc := 22) (v := 0) (by decide) eY_join_22 ?_
    refine go_iload_n (pc := 23) 3 4 rfl rfl eY_join_23 ?_
    refine go_iload (pc := 24) 4 5 rfl eY_join_24 ?_
    refine go_rS (pc := 26) (d_page0 t q) okY_page lmY_34 eY_join_26 rfl rfl (Nat.le_of_ble_eq_true rfl) (Nat.le_of_ble_eq_true rfl) ?_
    refine go_istore (pc := 29) (ls' := [(6, _), (5, _), (0, _), (1, _), (2, _), (3, _), (4, _)]) 6 (by decide) eY_join_29 rfl ?_
    refine go_aload_n (pc := 31) 0 2 rfl rfl eY_join_31 ?_
    refine go_get (pc := 32) hwY 6 rfl rfl 5 (by decide) lkY_16 rfl eY_join_32 ?_
    refine go_iload (pc := 35) 6 0 rfl eY_join_35 ?_
    refine go_ialdN (pc := 37) 9 0 (8 * t + q) eY_join_37 rfl rfl (rfl) (by omega) (by omega) ?_
    refine go_istore (pc := 38) (ls' := [(7, _), (6, _), (5, _), (0, _), (1, _), (2, _), (3, _), (4, _)]) 7 (by decide) eY_join_38 rfl ?_
    refine go_aload_n (pc := 40) 0 3 rfl rfl eY_join_40 ?_
    refine go_get (pc := 41) hwY 6 rfl rfl 5 (by decide) lkY_16 rfl eY_join_41 ?_
    refine go_iload (pc := 44) 5 2 rfl eY_join_44 ?_
    refine go_ialdN (pc := 46) 9 0 (8 * s + p) eY_join_46 rfl rfl (rfl) (by omega) (by omega) ?_
    refine go_if_le (pc := 47) 71 (by decide) eY_join_47 (fun c47 => ?_) (fun c47 => ?_)
    · exact absurd ((nI_lz (by have := hsm (8 * s + p); omega)).mp c47) h1
    · refine go_iload (pc := 50) 7 0 rfl eY_join_50 ?_
      refine go_if_le (pc := 52) 71 (by decide) eY_join_52 (fun c52 => ?_) (fun c52 => ?_)
      · refine go_iconst (pc := 71) (v := 0) (by decide) eY_join_71 ?_
        refine go_istore (pc := 72) (ls' := [(8, _), (7, _), (6, _), (5, _), (0, _), (1, _), (2, _), (3, _), (4, _)]) 8 (by decide) eY_join_72 rfl ?_
        refine go_iconst (pc := 74) (v := 0) (by decide) eY_join_74 ?_
        refine go_istore (pc := 75) (ls' := [(9, _), (8, _), (7, _), (6, _), (5, _), (0, _), (1, _), (2, _), (3, _), (4, _)]) 9 (by decide) eY_join_75 rfl ?_
        refine go_ls (ls' := [(9, _), (8, _), (7, _), (6, _), (5, _), (0, _)]) [0, 1, 2, 3, 4, 5] rfl ?_
        refine k_j1 s t p q hs ht hp hq false (sm (8 * t + q)) ?_ 16 0 (by omega)
        show Go _ _ _ _ _ 131 [(8, .int 0), (7, _), (6, _), (5, _), (0, _)] [] _ _
        refine go_iconst (pc := 131) (v := 0) (by decide) eY_join_131 ?_
        refine go_istore (pc := 132) (ls' := [(9, _), (8, _), (7, _), (6, _), (5, _), (0, _)]) 9 (by decide) eY_join_132 rfl ?_
        refine go_iconst (pc := 134) (v := 0) (by decide) eY_join_134 ?_
        refine go_istore (pc := 135) (ls' := [(10, _), (9, _), (8, _), (7, _), (6, _), (5, _), (0, _)]) 10 (by decide) eY_join_135 rfl ?_
        refine go_iload (pc := 137) 10 0 rfl eY_join_137 ?_
        refine go_sipush (pc := 139) (v := 432) (by decide) eY_join_139 ?_
        refine go_icmp_ge (pc := 142) 215 (by decide) eY_join_142 (fun c142 => ?_) (fun c142 => ?_)
        · exact absurd c142 (nI_ge (a := 0) (b := 432) (by omega) (by omega))
        · refine go_iload (pc := 145) 8 2 rfl eY_join_145 ?_
          refine go_if_eq (pc := 147) 215 (by decide) eY_join_147 (fun c147 => ?_) (fun c147 => ?_)
          · refine go_iload (pc := 215) 9 1 rfl eY_join_215 ?_
            exact go_iret (pc := 217) rfl rfl eY_join_217 (hf)
          · exact absurd rfl c147
      · exact absurd ((nI_lz (by have := hsm (8 * t + q); omega)).mpr h0) c52
  · exact absurd rfl c9
set_option maxRecDepth 100000 in
set_option maxHeartbeats 1000000 in
theorem d_join0c (hsm : ∀ k, sm k < 2 ^ 30) (s : Nat) (hs : s < 6) (hth : th s = true) (t : Nat) (ht : t < 6) (htt : th t = true) (p q : Nat) (hp : p < 8) (hq : q < 8) (h1 : sm (8 * s + p) ≠ 0) (h2 : sm (8 * t + q) ≠ 0) (h0 : sm (8 * s + p) = sm (8 * t + q)) : Ret (gg D cI cB cL bb L xs) mY_join (n + 2) 0 0 [.ref hm, .int (nI s), .int (nI p), .int (nI t), .int (nI q)] (zW z0 z1 z2 z3 z4 z5 cI cB hm b1 b2 b3 b4 cd F sx pd th sm u rest) (some (.int (0))) (zW z0 z1 z2 z3 z4 z5 cI cB hm b1 b2 b3 b4 0 F sx pd th sm u rest) := by
  intro Psi hf
  show Go _ _ _ _ _ 0 [(0, .ref hm), (1, .int (nI s)), (2, .int (nI p)), (3, .int (nI t)), (4, .int (nI q))] [] _ Psi
  refine go_aload_n (pc := 0) 0 0 rfl rfl eY_join_0 ?_
  refine go_iload_n (pc := 1) 1 1 rfl rfl eY_join_1 ?_
  refine go_iload_n (pc := 2) 2 2 rfl rfl eY_join_2 ?_
  refine go_iload_n (pc := 3) 3 3 rfl rfl eY_join_3 ?_
  refine go_iload (pc := 4) 4 4 rfl eY_join_4 ?_
  refine go_rV (pc := 6) 6 (d_af0 s hs hth t ht htt p q hp hq) okY_areFaulty lmY_73 eY_join_6 rfl rfl rfl rfl rfl (Nat.le_of_ble_eq_true rfl) (Nat.le_of_ble_eq_true rfl) ?_
  refine go_if_eq (pc := 9) 14 (by decide) eY_join_9 (fun c9 => ?_) (fun c9 => ?_)
  · refine go_iconst (pc := 14) (v := 0) (by decide) eY_join_14 ?_
    refine go_iload_n (pc := 15) 1 1 rfl rfl eY_join_15 ?_
    refine go_iload_n (pc := 16) 2 2 rfl rfl eY_join_16 ?_
    refine go_rS (pc := 17) (d_page0 s p) okY_page lmY_34 eY_join_17 rfl rfl (Nat.le_of_ble_eq_true rfl) (Nat.le_of_ble_eq_true rfl) ?_
    refine go_istore (pc := 20) (ls' := [(5, _), (0, _), (1, _), (2, _), (3, _), (4, _)]) 5 (by decide) eY_join_20 rfl ?_
    refine go_iconst (pc := 22) (v := 0) (by decide) eY_join_22 ?_
    refine go_iload_n (pc := 23) 3 4 rfl rfl eY_join_23 ?_
    refine go_iload (pc := 24) 4 5 rfl eY_join_24 ?_
    refine go_rS (pc := 26) (d_page0 t q) okY_page lmY_34 eY_join_26 rfl rfl (Nat.le_of_ble_eq_true rfl) (Nat.le_of_ble_eq_true rfl) ?_
    refine go_istore (pc := 29) (ls' := [(6, _), (5, _), (0, _), (1, _), (2, _), (3, _), (4, _)]) 6 (by decide) eY_join_29 rfl ?_
    refine go_aload_n (pc := 31) 0 2 rfl rfl eY_join_31 ?_
    refine go_get (pc := 32) hwY 6 rfl rfl 5 (by decide) lkY_16 rfl eY_join_32 ?_
    refine go_iload (pc := 35) 6 0 rfl eY_join_35 ?_
    refine go_ialdN (pc := 37) 9 0 (8 * t + q) eY_join_37 rfl rfl (rfl) (by omega) (by omega) ?_
    refine go_istore (pc := 38) (ls' := [(7, _), (6, _), (5, _), (0, _), (1, _), (2, _), (3, _), (4, _)]) 7 (by decide) eY_join_38 rfl ?_
    refine go_aload_n (pc := 40) 0 3 rfl rfl eY_join_40 ?_
    refine go_get (pc := 41) hwY 6 rfl rfl 5 (by decide) lkY_16 rfl eY_join_41 ?_
    refine go_iload (pc := 44) 5 2 rfl eY_join_44 ?_
    refine go_ialdN (pc := 46) 9 0 (8 * s + p) eY_join_46 rfl rfl (rfl) (by omega) (by omega) ?_
    refine go_if_le (pc := 47) 71 (by decide) eY_join_47 (fun c47 => ?_) (fun c47 => ?_)
    · exact absurd ((nI_lz (by have := hsm (8 * s + p); omega)).mp c47) h1
    · refine go_iload (pc := 50) 7 0 rfl eY_join_50 ?_
      refine go_if_le (pc := 52) 71 (by decide) eY_join_52 (fun c52 => ?_) (fun c52 => ?_)
      · exact absurd ((nI_lz (by have := hsm (8 * t + q); omega)).mp c52) h2
      · refine go_aload_n (pc := 55) 0 3 rfl rfl eY_join_55 ?_
        refine go_get (pc := 56) hwY 6 rfl rfl 5 (by decide) lkY_16 rfl eY_join_56 ?_
        refine go_iload (pc := 59) 5 2 rfl eY_join_59 ?_
        refine go_ialdN (pc := 61) 9 0 (8 * s + p) eY_join_61 rfl rfl (rfl) (by omega) (by omega) ?_
        refine go_iload (pc := 62) 7 0 rfl eY_join_62 ?_
        refine go_icmp_eq (pc := 64) 71 (by decide) eY_join_64 (fun c64 => ?_) (fun c64 => ?_)
        · refine go_iconst (pc := 71) (v := 0) (by decide) eY_join_71 ?_
          refine go_istore (pc := 72) (ls' := [(8, _), (7, _), (6, _), (5, _), (0, _), (1, _), (2, _), (3, _), (4, _)]) 8 (by decide) eY_join_72 rfl ?_
          refine go_iconst (pc := 74) (v := 0) (by decide) eY_join_74 ?_
          refine go_istore (pc := 75) (ls' := [(9, _), (8, _), (7, _), (6, _), (5, _), (0, _), (1, _), (2, _), (3, _), (4, _)]) 9 (by decide) eY_join_75 rfl ?_
          refine go_ls (ls' := [(9, _), (8, _), (7, _), (6, _), (5, _), (0, _)]) [0, 1, 2, 3, 4, 5] rfl ?_
          refine k_j1 s t p q hs ht hp hq false (sm (8 * t + q)) ?_ 16 0 (by omega)
          show Go _ _ _ _ _ 131 [(8, .int 0), (7, _), (6, _), (5, _), (0, _)] [] _ _
          refine go_iconst (pc := 131) (v := 0) (by decide) eY_join_131 ?_
          refine go_istore (pc := 132) (ls' := [(9, _), (8, _), (7, _), (6, _), (5, _), (0, _)]) 9 (by decide) eY_join_132 rfl ?_
          refine go_iconst (pc := 134) (v := 0) (by decide) eY_join_134 ?_
          refine go_istore (pc := 135) (ls' := [(10, _), (9, _), (8, _), (7, _), (6, _), (5, _), (0, _)]) 10 (by decide) eY_join_135 rfl ?_
          refine go_iload (pc := 137) 10 0 rfl eY_join_137 ?_
          refine go_sipush (pc := 139) (v := 432) (by decide) eY_join_139 ?_
          refine go_icmp_ge (pc := 142) 215 (by decide) eY_join_142 (fun c142 => ?_) (fun c142 => ?_)
          · exact absurd c142 (nI_ge (a := 0) (b := 432) (by omega) (by omega))
          · refine go_iload (pc := 145) 8 2 rfl eY_join_145 ?_
            refine go_if_eq (pc := 147) 215 (by decide) eY_join_147 (fun c147 => ?_) (fun c147 => ?_)
            · refine go_iload (pc := 215) 9 1 rfl eY_join_215 ?_
              exact go_iret (pc := 217) rfl rfl eY_join_217 (hf)
            · exact absurd rfl c147
        · exact absurd (by rw [h0]) c64
  · exact absurd rfl c9
set_option maxRecDepth 100000 in
set_option maxHeartbeats 1000000 in
theorem d_join0d (hsm : ∀ k, sm k < 2 ^ 30) (s : Nat) (hs : s < 6) (hth : th s = true) (t : Nat) (ht : t < 6) (htt : th t = true) (p q : Nat) (hp : p < 8) (hq : q < 8) (h1 : sm (8 * s + p) ≠ 0) (h2 : sm (8 * t + q) ≠ 0) (h3 : ¬ sm (8 * s + p) = sm (8 * t + q)) (hd : gcnt (fun k => decide (¬ u (16 * (8 * s + p) + k) = u (16 * (8 * t + q) + k))) 16 ≠ 0) : Ret (gg D cI cB cL bb L xs) mY_join (n + 2) 0 0 [.ref hm, .int (nI s), .int (nI p), .int (nI t), .int (nI q)] (zW z0 z1 z2 z3 z4 z5 cI cB hm b1 b2 b3 b4 cd F sx pd th sm u rest) (some (.int (0))) (zW z0 z1 z2 z3 z4 z5 cI cB hm b1 b2 b3 b4 0 F sx pd th sm u rest) := by
  intro Psi hf
  show Go _ _ _ _ _ 0 [(0, .ref hm), (1, .int (nI s)), (2, .int (nI p)), (3, .int (nI t)), (4, .int (nI q))] [] _ Psi
  refine go_aload_n (pc := 0) 0 0 rfl rfl eY_join_0 ?_
  refine go_iload_n (pc := 1) 1 1 rfl rfl eY_join_1 ?_
  refine go_iload_n (pc := 2) 2 2 rfl rfl eY_join_2 ?_
  refine go_iload_n (pc := 3) 3 3 rfl rfl eY_join_3 ?_
  refine go_iload (pc := 4) 4 4 rfl eY_join_4 ?_
  refine go_rV (pc := 6) 6 (d_af0 s hs hth t ht htt p q hp hq) okY_areFaulty lmY_73 eY_join_6 rfl rfl rfl rfl rfl (Nat.le_of_ble_eq_true rfl) (Nat.le_of_ble_eq_true rfl) ?_
  refine go_if_eq (pc := 9) 14 (by decide) eY_join_9 (fun c9 => ?_) (fun c9 => ?_)
  · refine go_iconst (pc := 14) (v := 0) (by decide) eY_join_14 ?_
    refine go_iload_n (pc := 15) 1 1 rfl rfl eY_join_15 ?_
    refine go_iload_n (pc := 16) 2 2 rfl rfl eY_join_16 ?_
    refine go_rS (pc := 17) (d_page0 s p) okY_page lmY_34 eY_join_17 rfl rfl (Nat.le_of_ble_eq_true rfl) (Nat.le_of_ble_eq_true rfl) ?_
    refine go_istore (pc := 20) (ls' := [(5, _), (0, _), (1, _), (2, _), (3, _), (4, _)]) 5 (by decide) eY_join_20 rfl ?_
    refine go_iconst (pc := 22) (v := 0) (by decide) eY_join_22 ?_
    refine go_iload_n (pc := 23) 3 4 rfl rfl eY_join_23 ?_
    refine go_iload (pc := 24) 4 5 rfl eY_join_24 ?_
    refine go_rS (pc := 26) (d_page0 t q) okY_page lmY_34 eY_join_26 rfl rfl (Nat.le_of_ble_eq_true rfl) (Nat.le_of_ble_eq_true rfl) ?_
    refine go_istore (pc := 29) (ls' := [(6, _), (5, _), (0, _), (1, _), (2, _), (3, _), (4, _)]) 6 (by decide) eY_join_29 rfl ?_
    refine go_aload_n (pc := 31) 0 2 rfl rfl eY_join_31 ?_
    refine go_get (pc := 32) hwY 6 rfl rfl 5 (by decide) lkY_16 rfl eY_join_32 ?_
    refine go_iload (pc := 35) 6 0 rfl eY_join_35 ?_
    refine go_ialdN (pc := 37) 9 0 (8 * t + q) eY_join_37 rfl rfl (rfl) (by omega) (by omega) ?_
    refine go_istore (pc := 38) (ls' := [(7, _), (6, _), (5, _), (0, _), (1, _), (2, _), (3, _), (4, _)]) 7 (by decide) eY_join_38 rfl ?_
    refine go_aload_n (pc := 40) 0 3 rfl rfl eY_join_40 ?_
    refine go_get (pc := 41) hwY 6 rfl rfl 5 (by decide) lkY_16 rfl eY_join_41 ?_
    refine go_iload (pc := 44) 5 2 rfl eY_join_44 ?_
    refine go_ialdN (pc := 46) 9 0 (8 * s + p) eY_join_46 rfl rfl (rfl) (by omega) (by omega) ?_
    refine go_if_le (pc := 47) 71 (by decide) eY_join_47 (fun c47 => ?_) (fun c47 => ?_)
    · exact absurd ((nI_lz (by have := hsm (8 * s + p); omega)).mp c47) h1
    · refine go_iload (pc := 50) 7 0 rfl eY_join_50 ?_
      refine go_if_le (pc := 52) 71 (by decide) eY_join_52 (fun c52 => ?_) (fun c52 => ?_)
      · exact absurd ((nI_lz (by have := hsm (8 * t + q); omega)).mp c52) h2
      · refine go_aload_n (pc := 55) 0 3 rfl rfl eY_join_55 ?_
        refine go_get (pc := 56) hwY 6 rfl rfl 5 (by decide) lkY_16 rfl eY_join_56 ?_
        refine go_iload (pc := 59) 5 2 rfl eY_join_59 ?_
        refine go_ialdN (pc := 61) 9 0 (8 * s + p) eY_join_61 rfl rfl (rfl) (by omega) (by omega) ?_
        refine go_iload (pc := 62) 7 0 rfl eY_join_62 ?_
        refine go_icmp_eq (pc := 64) 71 (by decide) eY_join_64 (fun c64 => ?_) (fun c64 => ?_)
        · exact absurd ((nI_eq (by have := hsm (8 * s + p); omega) (by have := hsm (8 * t + q); omega)).mp c64) h3
        · refine go_iconst (pc := 67) (v := 1) (by decide) eY_join_67 ?_
          refine go_goto (pc := 68) 72 (by decide) eY_join_68 ?_
          refine go_istore (pc := 72) (ls' := [(8, _), (7, _), (6, _), (5, _), (0, _), (1, _), (2, _), (3, _), (4, _)]) 8 (by decide) eY_join_72 rfl ?_
          refine go_iconst (pc := 74) (v := 0) (by decide) eY_join_74 ?_
          refine go_istore (pc := 75) (ls' := [(9, _), (8, _), (7, _), (6, _), (5, _), (0, _), (1, _), (2, _), (3, _), (4, _)]) 9 (by decide) eY_join_75 rfl ?_
          refine go_ls (ls' := [(9, _), (8, _), (7, _), (6, _), (5, _), (0, _)]) [0, 1, 2, 3, 4, 5] rfl ?_
          refine k_j1 s t p q hs ht hp hq true (sm (8 * t + q)) ?_ 16 0 (by omega)
          rw [show (true && decide (gcnt (fun k => decide (¬ u (16 * (8 * s + p) + k) = u (16 * (8 * t + q) + k))) 16 = 0)) = false from by rw [decide_eq_false hd]; rfl]
          show Go _ _ _ _ _ 131 [(8, .int 0), (7, _), (6, _), (5, _), (0, _)] [] _ _
          refine go_iconst (pc := 131) (v := 0) (by decide) eY_join_131 ?_
          refine go_istore (pc := 132) (ls' := [(9, _), (8, _), (7, _), (6, _), (5, _), (0, _)]) 9 (by decide) eY_join_132 rfl ?_
          refine go_iconst (pc := 134) (v := 0) (by decide) eY_join_134 ?_
          refine go_istore (pc := 135) (ls' := [(10, _), (9, _), (8, _), (7, _), (6, _), (5, _), (0, _)]) 10 (by decide) eY_join_135 rfl ?_
          refine go_iload (pc := 137) 10 0 rfl eY_join_137 ?_
          refine go_sipush (pc := 139) (v := 432) (by decide) eY_join_139 ?_
          refine go_icmp_ge (pc := 142) 215 (by decide) eY_join_142 (fun c142 => ?_) (fun c142 => ?_)
          · exact absurd c142 (nI_ge (a := 0) (b := 432) (by omega) (by omega))
          · refine go_iload (pc := 145) 8 2 rfl eY_join_145 ?_
            refine go_if_eq (pc := 147) 215 (by decide) eY_join_147 (fun c147 => ?_) (fun c147 => ?_)
            · refine go_iload (pc := 215) 9 1 rfl eY_join_215 ?_
              exact go_iret (pc := 217) rfl rfl eY_join_217 (hf)
            · exact absurd rfl c147
  · exact absurd rfl c9
set_option maxRecDepth 100000 in
set_option maxHeartbeats 1000000 in
theorem d_join1 (hsm : ∀ k, sm k < 2 ^ 30) (s : Nat) (hs : s < 6) (hth : th s = true) (t : Nat) (ht : t < 6) (htt : th t = true) (p q : Nat) (hp : p < 8) (hq : q < 8) (h1 : sm (8 * s + p) ≠ 0) (h2 : sm (8 * t + q) ≠ 0) (h3 : ¬ sm (8 * s + p) = sm (8 * t + q)) (hd : gcnt (fun k => decide (¬ u (16 * (8 * s + p) + k) = u (16 * (8 * t + q) + k))) 16 = 0) : Ret (gg D cI cB cL bb L xs) mY_join (n + 2) 0 0 [.ref hm, .int (nI s), .int (nI p), .int (nI t), .int (nI q)] (zW z0 z1 z2 z3 z4 z5 cI cB hm b1 b2 b3 b4 cd F sx pd th sm u rest) (some (.int (nI (gcnt (fun k => decide (sm k = sm (8 * t + q))) 432)))) (zW z0 z1 z2 z3 z4 z5 cI cB hm b1 b2 b3 b4 0 F sx pd th (mvs sm (sm (8 * t + q)) (sm (8 * s + p)) 432) u rest) := by
  intro Psi hf
  show Go _ _ _ _ _ 0 [(0, .ref hm), (1, .int (nI s)), (2, .int (nI p)), (3, .int (nI t)), (4, .int (nI q))] [] _ Psi
  refine go_aload_n (pc := 0) 0 0 rfl rfl eY_join_0 ?_
  refine go_iload_n (pc := 1) 1 1 rfl rfl eY_join_1 ?_
  refine go_iload_n (pc := 2) 2 2 rfl rfl eY_join_2 ?_
  refine go_iload_n (pc := 3) 3 3 rfl rfl eY_join_3 ?_
  refine go_iload (pc := 4) 4 4 rfl eY_join_4 ?_
  refine go_rV (pc := 6) 6 (d_af0 s hs hth t ht htt p q hp hq) okY_areFaulty lmY_73 eY_join_6 rfl rfl rfl rfl rfl (Nat.le_of_ble_eq_true rfl) (Nat.le_of_ble_eq_true rfl) ?_
  refine go_if_eq (pc := 9) 14 (by decide) eY_join_9 (fun c9 => ?_) (fun c9 => ?_)
  · refine go_iconst (pc := 14) (v := 0) (by decide) eY_join_14 ?_
    refine go_iload_n (pc := 15) 1 1 rfl rfl eY_join_15 ?_
    refine go_iload_n (pc := 16) 2 2 rfl rfl eY_join_16 ?_
    refine go_rS (pc := 17) (d_page0 s p) okY_page lmY_34 eY_join_17 rfl rfl (Nat.le_of_ble_eq_true rfl) (Nat.le_of_ble_eq_true rfl) ?_
    refine go_istore (pc := 20) (ls' := [(5, _), (0, _), (1, _), (2, _), (3, _), (4, _)]) 5 (by decide) eY_join_20 rfl ?_
    refine go_iconst (pc := 22) (v := 0) (by decide) eY_join_22 ?_
    refine go_iload_n (pc := 23) 3 4 rfl rfl eY_join_23 ?_
    refine go_iload (pc := 24) 4 5 rfl eY_join_24 ?_
    refine go_rS (pc := 26) (d_page0 t q) okY_page lmY_34 eY_join_26 rfl rfl (Nat.le_of_ble_eq_true rfl) (Nat.le_of_ble_eq_true rfl) ?_
    refine go_istore (pc := 29) (ls' := [(6, _), (5, _), (0, _), (1, _), (2, _), (3, _), (4, _)]) 6 (by decide) eY_join_29 rfl ?_
    refine go_aload_n (pc := 31) 0 2 rfl rfl eY_join_31 ?_
    refine go_get (pc := 32) hwY 6 rfl rfl 5 (by decide) lkY_16 rfl eY_join_32 ?_
    refine go_iload (pc := 35) 6 0 rfl eY_join_35 ?_
    refine go_ialdN (pc := 37) 9 0 (8 * t + q) eY_join_37 rfl rfl (rfl) (by omega) (by omega) ?_
    refine go_istore (pc := 38) (ls' := [(7, _), (6, _), (5, _), (0, _), (1, _), (2, _), (3, _), (4, _)]) 7 (by decide) eY_join_38 rfl ?_
    refine go_aload_n (pc := 40) 0 3 rfl rfl eY_join_40 ?_
    refine go_get (pc := 41) hwY 6 rfl rfl 5 (by decide) lkY_16 rfl eY_join_41 ?_
    refine go_iload (pc := 44) 5 2 rfl eY_join_44 ?_
    refine go_ialdN (pc := 46) 9 0 (8 * s + p) eY_join_46 rfl rfl (rfl) (by omega) (by omega) ?_
    refine go_if_le (pc := 47) 71 (by decide) eY_join_47 (fun c47 => ?_) (fun c47 => ?_)
    · exact absurd ((nI_lz (by have := hsm (8 * s + p); omega)).mp c47) h1
    · refine go_iload (pc := 50) 7 0 rfl eY_join_50 ?_
      refine go_if_le (pc := 52) 71 (by decide) eY_join_52 (fun c52 => ?_) (fun c52 => ?_)
      · exact absurd ((nI_lz (by have := hsm (8 * t + q); omega)).mp c52) h2
      · refine go_aload_n (pc := 55) 0 3 rfl rfl eY_join_55 ?_
        refine go_get (pc := 56) hwY 6 rfl rfl 5 (by decide) lkY_16 rfl eY_join_56 ?_
        refine go_iload (pc := 59) 5 2 rfl eY_join_59 ?_
        refine go_ialdN (pc := 61) 9 0 (8 * s + p) eY_join_61 rfl rfl (rfl) (by omega) (by omega) ?_
        refine go_iload (pc := 62) 7 0 rfl eY_join_62 ?_
        refine go_icmp_eq (pc := 64) 71 (by decide) eY_join_64 (fun c64 => ?_) (fun c64 => ?_)
        · exact absurd ((nI_eq (by have := hsm (8 * s + p); omega) (by have := hsm (8 * t + q); omega)).mp c64) h3
        · refine go_iconst (pc := 67) (v := 1) (by decide) eY_join_67 ?_
          refine go_goto (pc := 68) 72 (by decide) eY_join_68 ?_
          refine go_istore (pc := 72) (ls' := [(8, _), (7, _), (6, _), (5, _), (0, _), (1, _), (2, _), (3, _), (4, _)]) 8 (by decide) eY_join_72 rfl ?_
          refine go_iconst (pc := 74) (v := 0) (by decide) eY_join_74 ?_
          refine go_istore (pc := 75) (ls' := [(9, _), (8, _), (7, _), (6, _), (5, _), (0, _), (1, _), (2, _), (3, _), (4, _)]) 9 (by decide) eY_join_75 rfl ?_
          refine go_ls (ls' := [(9, _), (8, _), (7, _), (6, _), (5, _), (0, _)]) [0, 1, 2, 3, 4, 5] rfl ?_
          refine k_j1 s t p q hs ht hp hq true (sm (8 * t + q)) ?_ 16 0 (by omega)
          rw [show (true && decide (gcnt (fun k => decide (¬ u (16 * (8 * s + p) + k) = u (16 * (8 * t + q) + k))) 16 = 0)) = true from by rw [decide_eq_true hd]; rfl]
          show Go _ _ _ _ _ 131 [(8, .int 1), (7, _), (6, _), (5, _), (0, _)] [] _ _
          refine go_iconst (pc := 131) (v := 0) (by decide) eY_join_131 ?_
          refine go_istore (pc := 132) (ls' := [(9, _), (8, _), (7, _), (6, _), (5, _), (0, _)]) 9 (by decide) eY_join_132 rfl ?_
          refine go_iconst (pc := 134) (v := 0) (by decide) eY_join_134 ?_
          refine go_istore (pc := 135) (ls' := [(10, _), (9, _), (8, _), (7, _), (6, _), (5, _), (0, _)]) 10 (by decide) eY_join_135 rfl ?_
          refine go_ls (ls' := [(10, _), (9, _), (8, _), (7, _), (6, _), (5, _), (0, _)]) [0, 1, 2, 3, 4, 5, 6] rfl ?_
          refine go_es (es' := (zW z0 z1 z2 z3 z4 z5 cI cB hm b1 b2 b3 b4 0 F sx pd th (mvs sm (sm (8 * t + q)) (sm (8 * s + p)) 0) u rest)) (by rw [mvs_0]) ?_
          exact k_j2 hsm s t p q hs ht hp hq (sm (8 * t + q)) (hsm _) h3 hf 432 0 (by omega)
  · exact absurd rfl c9
set_option maxRecDepth 100000 in
set_option maxHeartbeats 1000000 in
theorem k_takeA (j : Nat) (hj : j < 8) (hj0 : pd (1 + j) = false) (hlt : ∀ q, q < j → pd (1 + q) = true) {Psi : gR → va_W → Prop} (hf : Psi (.inl (some (.int (nI j)))) (zW z0 z1 z2 z3 z4 z5 cI cB hm b1 b2 b3 b4 cd F sx (va_up pd (1 + j) true) (va_cpy th th (6 * 0) (6 * (1 + j)) 6) (va_cpy sm sm (48 * 0) (48 * (1 + j)) 48) (va_cpy u u (768 * 0) (768 * (1 + j)) (16 * 48)) rest)) : ∀ (m i : Nat), i + m = j → Go (gg D cI cB cL bb L xs) mY_take (n + 2) 0 0 7 [(1, .int (nI i)), (0, .ref hm)] [] (zW z0 z1 z2 z3 z4 z5 cI cB hm b1 b2 b3 b4 cd F sx pd th sm u rest) Psi := by
  intro m
  induction m with
  | zero =>
    intro i hi
    obtain rfl : i = j := by omega
    refine go_iload_n (pc := 7) 1 0 rfl rfl eY_take_7 ?_
    refine go_bipush (pc := 8) (v := 8) (by decide) eY_take_8 ?_
    refine go_icmp_ge (pc := 10) 30 (by decide) eY_take_10 (fun c10 => ?_) (fun c10 => ?_)
    · exact absurd c10 (nI_ge (b := 8) (by omega) (by omega))
    · refine go_aload_n (pc := 13) 0 1 rfl rfl eY_take_13 ?_
      refine go_get (pc := 14) hwY 6 rfl rfl 3 (by decide) lkY_7 rfl eY_take_14 ?_
      refine go_iconst (pc := 17) (v := 1) (by decide) eY_take_17 ?_
      refine go_iload_n (pc := 18) 1 0 rfl rfl eY_take_18 ?_
      refine go_iadd (pc := 19) eY_take_19 ?_
      refine go_zaldN (pc := 20) 7 1 (1 + i) eY_take_20 rfl rfl (nI_add 1 i) (by omega) (by omega) ?_
      refine go_if_eq (pc := 21) 30 (by decide) eY_take_21 (fun c21 => ?_) (fun c21 => ?_)
      · refine go_iload_n (pc := 30) 1 0 rfl rfl eY_take_30 ?_
        refine go_bipush (pc := 31) (v := 8) (by decide) eY_take_31 ?_
        refine go_icmp_ne (pc := 33) 38 (by decide) eY_take_33 (fun c33 => ?_) (fun c33 => ?_)
        · refine go_aload_n (pc := 38) 0 1 rfl rfl eY_take_38 ?_
          refine go_get (pc := 39) hwY 6 rfl rfl 3 (by decide) lkY_7 rfl eY_take_39 ?_
          refine go_iconst (pc := 42) (v := 1) (by decide) eY_take_42 ?_
          refine go_iload_n (pc := 43) 1 0 rfl rfl eY_take_43 ?_
          refine go_iadd (pc := 44) eY_take_44 ?_
          refine go_iconst (pc := 45) (v := 1) (by decide) eY_take_45 ?_
          refine go_zastN (pc := 46) (es' := (zW z0 z1 z2 z3 z4 z5 cI cB hm b1 b2 b3 b4 cd F sx (va_up pd (1 + i) true) th sm u rest)) 7 1 (1 + i) eY_take_46 rfl rfl (nI_add 1 i) (by omega) (by omega) (ys7 (upd_b (b := true) rfl)) ?_
          refine go_aload_n (pc := 47) 0 1 rfl rfl eY_take_47 ?_
          refine go_iconst (pc := 48) (v := 0) (by decide) eY_take_48 ?_
          refine go_iconst (pc := 49) (v := 1) (by decide) eY_take_49 ?_
          refine go_iload_n (pc := 50) 1 0 rfl rfl eY_take_50 ?_
          refine go_iadd (pc := 51) eY_take_51 ?_
          rw [show (1 : Int32) + nI i = nI (1 + i) from nI_add 1 i]
          refine go_rV0 (pc := 52) 6 (d_cr 0 (1 + i) (by omega) (by omega) (by omega)) okY_copyRow lmY_77 eY_take_52 rfl rfl rfl rfl rfl (Nat.le_of_ble_eq_true rfl) (Nat.le_of_ble_eq_true rfl) ?_
          refine go_iload_n (pc := 55) 1 0 rfl rfl eY_take_55 ?_
          exact go_iret (pc := 56) rfl rfl eY_take_56 (hf)
        · exact absurd ((nI_eq (b := 8) (by omega) (by omega)).mp c33) (by omega)
      · exact absurd (bI0.mpr hj0) c21
  | succ m ih =>
    intro i hi
    refine go_iload_n (pc := 7) 1 0 rfl rfl eY_take_7 ?_
    refine go_bipush (pc := 8) (v := 8) (by decide) eY_take_8 ?_
    refine go_icmp_ge (pc := 10) 30 (by decide) eY_take_10 (fun c10 => ?_) (fun c10 => ?_)
    · exact absurd c10 (nI_ge (b := 8) (by omega) (by omega))
    · refine go_aload_n (pc := 13) 0 1 rfl rfl eY_take_13 ?_
      refine go_get (pc := 14) hwY 6 rfl rfl 3 (by decide) lkY_7 rfl eY_take_14 ?_
      refine go_iconst (pc := 17) (v := 1) (by decide) eY_take_17 ?_
      refine go_iload_n (pc := 18) 1 0 rfl rfl eY_take_18 ?_
      refine go_iadd (pc := 19) eY_take_19 ?_
      refine go_zaldN (pc := 20) 7 1 (1 + i) eY_take_20 rfl rfl (nI_add 1 i) (by omega) (by omega) ?_
      refine go_if_eq (pc := 21) 30 (by decide) eY_take_21 (fun c21 => ?_) (fun c21 => ?_)
      · exact absurd (bI0.mp c21) (by rw [hlt i (by omega)]; decide)
      · refine go_iinc (pc := 24) (z := 1) (v := nI (i + 1)) (ls' := [(1, _), (0, _)]) 1 0 rfl (nI_1 i) (by decide) eY_take_24 rfl ?_
        refine go_goto (pc := 27) 7 (by decide) eY_take_27 ?_
        exact ih (i + 1) (by omega)
set_option maxRecDepth 100000 in
set_option maxHeartbeats 1000000 in
theorem d_take1 (j : Nat) (hj : j < 8) (hj0 : pd (1 + j) = false) (hlt : ∀ q, q < j → pd (1 + q) = true) : Ret (gg D cI cB cL bb L xs) mY_take (n + 2) 0 0 [.ref hm] (zW z0 z1 z2 z3 z4 z5 cI cB hm b1 b2 b3 b4 cd F sx pd th sm u rest) (some (.int (nI j))) (zW z0 z1 z2 z3 z4 z5 cI cB hm b1 b2 b3 b4 0 F sx (va_up pd (1 + j) true) (va_cpy th th (6 * 0) (6 * (1 + j)) 6) (va_cpy sm sm (48 * 0) (48 * (1 + j)) 48) (va_cpy u u (768 * 0) (768 * (1 + j)) (16 * 48)) rest) := by
  intro Psi hf
  show Go _ _ _ _ _ 0 [(0, .ref hm)] [] _ Psi
  refine go_aload_n (pc := 0) 0 0 rfl rfl eY_take_0 ?_
  refine go_iconst (pc := 1) (v := 0) (by decide) eY_take_1 ?_
  refine go_put (pc := 2) (ty := .int) (es' := (zW z0 z1 z2 z3 z4 z5 cI cB hm b1 b2 b3 b4 0 F sx pd th sm u rest)) hwY tyY tyY_ok nmY 6 rfl rfl 0 (by decide) lkY_27 rfl (by decide +kernel) rfl rfl (Nat.le_of_ble_eq_true rfl) eY_take_2 rfl ?_
  refine go_iconst (pc := 5) (v := 0) (by decide) eY_take_5 ?_
  refine go_istore_n (pc := 6) (ls' := [(1, _), (0, _)]) 1 rfl (by decide) eY_take_6 rfl ?_
  exact k_takeA j hj hj0 hlt hf j 0 (by omega)
set_option maxRecDepth 100000 in
set_option maxHeartbeats 1000000 in
theorem k_takeB (hlt : ∀ q, q < 8 → pd (1 + q) = true) {Psi : gR → va_W → Prop} (hf : Psi (.inl (some (.int (-1)))) (zW z0 z1 z2 z3 z4 z5 cI cB hm b1 b2 b3 b4 cd F sx pd th sm u rest)) : ∀ (m i : Nat), i + m = 8 → Go (gg D cI cB cL bb L xs) mY_take (n + 2) 0 0 7 [(1, .int (nI i)), (0, .ref hm)] [] (zW z0 z1 z2 z3 z4 z5 cI cB hm b1 b2 b3 b4 cd F sx pd th sm u rest) Psi := by
  intro m
  induction m with
  | zero =>
    intro i hi
    obtain rfl : i = 8 := by omega
    refine go_iload_n (pc := 7) 1 0 rfl rfl eY_take_7 ?_
    refine go_bipush (pc := 8) (v := 8) (by decide) eY_take_8 ?_
    refine go_icmp_ge (pc := 10) 30 (by decide) eY_take_10 (fun c10 => ?_) (fun c10 => ?_)
    · refine go_iload_n (pc := 30) 1 0 rfl rfl eY_take_30 ?_
      refine go_bipush (pc := 31) (v := 8) (by decide) eY_take_31 ?_
      refine go_icmp_ne (pc := 33) 38 (by decide) eY_take_33 (fun c33 => ?_) (fun c33 => ?_)
      · exact absurd rfl c33
      · refine go_iconst (pc := 36) (v := (-1)) (by decide) eY_take_36 ?_
        exact go_iret (pc := 37) rfl rfl eY_take_37 (hf)
    · exact absurd (show (8 : Int32) ≤ nI 8 by decide) c10
  | succ m ih =>
    intro i hi
    refine go_iload_n (pc := 7) 1 0 rfl rfl eY_take_7 ?_
    refine go_bipush (pc := 8) (v := 8) (by decide) eY_take_8 ?_
    refine go_icmp_ge (pc := 10) 30 (by decide) eY_take_10 (fun c10 => ?_) (fun c10 => ?_)
    · exact absurd c10 (nI_ge (b := 8) (by omega) (by omega))
    · refine go_aload_n (pc := 13) 0 1 rfl rfl eY_take_13 ?_
      refine go_get (pc := 14) hwY 6 rfl rfl 3 (by decide) lkY_7 rfl eY_take_14 ?_
      refine go_iconst (pc := 17) (v := 1) (by decide) eY_take_17 ?_
      refine go_iload_n (pc := 18) 1 0 rfl rfl eY_take_18 ?_
      refine go_iadd (pc := 19) eY_take_19 ?_
      refine go_zaldN (pc := 20) 7 1 (1 + i) eY_take_20 rfl rfl (nI_add 1 i) (by omega) (by omega) ?_
      refine go_if_eq (pc := 21) 30 (by decide) eY_take_21 (fun c21 => ?_) (fun c21 => ?_)
      · exact absurd (bI0.mp c21) (by rw [hlt i (by omega)]; decide)
      · refine go_iinc (pc := 24) (z := 1) (v := nI (i + 1)) (ls' := [(1, _), (0, _)]) 1 0 rfl (nI_1 i) (by decide) eY_take_24 rfl ?_
        refine go_goto (pc := 27) 7 (by decide) eY_take_27 ?_
        exact ih (i + 1) (by omega)
set_option maxRecDepth 100000 in
set_option maxHeartbeats 1000000 in
theorem d_take0 (hlt : ∀ q, q < 8 → pd (1 + q) = true) : Ret (gg D cI cB cL bb L xs) mY_take (n + 2) 0 0 [.ref hm] (zW z0 z1 z2 z3 z4 z5 cI cB hm b1 b2 b3 b4 cd F sx pd th sm u rest) (some (.int (-1))) (zW z0 z1 z2 z3 z4 z5 cI cB hm b1 b2 b3 b4 0 F sx pd th sm u rest) := by
  intro Psi hf
  show Go _ _ _ _ _ 0 [(0, .ref hm)] [] _ Psi
  refine go_aload_n (pc := 0) 0 0 rfl rfl eY_take_0 ?_
  refine go_iconst (pc := 1) (v := 0) (by decide) eY_take_1 ?_
  refine go_put (pc := 2) (ty := .int) (es' := (zW z0 z1 z2 z3 z4 z5 cI cB hm b1 b2 b3 b4 0 F sx pd th sm u rest)) hwY tyY tyY_ok nmY 6 rfl rfl 0 (by decide) lkY_27 rfl (by decide +kernel) rfl rfl (Nat.le_of_ble_eq_true rfl) eY_take_2 rfl ?_
  refine go_iconst (pc := 5) (v := 0) (by decide) eY_take_5 ?_
  refine go_istore_n (pc := 6) (ls' := [(1, _), (0, _)]) 1 rfl (by decide) eY_take_6 rfl ?_
  exact k_takeB hlt hf 8 0 (by omega)
set_option maxRecDepth 100000 in
set_option maxHeartbeats 1000000 in
theorem d_isPicT (p : Nat) (hp : p < 8) (hpd : pd (1 + p) = true) : Ret (gg D cI cB cL bb L xs) mY_isPicture n 0 0 [.ref hm, .int (nI p)] (zW z0 z1 z2 z3 z4 z5 cI cB hm b1 b2 b3 b4 cd F sx pd th sm u rest) (some (.int (1))) (zW z0 z1 z2 z3 z4 z5 cI cB hm b1 b2 b3 b4 cd F sx pd th sm u rest) := by
  intro Psi hf
  show Go _ _ _ _ _ 0 [(0, .ref hm), (1, .int (nI p))] [] _ Psi
  refine go_iload_n (pc := 0) 1 1 rfl rfl eY_isPicture_0 ?_
  refine go_if_lt (pc := 1) 25 (by decide) eY_isPicture_1 (fun c1 => ?_) (fun c1 => ?_)
  · exact absurd c1 (nI_pos (by omega))
  · refine go_iload_n (pc := 4) 1 1 rfl rfl eY_isPicture_4 ?_
    refine go_bipush (pc := 5) (v := 8) (by decide) eY_isPicture_5 ?_
    refine go_icmp_ge (pc := 7) 25 (by decide) eY_isPicture_7 (fun c7 => ?_) (fun c7 => ?_)
    · exact absurd c7 (nI_ge (b := 8) (by omega) (by omega))
    · refine go_aload_n (pc := 10) 0 0 rfl rfl eY_isPicture_10 ?_
      refine go_get (pc := 11) hwY 6 rfl rfl 3 (by decide) lkY_7 rfl eY_isPicture_11 ?_
      refine go_iconst (pc := 14) (v := 1) (by decide) eY_isPicture_14 ?_
      refine go_iload_n (pc := 15) 1 1 rfl rfl eY_isPicture_15 ?_
      refine go_iadd (pc := 16) eY_isPicture_16 ?_
      refine go_zaldN (pc := 17) 7 1 (1 + p) eY_isPicture_17 rfl rfl (nI_add 1 p) (by omega) (by omega) ?_
      refine go_if_eq (pc := 18) 25 (by decide) eY_isPicture_18 (fun c18 => ?_) (fun c18 => ?_)
      · exact absurd (bI0.mp c18) (by rw [hpd]; decide)
      · refine go_iconst (pc := 21) (v := 1) (by decide) eY_isPicture_21 ?_
        refine go_goto (pc := 22) 26 (by decide) eY_isPicture_22 ?_
        exact go_iret (pc := 26) rfl rfl eY_isPicture_26 (hf)
set_option maxRecDepth 100000 in
set_option maxHeartbeats 1000000 in
theorem d_isPicF (x : Int32) (hx : ∀ j, j < 8 → x = nI j → pd (1 + j) = false) : Ret (gg D cI cB cL bb L xs) mY_isPicture n 0 0 [.ref hm, .int (x)] (zW z0 z1 z2 z3 z4 z5 cI cB hm b1 b2 b3 b4 cd F sx pd th sm u rest) (some (.int (0))) (zW z0 z1 z2 z3 z4 z5 cI cB hm b1 b2 b3 b4 cd F sx pd th sm u rest) := by
  intro Psi hf
  show Go _ _ _ _ _ 0 [(0, .ref hm), (1, .int (x))] [] _ Psi
  refine go_iload_n (pc := 0) 1 1 rfl rfl eY_isPicture_0 ?_
  refine go_if_lt (pc := 1) 25 (by decide) eY_isPicture_1 (fun c1 => ?_) (fun c1 => ?_)
  · refine go_iconst (pc := 25) (v := 0) (by decide) eY_isPicture_25 ?_
    exact go_iret (pc := 26) rfl rfl eY_isPicture_26 (hf)
  · refine go_iload_n (pc := 4) 1 1 rfl rfl eY_isPicture_4 ?_
    refine go_bipush (pc := 5) (v := 8) (by decide) eY_isPicture_5 ?_
    refine go_icmp_ge (pc := 7) 25 (by decide) eY_isPicture_7 (fun c7 => ?_) (fun c7 => ?_)
    · refine go_iconst (pc := 25) (v := 0) (by decide) eY_isPicture_25 ?_
      exact go_iret (pc := 26) rfl rfl eY_isPicture_26 (hf)
    · obtain ⟨j, hj, rfl⟩ : ∃ j, j < 8 ∧ x = nI j := by
        rcases pk_ix x (n := 8) (by omega) with q | q | q
        · exact absurd q c1
        · exact absurd q c7
        · exact q
      refine go_aload_n (pc := 10) 0 0 rfl rfl eY_isPicture_10 ?_
      refine go_get (pc := 11) hwY 6 rfl rfl 3 (by decide) lkY_7 rfl eY_isPicture_11 ?_
      refine go_iconst (pc := 14) (v := 1) (by decide) eY_isPicture_14 ?_
      refine go_iload_n (pc := 15) 1 1 rfl rfl eY_isPicture_15 ?_
      refine go_iadd (pc := 16) eY_isPicture_16 ?_
      refine go_zaldN (pc := 17) 7 1 (1 + j) eY_isPicture_17 rfl rfl (nI_add 1 j) (by omega) (by omega) ?_
      refine go_if_eq (pc := 18) 25 (by decide) eY_isPicture_18 (fun c18 => ?_) (fun c18 => ?_)
      · refine go_iconst (pc := 25) (v := 0) (by decide) eY_isPicture_25 ?_
        exact go_iret (pc := 26) rfl rfl eY_isPicture_26 (hf)
      · exact absurd (bI0.mpr (hx j hj rfl)) c18
set_option maxRecDepth 100000 in
set_option maxHeartbeats 1000000 in
theorem d_back (p : Nat) (hp : p < 8) (hpd : pd (1 + p) = true) : Ret (gg D cI cB cL bb L xs) mY_back (n + 2) 0 0 [.ref hm, .int (nI p)] (zW z0 z1 z2 z3 z4 z5 cI cB hm b1 b2 b3 b4 cd F sx pd th sm u rest) (some (.int (nI (gcnt (va_cpy th th (6 * (1 + p)) (6 * 0) 6) 6)))) (zW z0 z1 z2 z3 z4 z5 cI cB hm b1 b2 b3 b4 0 F sx pd (va_cpy th th (6 * (1 + p)) (6 * 0) 6) (va_cpy sm sm (48 * (1 + p)) (48 * 0) 48) (va_cpy u u (768 * (1 + p)) (768 * 0) (16 * 48)) rest) := by
  intro Psi hf
  show Go _ _ _ _ _ 0 [(0, .ref hm), (1, .int (nI p))] [] _ Psi
  refine go_aload_n (pc := 0) 0 0 rfl rfl eY_back_0 ?_
  refine go_aload_n (pc := 1) 0 0 rfl rfl eY_back_1 ?_
  refine go_iload_n (pc := 2) 1 1 rfl rfl eY_back_2 ?_
  refine go_rV (pc := 3) 6 (d_isPicT p hp hpd) okY_isPicture lmY_80 eY_back_3 rfl rfl rfl rfl rfl (Nat.le_of_ble_eq_true rfl) (Nat.le_of_ble_eq_true rfl) ?_
  refine go_if_ne (pc := 6) 13 (by decide) eY_back_6 (fun c6 => ?_) (fun c6 => ?_)
  · refine go_iconst (pc := 13) (v := 0) (by decide) eY_back_13 ?_
    refine go_iconst (pc := 14) (v := 0) (by decide) eY_back_14 ?_
    refine go_iconst (pc := 15) (v := 0) (by decide) eY_back_15 ?_
    refine go_rV (pc := 16) 6 (d_fails0) okY_fails lmY_46 eY_back_16 rfl rfl rfl rfl rfl (Nat.le_of_ble_eq_true rfl) (Nat.le_of_ble_eq_true rfl) ?_
    refine go_if_eq (pc := 19) 24 (by decide) eY_back_19 (fun c19 => ?_) (fun c19 => ?_)
    · refine go_aload_n (pc := 24) 0 0 rfl rfl eY_back_24 ?_
      refine go_iconst (pc := 25) (v := 1) (by decide) eY_back_25 ?_
      refine go_iload_n (pc := 26) 1 1 rfl rfl eY_back_26 ?_
      refine go_iadd (pc := 27) eY_back_27 ?_
      rw [show (1 : Int32) + nI p = nI (1 + p) from nI_add 1 p]
      refine go_iconst (pc := 28) (v := 0) (by decide) eY_back_28 ?_
      refine go_rV0 (pc := 29) 6 (d_cr (1 + p) 0 (by omega) (by omega) (by omega)) okY_copyRow lmY_77 eY_back_29 rfl rfl rfl rfl rfl (Nat.le_of_ble_eq_true rfl) (Nat.le_of_ble_eq_true rfl) ?_
      refine go_aload_n (pc := 32) 0 0 rfl rfl eY_back_32 ?_
      refine go_rV (pc := 33) 6 (d_spaces) okY_spaces lmY_83 eY_back_33 rfl rfl rfl rfl rfl (Nat.le_of_ble_eq_true rfl) (Nat.le_of_ble_eq_true rfl) ?_
      exact go_iret (pc := 36) rfl rfl eY_back_36 (hf)
    · exact absurd c19 (by decide)
  · exact absurd c6 (by decide)
set_option maxRecDepth 100000 in
set_option maxHeartbeats 1000000 in
theorem e_back (x : Int32) (hx : ∀ j, j < 8 → x = nI j → pd (1 + j) = false) : Ret (gg D cI cB cL bb L xs) mY_back (n + 2) 0 0 [.ref hm, .int (x)] (zW z0 z1 z2 z3 z4 z5 cI cB hm b1 b2 b3 b4 cd F sx pd th sm u rest) (some (.int (0))) (zW z0 z1 z2 z3 z4 z5 cI cB hm b1 b2 b3 b4 1 F sx pd th sm u rest) := by
  intro Psi hf
  show Go _ _ _ _ _ 0 [(0, .ref hm), (1, .int (x))] [] _ Psi
  refine go_aload_n (pc := 0) 0 0 rfl rfl eY_back_0 ?_
  refine go_aload_n (pc := 1) 0 0 rfl rfl eY_back_1 ?_
  refine go_iload_n (pc := 2) 1 1 rfl rfl eY_back_2 ?_
  refine go_rV (pc := 3) 6 (d_isPicF x hx) okY_isPicture lmY_80 eY_back_3 rfl rfl rfl rfl rfl (Nat.le_of_ble_eq_true rfl) (Nat.le_of_ble_eq_true rfl) ?_
  refine go_if_ne (pc := 6) 13 (by decide) eY_back_6 (fun c6 => ?_) (fun c6 => ?_)
  · exact absurd rfl c6
  · refine go_iconst (pc := 9) (v := 1) (by decide) eY_back_9 ?_
    refine go_goto (pc := 10) 14 (by decide) eY_back_10 ?_
    refine go_iconst (pc := 14) (v := 0) (by decide) eY_back_14 ?_
    refine go_iconst (pc := 15) (v := 0) (by decide) eY_back_15 ?_
    refine go_rV (pc := 16) 6 (d_fails1 0 0) okY_fails lmY_46 eY_back_16 rfl rfl rfl rfl rfl (Nat.le_of_ble_eq_true rfl) (Nat.le_of_ble_eq_true rfl) ?_
    refine go_if_eq (pc := 19) 24 (by decide) eY_back_19 (fun c19 => ?_) (fun c19 => ?_)
    · exact absurd c19 (by decide)
    · refine go_iconst (pc := 22) (v := 0) (by decide) eY_back_22 ?_
      exact go_iret (pc := 23) rfl rfl eY_back_23 (hf)
/-- the spaces of row r that have been emptied, i of them -/
def emt (th : Nat → Bool) (r : Nat) : Nat → Nat → Bool
  | 0 => th
  | i + 1 => va_up (emt th r i) (6 * r + i) false
def ems (sm : Nat → Nat) (r : Nat) : Nat → Nat → Nat
  | 0 => sm
  | i + 1 => va_cpy (fun _ => 0) (ems sm r i) 0 (8 * (6 * r + i)) 8
theorem ems_lt {sm : Nat → Nat} {r : Nat} (hsm : ∀ k, sm k < 2 ^ 30) : ∀ i k, ems sm r i k < 2 ^ 30 := by
  intro i
  induction i with
  | zero => exact hsm
  | succ i ih =>
    intro k
    show va_cpy (fun _ => 0) (ems sm r i) 0 (8 * (6 * r + i)) 8 k < 2 ^ 30
    simp only [va_cpy]
    split
    · decide
    · exact ih k
set_option maxRecDepth 100000 in
set_option maxHeartbeats 1000000 in
theorem k_drop (hsm : ∀ k, sm k < 2 ^ 30) (p w : Nat) (hp : p < 8) {Psi : gR → va_W → Prop} (hf : Psi (.inl (some (.int (nI w - nI (gcnt (usf (ems sm (1 + p) 6)) 432))))) (zW z0 z1 z2 z3 z4 z5 cI cB hm b1 b2 b3 b4 cd F sx pd (emt th (1 + p) 6) (ems sm (1 + p) 6) u rest)) : ∀ (m i : Nat), i + m = 6 → Go (gg D cI cB cL bb L xs) mY_drop (n + 2) 0 0 40 [(3, .int (nI i)), (2, .int (nI w)), (0, .ref hm), (1, .int (nI p))] [] (zW z0 z1 z2 z3 z4 z5 cI cB hm b1 b2 b3 b4 cd F sx pd (emt th (1 + p) i) (ems sm (1 + p) i) u rest) Psi := by
  intro m
  induction m with
  | zero =>
    intro i hi
    obtain rfl : i = 6 := by omega
    refine go_iload_n (pc := 40) 3 0 rfl rfl eY_drop_40 ?_
    refine go_bipush (pc := 41) (v := 6) (by decide) eY_drop_41 ?_
    refine go_icmp_ge (pc := 43) 60 (by decide) eY_drop_43 (fun c43 => ?_) (fun c43 => ?_)
    · refine go_iload_n (pc := 60) 2 1 rfl rfl eY_drop_60 ?_
      refine go_aload_n (pc := 61) 0 2 rfl rfl eY_drop_61 ?_
      refine go_rV (pc := 62) 6 (d_used (ems_lt hsm 6)) okY_used lmY_60 eY_drop_62 rfl rfl rfl rfl rfl (Nat.le_of_ble_eq_true rfl) (Nat.le_of_ble_eq_true rfl) ?_
      refine go_isub (pc := 65) eY_drop_65 ?_
      exact go_iret (pc := 66) rfl rfl eY_drop_66 (hf)
    · exact absurd (show (6 : Int32) ≤ nI 6 by decide) c43
  | succ m ih =>
    intro i hi
    refine go_iload_n (pc := 40) 3 0 rfl rfl eY_drop_40 ?_
    refine go_bipush (pc := 41) (v := 6) (by decide) eY_drop_41 ?_
    refine go_icmp_ge (pc := 43) 60 (by decide) eY_drop_43 (fun c43 => ?_) (fun c43 => ?_)
    · exact absurd c43 (nI_ge (b := 6) (by omega) (by omega))
    · refine go_aload_n (pc := 46) 0 2 rfl rfl eY_drop_46 ?_
      refine go_iconst (pc := 47) (v := 1) (by decide) eY_drop_47 ?_
      refine go_iload_n (pc := 48) 1 3 rfl rfl eY_drop_48 ?_
      refine go_iadd (pc := 49) eY_drop_49 ?_
      rw [show (1 : Int32) + nI p = nI (1 + p) from nI_add 1 p]
      refine go_iload_n (pc := 50) 3 0 rfl rfl eY_drop_50 ?_
      refine go_rV0 (pc := 51) 6 (d_em (1 + p) i (by omega) (by omega)) okY_empty lmY_54 eY_drop_51 rfl rfl rfl rfl rfl (Nat.le_of_ble_eq_true rfl) (Nat.le_of_ble_eq_true rfl) ?_
      refine go_iinc (pc := 54) (z := 1) (v := nI (i + 1)) (ls' := [(3, _), (2, _), (0, _), (1, _)]) 3 0 rfl (nI_1 i) (by decide) eY_drop_54 rfl ?_
      refine go_goto (pc := 57) 40 (by decide) eY_drop_57 ?_
      exact ih (i + 1) (by omega)
set_option maxRecDepth 100000 in
set_option maxHeartbeats 1000000 in
theorem d_drop (hsm : ∀ k, sm k < 2 ^ 30) (p : Nat) (hp : p < 8) (hpd : pd (1 + p) = true) : Ret (gg D cI cB cL bb L xs) mY_drop (n + 2) 0 0 [.ref hm, .int (nI p)] (zW z0 z1 z2 z3 z4 z5 cI cB hm b1 b2 b3 b4 cd F sx pd th sm u rest) (some (.int (nI (gcnt (usf sm) 432) - nI (gcnt (usf (ems sm (1 + p) 6)) 432)))) (zW z0 z1 z2 z3 z4 z5 cI cB hm b1 b2 b3 b4 0 F sx (va_up pd (1 + p) false) (emt th (1 + p) 6) (ems sm (1 + p) 6) u rest) := by
  intro Psi hf
  show Go _ _ _ _ _ 0 [(0, .ref hm), (1, .int (nI p))] [] _ Psi
  refine go_aload_n (pc := 0) 0 0 rfl rfl eY_drop_0 ?_
  refine go_aload_n (pc := 1) 0 0 rfl rfl eY_drop_1 ?_
  refine go_iload_n (pc := 2) 1 1 rfl rfl eY_drop_2 ?_
  refine go_rV (pc := 3) 6 (d_isPicT p hp hpd) okY_isPicture lmY_80 eY_drop_3 rfl rfl rfl rfl rfl (Nat.le_of_ble_eq_true rfl) (Nat.le_of_ble_eq_true rfl) ?_
  refine go_if_ne (pc := 6) 13 (by decide) eY_drop_6 (fun c6 => ?_) (fun c6 => ?_)
  · refine go_iconst (pc := 13) (v := 0) (by decide) eY_drop_13 ?_
    refine go_iconst (pc := 14) (v := 0) (by decide) eY_drop_14 ?_
    refine go_iconst (pc := 15) (v := 0) (by decide) eY_drop_15 ?_
    refine go_rV (pc := 16) 6 (d_fails0) okY_fails lmY_46 eY_drop_16 rfl rfl rfl rfl rfl (Nat.le_of_ble_eq_true rfl) (Nat.le_of_ble_eq_true rfl) ?_
    refine go_if_eq (pc := 19) 24 (by decide) eY_drop_19 (fun c19 => ?_) (fun c19 => ?_)
    · refine go_aload_n (pc := 24) 0 0 rfl rfl eY_drop_24 ?_
      refine go_rV (pc := 25) 6 (d_used hsm) okY_used lmY_60 eY_drop_25 rfl rfl rfl rfl rfl (Nat.le_of_ble_eq_true rfl) (Nat.le_of_ble_eq_true rfl) ?_
      refine go_istore_n (pc := 28) (ls' := [(2, _), (0, _), (1, _)]) 2 rfl (by decide) eY_drop_28 rfl ?_
      refine go_aload_n (pc := 29) 0 1 rfl rfl eY_drop_29 ?_
      refine go_get (pc := 30) hwY 6 rfl rfl 3 (by decide) lkY_7 rfl eY_drop_30 ?_
      refine go_iconst (pc := 33) (v := 1) (by decide) eY_drop_33 ?_
      refine go_iload_n (pc := 34) 1 2 rfl rfl eY_drop_34 ?_
      refine go_iadd (pc := 35) eY_drop_35 ?_
      refine go_iconst (pc := 36) (v := 0) (by decide) eY_drop_36 ?_
      refine go_zastN (pc := 37) (es' := (zW z0 z1 z2 z3 z4 z5 cI cB hm b1 b2 b3 b4 0 F sx (va_up pd (1 + p) false) th sm u rest)) 7 1 (1 + p) eY_drop_37 rfl rfl (nI_add 1 p) (by omega) (by omega) (ys7 (upd_b (b := false) rfl)) ?_
      refine go_iconst (pc := 38) (v := 0) (by decide) eY_drop_38 ?_
      refine go_istore_n (pc := 39) (ls' := [(3, _), (2, _), (0, _), (1, _)]) 3 rfl (by decide) eY_drop_39 rfl ?_
      exact k_drop hsm p _ hp hf 6 0 (by omega)
    · exact absurd c19 (by decide)
  · exact absurd c6 (by decide)
set_option maxRecDepth 100000 in
set_option maxHeartbeats 1000000 in
theorem e_drop (x : Int32) (hx : ∀ j, j < 8 → x = nI j → pd (1 + j) = false) : Ret (gg D cI cB cL bb L xs) mY_drop (n + 2) 0 0 [.ref hm, .int (x)] (zW z0 z1 z2 z3 z4 z5 cI cB hm b1 b2 b3 b4 cd F sx pd th sm u rest) (some (.int (0))) (zW z0 z1 z2 z3 z4 z5 cI cB hm b1 b2 b3 b4 1 F sx pd th sm u rest) := by
  intro Psi hf
  show Go _ _ _ _ _ 0 [(0, .ref hm), (1, .int (x))] [] _ Psi
  refine go_aload_n (pc := 0) 0 0 rfl rfl eY_drop_0 ?_
  refine go_aload_n (pc := 1) 0 0 rfl rfl eY_drop_1 ?_
  refine go_iload_n (pc := 2) 1 1 rfl rfl eY_drop_2 ?_
  refine go_rV (pc := 3) 6 (d_isPicF x hx) okY_isPicture lmY_80 eY_drop_3 rfl rfl rfl rfl rfl (Nat.le_of_ble_eq_true rfl) (Nat.le_of_ble_eq_true rfl) ?_
  refine go_if_ne (pc := 6) 13 (by decide) eY_drop_6 (fun c6 => ?_) (fun c6 => ?_)
  · exact absurd rfl c6
  · refine go_iconst (pc := 9) (v := 1) (by decide) eY_drop_9 ?_
    refine go_goto (pc := 10) 14 (by decide) eY_drop_10 ?_
    refine go_iconst (pc := 14) (v := 0) (by decide) eY_drop_14 ?_
    refine go_iconst (pc := 15) (v := 0) (by decide) eY_drop_15 ?_
    refine go_rV (pc := 16) 6 (d_fails1 0 0) okY_fails lmY_46 eY_drop_16 rfl rfl rfl rfl rfl (Nat.le_of_ble_eq_true rfl) (Nat.le_of_ble_eq_true rfl) ?_
    refine go_if_eq (pc := 19) 24 (by decide) eY_drop_19 (fun c19 => ?_) (fun c19 => ?_)
    · exact absurd c19 (by decide)
    · refine go_iconst (pc := 22) (v := 0) (by decide) eY_drop_22 ?_
      exact go_iret (pc := 23) rfl rfl eY_drop_23 (hf)
set_option maxRecDepth 100000 in
set_option maxHeartbeats 1000000 in
theorem k_chg (hsm : ∀ k, sm k < 2 ^ 30) (p : Nat) (hp : p < 8) {Psi : gR → va_W → Prop} (hf : Psi (.inl (some (.int (nI (gcnt (fun i => decide (¬ sm i = sm (48 * (1 + p) + i))) 48))))) (zW z0 z1 z2 z3 z4 z5 cI cB hm b1 b2 b3 b4 cd F sx pd th sm u rest)) : ∀ (m i : Nat), i + m = 48 → Go (gg D cI cB cL bb L xs) mY_changed (n + 1) 0 0 28 [(3, .int (nI i)), (2, .int (nI (gcnt (fun i => decide (¬ sm i = sm (48 * (1 + p) + i))) i))), (0, .ref hm), (1, .int (nI p))] [] (zW z0 z1 z2 z3 z4 z5 cI cB hm b1 b2 b3 b4 cd F sx pd th sm u rest) Psi := by
  intro m
  induction m with
  | zero =>
    intro i hi
    obtain rfl : i = 48 := by omega
    refine go_iload_n (pc := 28) 3 0 rfl rfl eY_changed_28 ?_
    refine go_bipush (pc := 29) (v := 48) (by decide) eY_changed_29 ?_
    refine go_icmp_ge (pc := 31) 70 (by decide) eY_changed_31 (fun c31 => ?_) (fun c31 => ?_)
    · refine go_iload_n (pc := 70) 2 1 rfl rfl eY_changed_70 ?_
      exact go_iret (pc := 71) rfl rfl eY_changed_71 (hf)
    · exact absurd (show (48 : Int32) ≤ nI 48 by decide) c31
  | succ m ih =>
    intro i hi
    refine go_iload_n (pc := 28) 3 0 rfl rfl eY_changed_28 ?_
    refine go_bipush (pc := 29) (v := 48) (by decide) eY_changed_29 ?_
    refine go_icmp_ge (pc := 31) 70 (by decide) eY_changed_31 (fun c31 => ?_) (fun c31 => ?_)
    · exact absurd c31 (nI_ge (b := 48) (by omega) (by omega))
    · refine go_aload_n (pc := 34) 0 2 rfl rfl eY_changed_34 ?_
      refine go_get (pc := 35) hwY 6 rfl rfl 5 (by decide) lkY_16 rfl eY_changed_35 ?_
      refine go_iload_n (pc := 38) 3 0 rfl rfl eY_changed_38 ?_
      refine go_ialdN (pc := 39) 9 0 (i) eY_changed_39 rfl rfl (rfl) (by omega) (by omega) ?_
      refine go_aload_n (pc := 40) 0 2 rfl rfl eY_changed_40 ?_
      refine go_get (pc := 41) hwY 6 rfl rfl 5 (by decide) lkY_16 rfl eY_changed_41 ?_
      refine go_bipush (pc := 44) (v := 48) (by decide) eY_changed_44 ?_
      refine go_iconst (pc := 46) (v := 1) (by decide) eY_changed_46 ?_
      refine go_iload_n (pc := 47) 1 3 rfl rfl eY_changed_47 ?_
      refine go_iadd (pc := 48) eY_changed_48 ?_
      rw [show (1 : Int32) + nI p = nI (1 + p) from nI_add 1 p]
      refine go_imul (pc := 49) eY_changed_49 ?_
      refine go_iload_n (pc := 50) 3 0 rfl rfl eY_changed_50 ?_
      refine go_iadd (pc := 51) eY_changed_51 ?_
      refine go_ialdN (pc := 52) 9 0 (48 * (1 + p) + i) eY_changed_52 rfl rfl (n48 (1 + p) i) (by omega) (by omega) ?_
      refine go_icmp_ne (pc := 53) 60 (by decide) eY_changed_53 (fun c53 => ?_) (fun c53 => ?_)
      · have e9 : gcnt (fun i => decide (¬ sm i = sm (48 * (1 + p) + i))) (i + 1) = gcnt (fun i => decide (¬ sm i = sm (48 * (1 + p) + i))) i + 1 := gcnt_s (decide_eq_true (fun z => c53 (by rw [z])))
        refine go_iload_n (pc := 60) 2 1 rfl rfl eY_changed_60 ?_
        refine go_iconst (pc := 61) (v := 1) (by decide) eY_changed_61 ?_
        refine go_iadd (pc := 62) eY_changed_62 ?_
        try rw [nI_1, ← e9]
        refine go_istore_n (pc := 63) (ls' := [(2, _), (3, _), (0, _), (1, _)]) 2 rfl (by decide) eY_changed_63 rfl ?_
        refine go_iinc (pc := 64) (z := 1) (v := nI (i + 1)) (ls' := [(3, _), (2, _), (0, _), (1, _)]) 3 1 rfl (nI_1 i) (by decide) eY_changed_64 rfl ?_
        refine go_goto (pc := 67) 28 (by decide) eY_changed_67 ?_
        exact ih (i + 1) (by omega)
      · have e9 : gcnt (fun i => decide (¬ sm i = sm (48 * (1 + p) + i))) (i + 1) = gcnt (fun i => decide (¬ sm i = sm (48 * (1 + p) + i))) i := gcnt_n (decide_eq_false (fun z => z ((nI_eq (by have := hsm i; omega) (by have := hsm (48 * (1 + p) + i); omega)).mp c53)))
        rw [← e9]
        refine go_iload_n (pc := 56) 2 1 rfl rfl eY_changed_56 ?_
        refine go_goto (pc := 57) 63 (by decide) eY_changed_57 ?_
        try rw [nI_1, ← e9]
        refine go_istore_n (pc := 63) (ls' := [(2, _), (3, _), (0, _), (1, _)]) 2 rfl (by decide) eY_changed_63 rfl ?_
        refine go_iinc (pc := 64) (z := 1) (v := nI (i + 1)) (ls' := [(3, _), (2, _), (0, _), (1, _)]) 3 1 rfl (nI_1 i) (by decide) eY_changed_64 rfl ?_
        refine go_goto (pc := 67) 28 (by decide) eY_changed_67 ?_
        exact ih (i + 1) (by omega)
set_option maxRecDepth 100000 in
set_option maxHeartbeats 1000000 in
theorem d_chg (hsm : ∀ k, sm k < 2 ^ 30) (p : Nat) (hp : p < 8) (hpd : pd (1 + p) = true) : Ret (gg D cI cB cL bb L xs) mY_changed (n + 1) 0 0 [.ref hm, .int (nI p)] (zW z0 z1 z2 z3 z4 z5 cI cB hm b1 b2 b3 b4 cd F sx pd th sm u rest) (some (.int (nI (gcnt (fun i => decide (¬ sm i = sm (48 * (1 + p) + i))) 48)))) (zW z0 z1 z2 z3 z4 z5 cI cB hm b1 b2 b3 b4 0 F sx pd th sm u rest) := by
  intro Psi hf
  show Go _ _ _ _ _ 0 [(0, .ref hm), (1, .int (nI p))] [] _ Psi
  refine go_aload_n (pc := 0) 0 0 rfl rfl eY_changed_0 ?_
  refine go_aload_n (pc := 1) 0 0 rfl rfl eY_changed_1 ?_
  refine go_iload_n (pc := 2) 1 1 rfl rfl eY_changed_2 ?_
  refine go_rV (pc := 3) 6 (d_isPicT p hp hpd) okY_isPicture lmY_80 eY_changed_3 rfl rfl rfl rfl rfl (Nat.le_of_ble_eq_true rfl) (Nat.le_of_ble_eq_true rfl) ?_
  refine go_if_ne (pc := 6) 13 (by decide) eY_changed_6 (fun c6 => ?_) (fun c6 => ?_)
  · refine go_iconst (pc := 13) (v := 0) (by decide) eY_changed_13 ?_
    refine go_iconst (pc := 14) (v := 0) (by decide) eY_changed_14 ?_
    refine go_iconst (pc := 15) (v := 0) (by decide) eY_changed_15 ?_
    refine go_rV (pc := 16) 6 (d_fails0) okY_fails lmY_46 eY_changed_16 rfl rfl rfl rfl rfl (Nat.le_of_ble_eq_true rfl) (Nat.le_of_ble_eq_true rfl) ?_
    refine go_if_eq (pc := 19) 24 (by decide) eY_changed_19 (fun c19 => ?_) (fun c19 => ?_)
    · refine go_iconst (pc := 24) (v := 0) (by decide) eY_changed_24 ?_
      refine go_istore_n (pc := 25) (ls' := [(2, _), (0, _), (1, _)]) 2 rfl (by decide) eY_changed_25 rfl ?_
      refine go_iconst (pc := 26) (v := 0) (by decide) eY_changed_26 ?_
      refine go_istore_n (pc := 27) (ls' := [(3, _), (2, _), (0, _), (1, _)]) 3 rfl (by decide) eY_changed_27 rfl ?_
      exact k_chg hsm p hp hf 48 0 (by omega)
    · exact absurd c19 (by decide)
  · exact absurd c6 (by decide)
set_option maxRecDepth 100000 in
set_option maxHeartbeats 1000000 in
theorem e_chg (x : Int32) (hx : ∀ j, j < 8 → x = nI j → pd (1 + j) = false) : Ret (gg D cI cB cL bb L xs) mY_changed (n + 1) 0 0 [.ref hm, .int (x)] (zW z0 z1 z2 z3 z4 z5 cI cB hm b1 b2 b3 b4 cd F sx pd th sm u rest) (some (.int (0))) (zW z0 z1 z2 z3 z4 z5 cI cB hm b1 b2 b3 b4 1 F sx pd th sm u rest) := by
  intro Psi hf
  show Go _ _ _ _ _ 0 [(0, .ref hm), (1, .int (x))] [] _ Psi
  refine go_aload_n (pc := 0) 0 0 rfl rfl eY_changed_0 ?_
  refine go_aload_n (pc := 1) 0 0 rfl rfl eY_changed_1 ?_
  refine go_iload_n (pc := 2) 1 1 rfl rfl eY_changed_2 ?_
  refine go_rV (pc := 3) 6 (d_isPicF x hx) okY_isPicture lmY_80 eY_changed_3 rfl rfl rfl rfl rfl (Nat.le_of_ble_eq_true rfl) (Nat.le_of_ble_eq_true rfl) ?_
  refine go_if_ne (pc := 6) 13 (by decide) eY_changed_6 (fun c6 => ?_) (fun c6 => ?_)
  · exact absurd rfl c6
  · refine go_iconst (pc := 9) (v := 1) (by decide) eY_changed_9 ?_
    refine go_goto (pc := 10) 14 (by decide) eY_changed_10 ?_
    refine go_iconst (pc := 14) (v := 0) (by decide) eY_changed_14 ?_
    refine go_iconst (pc := 15) (v := 0) (by decide) eY_changed_15 ?_
    refine go_rV (pc := 16) 6 (d_fails1 0 0) okY_fails lmY_46 eY_changed_16 rfl rfl rfl rfl rfl (Nat.le_of_ble_eq_true rfl) (Nat.le_of_ble_eq_true rfl) ?_
    refine go_if_eq (pc := 19) 24 (by decide) eY_changed_19 (fun c19 => ?_) (fun c19 => ?_)
    · exact absurd c19 (by decide)
    · refine go_iconst (pc := 22) (v := 0) (by decide) eY_changed_22 ?_
      exact go_iret (pc := 23) rfl rfl eY_changed_23 (hf)
set_option maxRecDepth 100000 in
set_option maxHeartbeats 1000000 in
theorem d_isThereA (s : Nat) (hs : s < 6) : Ret (gg D cI cB cL bb L xs) mY_isThere (n + 1) 0 0 [.ref hm, .int (nI s)] (zW z0 z1 z2 z3 z4 z5 cI cB hm b1 b2 b3 b4 cd F sx pd th sm u rest) (some (.int (bI (th s)))) (zW z0 z1 z2 z3 z4 z5 cI cB hm b1 b2 b3 b4 0 F sx pd th sm u rest) := by
  intro Psi hf
  show Go _ _ _ _ _ 0 [(0, .ref hm), (1, .int (nI s))] [] _ Psi
  refine go_aload_n (pc := 0) 0 0 rfl rfl eY_isThere_0 ?_
  refine go_iconst (pc := 1) (v := 0) (by decide) eY_isThere_1 ?_
  refine go_put (pc := 2) (ty := .int) (es' := (zW z0 z1 z2 z3 z4 z5 cI cB hm b1 b2 b3 b4 0 F sx pd th sm u rest)) hwY tyY tyY_ok nmY 6 rfl rfl 0 (by decide) lkY_27 rfl (by decide +kernel) rfl rfl (Nat.le_of_ble_eq_true rfl) eY_isThere_2 rfl ?_
  refine go_aload_n (pc := 5) 0 0 rfl rfl eY_isThere_5 ?_
  refine go_iload_n (pc := 6) 1 1 rfl rfl eY_isThere_6 ?_
  refine go_rV (pc := 7) 6 (d_isSpaceA s hs) okY_isSpace lmY_42 eY_isThere_7 rfl rfl rfl rfl rfl (Nat.le_of_ble_eq_true rfl) (Nat.le_of_ble_eq_true rfl) ?_
  exact go_iret (pc := 10) rfl (narB _) eY_isThere_10 hf
set_option maxRecDepth 100000 in
set_option maxHeartbeats 1000000 in
theorem d_isThereB (x : Int32) (hx : ∀ j, j < 6 → x = nI j → th j = false) : Ret (gg D cI cB cL bb L xs) mY_isThere (n + 1) 0 0 [.ref hm, .int (x)] (zW z0 z1 z2 z3 z4 z5 cI cB hm b1 b2 b3 b4 cd F sx pd th sm u rest) (some (.int (0))) (zW z0 z1 z2 z3 z4 z5 cI cB hm b1 b2 b3 b4 0 F sx pd th sm u rest) := by
  intro Psi hf
  show Go _ _ _ _ _ 0 [(0, .ref hm), (1, .int (x))] [] _ Psi
  refine go_aload_n (pc := 0) 0 0 rfl rfl eY_isThere_0 ?_
  refine go_iconst (pc := 1) (v := 0) (by decide) eY_isThere_1 ?_
  refine go_put (pc := 2) (ty := .int) (es' := (zW z0 z1 z2 z3 z4 z5 cI cB hm b1 b2 b3 b4 0 F sx pd th sm u rest)) hwY tyY tyY_ok nmY 6 rfl rfl 0 (by decide) lkY_27 rfl (by decide +kernel) rfl rfl (Nat.le_of_ble_eq_true rfl) eY_isThere_2 rfl ?_
  refine go_aload_n (pc := 5) 0 0 rfl rfl eY_isThere_5 ?_
  refine go_iload_n (pc := 6) 1 1 rfl rfl eY_isThere_6 ?_
  refine go_rV (pc := 7) 6 (d_isSpaceF x hx) okY_isSpace lmY_42 eY_isThere_7 rfl rfl rfl rfl rfl (Nat.le_of_ble_eq_true rfl) (Nat.le_of_ble_eq_true rfl) ?_
  exact go_iret (pc := 10) rfl rfl eY_isThere_10 (hf)
end Syc
