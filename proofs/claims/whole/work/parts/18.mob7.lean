theorem mo_ln_c {B B' : Nat → Nat → Int32} (h1 : B 16 = B' 16) (h2 : B 18 = B' 18) (h3 : B 19 = B' 19) (x p : Int32) : ∀ n, mo_ln B x p n = mo_ln B' x p n := by
  intro n
  induction n with
  | zero => rfl
  | succ n ih => rw [mo_ln, mo_ln, ih, h1, h2, h3]
/-- what reading a handle comes to: a trap, or none; the tables behind it -/
def mo_rh (B : Nat → Nat → Int32) (ii tt : Nat) (p : Int32) (it : Nat) : Option (Int32 × Int32) × (Nat → Nat → Int32) :=
  if p < 0 ∨ 255 < p then (some (1, p), B) else
  if ¬ (¬ B 13 (256 * nI ii + p).toNatClampNeg < 1 ∧ ¬ 16 < B 13 (256 * nI ii + p).toNatClampNeg ∧ ¬ B 16 (17 * ii + (B 13 (256 * nI ii + p).toNatClampNeg).toNatClampNeg) = 0 ∧ B 20 (17 * ii + (B 13 (256 * nI ii + p).toNatClampNeg).toNatClampNeg) = 0) then (some (6, p), B) else
  if ¬ B 23 (B 17 (17 * ii + (B 13 (256 * nI ii + p).toNatClampNeg).toNatClampNeg)).toNatClampNeg = B 3 tt then (some (7, p), va_up B 48 (upd (B 48) it (nI (17 * ii + (B 13 (256 * nI ii + p).toNatClampNeg).toNatClampNeg)))) else
  if B 2 tt = 12 then (none, va_up (va_up B 48 (upd (B 48) it (nI (17 * ii + (B 13 (256 * nI ii + p).toNatClampNeg).toNatClampNeg)))) 21 (upd (B 21) (17 * ii + (B 13 (256 * nI ii + p).toNatClampNeg).toNatClampNeg) (B 21 (17 * ii + (B 13 (256 * nI ii + p).toNatClampNeg).toNatClampNeg) + 1))) else
  if B 18 (17 * ii + (B 13 (256 * nI ii + p).toNatClampNeg).toNatClampNeg) = 0 then (some (8, p), va_up B 48 (upd (B 48) it (nI (17 * ii + (B 13 (256 * nI ii + p).toNatClampNeg).toNatClampNeg)))) else
  if ¬ mo_ln B (nI (17 * ii + (B 13 (256 * nI ii + p).toNatClampNeg).toNatClampNeg)) (B 21 (17 * ii + (B 13 (256 * nI ii + p).toNatClampNeg).toNatClampNeg)) 102 ≤ 0 then (some (9, p), va_up B 48 (upd (B 48) it (nI (17 * ii + (B 13 (256 * nI ii + p).toNatClampNeg).toNatClampNeg)))) else
  (none, va_up (va_up B 48 (upd (B 48) it (nI (17 * ii + (B 13 (256 * nI ii + p).toNatClampNeg).toNatClampNeg)))) 20 (upd (B 20) (17 * ii + (B 13 (256 * nI ii + p).toNatClampNeg).toNatClampNeg) 1))
theorem mo_bp0 {F F1 : Nat → Int32} {B : Nat → Nat → Int32} {i p x : Int32} (h0 : F 54 = 0) (hb : mo_bp F B i p x F1) : ((p < 0 ∨ 255 < p) ∧ x = 0 ∧ F1 = mo_fl F 1 p ∧ ¬ F1 54 ≤ 0) ∨ (¬ (p < 0 ∨ 255 < p) ∧ x = B 13 (256 * i + p).toNatClampNeg ∧ F1 = F ∧ F1 54 ≤ 0) := by
  have n0 : ¬ 0 < F 54 := by rw [h0]; decide
  rcases hb with ⟨z, -⟩ | ⟨-, hq, hx, rfl⟩ | ⟨-, a, b, hx, rfl⟩
  · exact absurd z n0
  · exact Or.inl ⟨hq, hx, rfl, by rw [mo_fl1 h0]; decide⟩
  · exact Or.inr ⟨fun z => z.elim a b, hx, rfl, by rw [h0]; decide⟩

set_option maxHeartbeats 4000000 in
set_option maxRecDepth 100000 in
theorem mt_readHandle {l : Launch} {D : va_G} {tl : List (ClassId × FieldType)} {Z : (Nat → Prop) → State → Heap → Prop} {kI kZ : ClassId} {am : Nat → Nat} {F : Nat → Int32} {B : Nat → Nat → Int32} (hZ : ev_Zok Z) (ii : Nat) (tt : Nat) (p : Int32) (it : Nat) (hii : ii < 6) (htt : tt < 32) (hit : it < 200) (h0 : F 54 = 0) (hG : ∀ y, y < 102 → ¬ B 16 y = 0 → vp_in (B 17 y) 1024) : MT (mo_π l D cl_A kI kZ tl Z) m_readHandle 0 0 [.ref (am 60), .int (nI ii), .int (nI tt), .int p, .int (nI it)] (mo_W mo_ci am kI kZ F B) (mo_qv am kI kZ (fun F1 B1 => F1 = mo_fo F (mo_rh B ii tt p it).1 ∧ B1 = (mo_rh B ii tt p it).2)) := by
  refine mt_of mo_pl rfl (Nat.le_of_ble_eq_true rfl) (ev_eq (lv' := [some (.ref (am 60)), some (.int (nI ii)), some (.int (nI tt)), some (.int p), some (.int (nI it)), none, none, none]) ?_)
  refine ev_aload_0 0 d_mo_readHandle_0 ?_
  refine ev_iload_1 1 d_mo_readHandle_1 ?_
  refine ev_iload_3 2 d_mo_readHandle_2 ?_
  refine mo_calli2 3 d_mo_readHandle_3 hZ kc_234 (mt_byteAt hZ (nI ii) _ (mo_bb hii _)) (fun y F1 B1 h => ?_)
  obtain ⟨hb, e2⟩ := h
  subst B1
  have hb := mo_bp0 h0 hb
  refine ev_istore_5 6 d_mo_readHandle_6 ?_
  refine ev_aload_0 8 d_mo_readHandle_8 ?_
  refine mo_geti 9 54 d_mo_readHandle_9 lk_224 ?_
  refine ev_ifle 12 16 d_mo_readHandle_12 (fun c12 => ?_) (fun c12 => ?_)
  · obtain ⟨hr, hy, e1, -⟩ : ¬ (p < 0 ∨ 255 < p) ∧ y = B 13 (256 * nI ii + p).toNatClampNeg ∧ F1 = F ∧ F1 54 ≤ 0 := by
      rcases hb with ⟨-, -, -, z⟩ | h
      · exact absurd c12 z
      · exact h
    subst F1
    refine ev_iload_5 16 d_mo_readHandle_16 ?_
    refine ev_iconst_1 18 d_mo_readHandle_18 ?_
    refine ev_icmplt 19 63 d_mo_readHandle_19 (fun c19 => ?_) (fun c19 => ?_)
    · refine ev_iconst_0 63 d_mo_readHandle_63 ?_
      refine ev_istore_6 64 d_mo_readHandle_64 ?_
      refine ev_iload_6 66 d_mo_readHandle_66 ?_
      refine ev_ifne 68 79 d_mo_readHandle_68 (fun c68 => ?_) (fun c68 => ?_)
      · exact absurd rfl c68
      · refine ev_aload_0 71 d_mo_readHandle_71 ?_
        refine ev_bipush (6) 72 d_mo_readHandle_72 (by decide) ?_
        refine ev_iload_3 74 d_mo_readHandle_74 ?_
        refine mo_callv2 75 d_mo_readHandle_75 hZ kc_230 (mt_fails hZ _ _) (fun F1 B1 h => ?_)
        obtain ⟨e1, e2⟩ := h
        subst F1
        subst B1
        refine ev_vret 78 d_mo_readHandle_78 rfl ?_
        exact ⟨_, _, rfl, rfl, by rw [mo_rh, if_neg hr, ← hy, if_pos (fun z => z.1 c19)]; rfl, by rw [mo_rh, if_neg hr, ← hy, if_pos (fun z => z.1 c19)]⟩
    · refine ev_iload_5 22 d_mo_readHandle_22 ?_
      refine ev_bipush (16) 24 d_mo_readHandle_24 (by decide) ?_
      refine ev_icmpgt 26 63 d_mo_readHandle_26 (fun c26 => ?_) (fun c26 => ?_)
      · refine ev_iconst_0 63 d_mo_readHandle_63 ?_
        refine ev_istore_6 64 d_mo_readHandle_64 ?_
        refine ev_iload_6 66 d_mo_readHandle_66 ?_
        refine ev_ifne 68 79 d_mo_readHandle_68 (fun c68 => ?_) (fun c68 => ?_)
        · exact absurd rfl c68
        · refine ev_aload_0 71 d_mo_readHandle_71 ?_
          refine ev_bipush (6) 72 d_mo_readHandle_72 (by decide) ?_
          refine ev_iload_3 74 d_mo_readHandle_74 ?_
          refine mo_callv2 75 d_mo_readHandle_75 hZ kc_230 (mt_fails hZ _ _) (fun F1 B1 h => ?_)
          obtain ⟨e1, e2⟩ := h
          subst F1
          subst B1
          refine ev_vret 78 d_mo_readHandle_78 rfl ?_
          exact ⟨_, _, rfl, rfl, by rw [mo_rh, if_neg hr, ← hy, if_pos (fun z => z.2.1 c26)]; rfl, by rw [mo_rh, if_neg hr, ← hy, if_pos (fun z => z.2.1 c26)]⟩
      · obtain ⟨jj, hj1, hj2, hjj⟩ := n_rng c19 c26
        subst hjj
        refine ev_aload_0 29 d_mo_readHandle_29 ?_
        refine mo_getr 30 12 16 d_mo_readHandle_30 lk_46 ?_
        refine ev_bipush (17) 33 d_mo_readHandle_33 (by decide) ?_
        refine ev_iload_1 35 d_mo_readHandle_35 ?_
        refine ev_imul 36 d_mo_readHandle_36 ?_
        refine ev_iload_5 37 d_mo_readHandle_37 ?_
        refine ev_iadd 39 d_mo_readHandle_39 ?_
        refine ev_topi (nI (17 * ii + jj)) (by rw [n_17, pk_mul, nI_add]) ?_
        refine mo_zldn (j := 17 * ii + jj) 40 12 16 d_mo_readHandle_40 (by show 17 * ii + jj < 102; omega) ?_
        refine ev_ifeq 41 63 d_mo_readHandle_41 (fun c41 => ?_) (fun c41 => ?_)
        · refine ev_iconst_0 63 d_mo_readHandle_63 ?_
          refine ev_istore_6 64 d_mo_readHandle_64 ?_
          refine ev_iload_6 66 d_mo_readHandle_66 ?_
          refine ev_ifne 68 79 d_mo_readHandle_68 (fun c68 => ?_) (fun c68 => ?_)
          · exact absurd rfl c68
          · refine ev_aload_0 71 d_mo_readHandle_71 ?_
            refine ev_bipush (6) 72 d_mo_readHandle_72 (by decide) ?_
            refine ev_iload_3 74 d_mo_readHandle_74 ?_
            refine mo_callv2 75 d_mo_readHandle_75 hZ kc_230 (mt_fails hZ _ _) (fun F1 B1 h => ?_)
            obtain ⟨e1, e2⟩ := h
            subst F1
            subst B1
            refine ev_vret 78 d_mo_readHandle_78 rfl ?_
            exact ⟨_, _, rfl, rfl, by rw [mo_rh, if_neg hr, ← hy, if_pos (fun z => z.2.2.1 (by rw [nI_clamp (by omega)]; exact c41))]; rfl, by rw [mo_rh, if_neg hr, ← hy, if_pos (fun z => z.2.2.1 (by rw [nI_clamp (by omega)]; exact c41))]⟩
        · refine ev_aload_0 44 d_mo_readHandle_44 ?_
          refine mo_getr 45 16 20 d_mo_readHandle_45 lk_59 ?_
          refine ev_bipush (17) 48 d_mo_readHandle_48 (by decide) ?_
          refine ev_iload_1 50 d_mo_readHandle_50 ?_
          refine ev_imul 51 d_mo_readHandle_51 ?_
          refine ev_iload_5 52 d_mo_readHandle_52 ?_
          refine ev_iadd 54 d_mo_readHandle_54 ?_
          refine ev_topi (nI (17 * ii + jj)) (by rw [n_17, pk_mul, nI_add]) ?_
          refine mo_zldn (j := 17 * ii + jj) 55 16 20 d_mo_readHandle_55 (by show 17 * ii + jj < 102; omega) ?_
          refine ev_ifne 56 63 d_mo_readHandle_56 (fun c56 => ?_) (fun c56 => ?_)
          · refine ev_iconst_0 63 d_mo_readHandle_63 ?_
            refine ev_istore_6 64 d_mo_readHandle_64 ?_
            refine ev_iload_6 66 d_mo_readHandle_66 ?_
            refine ev_ifne 68 79 d_mo_readHandle_68 (fun c68 => ?_) (fun c68 => ?_)
            · exact absurd rfl c68
            · refine ev_aload_0 71 d_mo_readHandle_71 ?_
              refine ev_bipush (6) 72 d_mo_readHandle_72 (by decide) ?_
              refine ev_iload_3 74 d_mo_readHandle_74 ?_
              refine mo_callv2 75 d_mo_readHandle_75 hZ kc_230 (mt_fails hZ _ _) (fun F1 B1 h => ?_)
              obtain ⟨e1, e2⟩ := h
              subst F1
              subst B1
              refine ev_vret 78 d_mo_readHandle_78 rfl ?_
              exact ⟨_, _, rfl, rfl, by rw [mo_rh, if_neg hr, ← hy, if_pos (fun z => c56 (by have q := z.2.2.2; rw [nI_clamp (by omega)] at q; exact q))]; rfl, by rw [mo_rh, if_neg hr, ← hy, if_pos (fun z => c56 (by have q := z.2.2.2; rw [nI_clamp (by omega)] at q; exact q))]⟩
          · refine ev_iconst_1 59 d_mo_readHandle_59 ?_
            refine ev_goto 60 64 d_mo_readHandle_60 ?_
            refine ev_istore_6 64 d_mo_readHandle_64 ?_
            refine ev_iload_6 66 d_mo_readHandle_66 ?_
            refine ev_ifne 68 79 d_mo_readHandle_68 (fun c68 => ?_) (fun c68 => ?_)
            · refine ev_bipush (17) 79 d_mo_readHandle_79 (by decide) ?_
              refine ev_iload_1 81 d_mo_readHandle_81 ?_
              refine ev_imul 82 d_mo_readHandle_82 ?_
              refine ev_iload_5 83 d_mo_readHandle_83 ?_
              refine ev_iadd 85 d_mo_readHandle_85 ?_
              refine ev_topi (nI (17 * ii + jj)) (by rw [n_17, pk_mul, nI_add]) ?_
              refine ev_istore_7 86 d_mo_readHandle_86 ?_
              refine ev_aload_0 88 d_mo_readHandle_88 ?_
              refine mo_getr 89 36 48 d_mo_readHandle_89 lk_123 ?_
              refine ev_iload_4 92 d_mo_readHandle_92 ?_
              refine ev_iload_7 94 d_mo_readHandle_94 ?_
              refine mo_astn (j := it) 96 36 48 d_mo_readHandle_96 (by exact hit) ?_
              refine ev_aload_0 97 d_mo_readHandle_97 ?_
              refine mo_getr 98 18 23 d_mo_readHandle_98 lk_65 ?_
              refine ev_aload_0 101 d_mo_readHandle_101 ?_
              refine mo_getr 102 13 17 d_mo_readHandle_102 lk_50 ?_
              refine ev_iload_7 105 d_mo_readHandle_105 ?_
              refine mo_aldn (j := 17 * ii + jj) 107 13 17 d_mo_readHandle_107 (by show 17 * ii + jj < 102; omega) ?_
              refine mo_ald 108 18 23 d_mo_readHandle_108 (by exact hG (17 * ii + jj) (by omega) c41) ?_
              refine ev_aload_0 109 d_mo_readHandle_109 ?_
              refine mo_getr 110 1 3 d_mo_readHandle_110 lk_13 ?_
              refine ev_iload_2 113 d_mo_readHandle_113 ?_
              refine mo_aldn (j := tt) 114 1 3 d_mo_readHandle_114 (by exact htt) ?_
              refine ev_icmpeq 115 128 d_mo_readHandle_115 (fun c115 => ?_) (fun c115 => ?_)
              · replace c115 : B 23 (B 17 (17 * ii + jj)).toNatClampNeg = B 3 tt := c115
                refine ev_aload_0 128 d_mo_readHandle_128 ?_
                refine mo_getr 129 0 2 d_mo_readHandle_129 lk_7 ?_
                refine ev_iload_2 132 d_mo_readHandle_132 ?_
                refine mo_aldn (j := tt) 133 0 2 d_mo_readHandle_133 (by exact htt) ?_
                refine ev_bipush (12) 134 d_mo_readHandle_134 (by decide) ?_
                refine ev_icmpne 136 153 d_mo_readHandle_136 (fun c136 => ?_) (fun c136 => ?_)
                · replace c136 : ¬ B 2 tt = 12 := c136
                  refine ev_aload_0 153 d_mo_readHandle_153 ?_
                  refine mo_getr 154 14 18 d_mo_readHandle_154 lk_53 ?_
                  refine ev_iload_7 157 d_mo_readHandle_157 ?_
                  refine mo_zldn (j := 17 * ii + jj) 159 14 18 d_mo_readHandle_159 (by show 17 * ii + jj < 102; omega) ?_
                  refine ev_ifne 160 173 d_mo_readHandle_160 (fun c160 => ?_) (fun c160 => ?_)
                  · replace c160 : ¬ B 18 (17 * ii + jj) = 0 := c160
                    refine ev_aload_0 173 d_mo_readHandle_173 ?_
                    refine ev_iload_7 174 d_mo_readHandle_174 ?_
                    refine mo_calli1 176 d_mo_readHandle_176 hZ kc_221 (mt_loans hZ (17 * ii + jj) (by show 17 * ii + jj < 102; omega)) (fun u F1 B1 h => ?_)
                    obtain ⟨hu, e1, e2⟩ := h
                    subst F1
                    subst B1
                    have hln : u = mo_ln B (nI (17 * ii + jj)) (B 21 (17 * ii + jj)) 102 := hu.trans (mo_ln_c rfl rfl rfl _ _ 102)
                    refine ev_ifle 179 192 d_mo_readHandle_179 (fun c179 => ?_) (fun c179 => ?_)
                    · refine ev_aload_0 192 d_mo_readHandle_192 ?_
                      refine mo_getr 193 16 20 d_mo_readHandle_193 lk_59 ?_
                      refine ev_iload_7 196 d_mo_readHandle_196 ?_
                      refine ev_iconst_1 198 d_mo_readHandle_198 ?_
                      refine mo_zstn (j := 17 * ii + jj) 199 16 20 d_mo_readHandle_199 (by show 17 * ii + jj < 102; omega) (by exact Or.inr rfl) ?_
                      refine ev_vret 200 d_mo_readHandle_200 rfl ?_
                      exact ⟨_, _, rfl, rfl, by rw [mo_rh, if_neg hr, ← hy, nI_clamp (show jj < 2 ^ 31 by omega), if_neg (fun z => z ⟨c19, c26, c41, c56⟩), if_neg (fun z => z c115), if_neg c136, if_neg c160, if_neg (fun z => z (hln ▸ c179))] <;> rfl, by rw [mo_rh, if_neg hr, ← hy, nI_clamp (show jj < 2 ^ 31 by omega), if_neg (fun z => z ⟨c19, c26, c41, c56⟩), if_neg (fun z => z c115), if_neg c136, if_neg c160, if_neg (fun z => z (hln ▸ c179))] <;> rfl⟩
                    · refine ev_aload_0 182 d_mo_readHandle_182 ?_
                      refine ev_bipush (9) 183 d_mo_readHandle_183 (by decide) ?_
                      refine ev_iload_3 185 d_mo_readHandle_185 ?_
                      refine mo_callv2 186 d_mo_readHandle_186 hZ kc_230 (mt_fails hZ _ _) (fun F1 B1 h => ?_)
                      obtain ⟨e1, e2⟩ := h
                      subst F1
                      subst B1
                      refine ev_goto 189 200 d_mo_readHandle_189 ?_
                      refine ev_vret 200 d_mo_readHandle_200 rfl ?_
                      exact ⟨_, _, rfl, rfl, by rw [mo_rh, if_neg hr, ← hy, nI_clamp (show jj < 2 ^ 31 by omega), if_neg (fun z => z ⟨c19, c26, c41, c56⟩), if_neg (fun z => z c115), if_neg c136, if_neg c160, if_pos (hln ▸ c179)] <;> rfl, by rw [mo_rh, if_neg hr, ← hy, nI_clamp (show jj < 2 ^ 31 by omega), if_neg (fun z => z ⟨c19, c26, c41, c56⟩), if_neg (fun z => z c115), if_neg c136, if_neg c160, if_pos (hln ▸ c179)] <;> rfl⟩
                  · replace c160 : B 18 (17 * ii + jj) = 0 := c160
                    refine ev_aload_0 163 d_mo_readHandle_163 ?_
                    refine ev_bipush (8) 164 d_mo_readHandle_164 (by decide) ?_
                    refine ev_iload_3 166 d_mo_readHandle_166 ?_
                    refine mo_callv2 167 d_mo_readHandle_167 hZ kc_230 (mt_fails hZ _ _) (fun F1 B1 h => ?_)
                    obtain ⟨e1, e2⟩ := h
                    subst F1
                    subst B1
                    refine ev_goto 170 200 d_mo_readHandle_170 ?_
                    refine ev_vret 200 d_mo_readHandle_200 rfl ?_
                    exact ⟨_, _, rfl, rfl, by rw [mo_rh, if_neg hr, ← hy, nI_clamp (show jj < 2 ^ 31 by omega), if_neg (fun z => z ⟨c19, c26, c41, c56⟩), if_neg (fun z => z c115), if_neg c136, if_pos c160] <;> rfl, by rw [mo_rh, if_neg hr, ← hy, nI_clamp (show jj < 2 ^ 31 by omega), if_neg (fun z => z ⟨c19, c26, c41, c56⟩), if_neg (fun z => z c115), if_neg c136, if_pos c160] <;> rfl⟩
                · replace c136 : B 2 tt = 12 := c136
                  refine ev_aload_0 139 d_mo_readHandle_139 ?_
                  refine mo_getr 140 17 21 d_mo_readHandle_140 lk_62 ?_
                  refine ev_iload_7 143 d_mo_readHandle_143 ?_
                  refine ev_dup2 145 d_mo_readHandle_145 ?_
                  refine mo_aldn (j := 17 * ii + jj) 146 17 21 d_mo_readHandle_146 (by show 17 * ii + jj < 102; omega) ?_
                  refine ev_iconst_1 147 d_mo_readHandle_147 ?_
                  refine ev_iadd 148 d_mo_readHandle_148 ?_
                  refine mo_astn (j := 17 * ii + jj) 149 17 21 d_mo_readHandle_149 (by show 17 * ii + jj < 102; omega) ?_
                  refine ev_goto 150 200 d_mo_readHandle_150 ?_
                  refine ev_vret 200 d_mo_readHandle_200 rfl ?_
                  exact ⟨_, _, rfl, rfl, by rw [mo_rh, if_neg hr, ← hy, nI_clamp (show jj < 2 ^ 31 by omega), if_neg (fun z => z ⟨c19, c26, c41, c56⟩), if_neg (fun z => z c115), if_pos c136] <;> rfl, by rw [mo_rh, if_neg hr, ← hy, nI_clamp (show jj < 2 ^ 31 by omega), if_neg (fun z => z ⟨c19, c26, c41, c56⟩), if_neg (fun z => z c115), if_pos c136] <;> rfl⟩
              · replace c115 : ¬ B 23 (B 17 (17 * ii + jj)).toNatClampNeg = B 3 tt := c115
                refine ev_aload_0 118 d_mo_readHandle_118 ?_
                refine ev_bipush (7) 119 d_mo_readHandle_119 (by decide) ?_
                refine ev_iload_3 121 d_mo_readHandle_121 ?_
                refine mo_callv2 122 d_mo_readHandle_122 hZ kc_230 (mt_fails hZ _ _) (fun F1 B1 h => ?_)
                obtain ⟨e1, e2⟩ := h
                subst F1
                subst B1
                refine ev_goto 125 200 d_mo_readHandle_125 ?_
                refine ev_vret 200 d_mo_readHandle_200 rfl ?_
                exact ⟨_, _, rfl, rfl, by rw [mo_rh, if_neg hr, ← hy, nI_clamp (show jj < 2 ^ 31 by omega), if_neg (fun z => z ⟨c19, c26, c41, c56⟩), if_pos c115] <;> rfl, by rw [mo_rh, if_neg hr, ← hy, nI_clamp (show jj < 2 ^ 31 by omega), if_neg (fun z => z ⟨c19, c26, c41, c56⟩), if_pos c115] <;> rfl⟩
            · exact absurd c68 (by decide)
  · refine ev_vret 15 d_mo_readHandle_15 rfl ?_
    rcases hb with ⟨a, -, b, -⟩ | ⟨-, -, -, z⟩
    · exact ⟨_, _, rfl, rfl, by rw [mo_rh, if_pos a]; exact b, by rw [mo_rh, if_pos a]⟩
    · exact absurd z c12

/-- a handle is written: a trap's code and place or none, the numbers, the tables -/
def mo_wh (F : Nat → Int32) (B : Nat → Nat → Int32) (J it : Nat) : (Nat → Int32) × (Nat → Nat → Int32) :=
  if mo_fh (B 16) (17 * J) 16 = 0 then (mo_fl F 12 (B 45 it), B) else
  (upd F 52 (F 52 + 1), va_up (va_up (va_up (va_up (va_up (va_up B 16 (upd (B 16) (17 * J + mo_fh (B 16) (17 * J) 16) 1)) 18 (upd (B 18) (17 * J + mo_fh (B 16) (17 * J) 16) (if B 2 (B 44 it).toNatClampNeg = 11 then 1 else 0))) 17 (upd (B 17) (17 * J + mo_fh (B 16) (17 * J) 16) (B 17 (B 48 it).toNatClampNeg))) 19 (upd (B 19) (17 * J + mo_fh (B 16) (17 * J) 16) (B 48 it))) 53 (upd (B 53) (F 52).toNatClampNeg (nI (17 * J + mo_fh (B 16) (17 * J) 16)))) 13 (mo_pb (B 13) (256 * J + (B 50 it).toNatClampNeg) (nI (mo_fh (B 16) (17 * J) 16)) 1))

set_option maxHeartbeats 4000000 in
set_option maxRecDepth 100000 in
theorem mt_writeHandle {l : Launch} {D : va_G} {tl : List (ClassId × FieldType)} {Z : (Nat → Prop) → State → Heap → Prop} {kI kZ : ClassId} {am : Nat → Nat} {F : Nat → Int32} {B : Nat → Nat → Int32} (hZ : ev_Zok Z) (J : Nat) (it : Nat) (hJ : J < 6) (hit : it < 200) (hu : vp_in (B 44 it) 32) (hf : vp_in (B 48 it) 102) (to : Nat) (hto : B 50 it = nI to) (hto2 : to + 1 ≤ 256) (hfr : ¬ mo_fh (B 16) (17 * J) 16 = 0 → vp_in (F 52) 16) : MT (mo_π l D cl_A kI kZ tl Z) m_writeHandle 0 0 [.ref (am 60), .int (nI J), .int (nI it)] (mo_W mo_ci am kI kZ F B) (mo_qv am kI kZ (fun F1 B1 => F1 = (mo_wh F B J it).1 ∧ B1 = (mo_wh F B J it).2)) := by
  refine mt_of mo_pl rfl (Nat.le_of_ble_eq_true rfl) (ev_eq (lv' := [some (.ref (am 60)), some (.int (nI J)), some (.int (nI it)), none, none]) ?_)
  refine ev_aload_0 0 d_mo_writeHandle_0 ?_
  refine ev_iload_1 1 d_mo_writeHandle_1 ?_
  refine mo_calli1 2 d_mo_writeHandle_2 hZ kc_215 (mt_freeHandle hZ J hJ) (fun y F1 B1 h => ?_)
  obtain ⟨rfl, e1, e2⟩ := h
  subst F1
  subst B1
  refine ev_istore_3 5 d_mo_writeHandle_5 ?_
  refine ev_iload_3 6 d_mo_writeHandle_6 ?_
  refine ev_ifne 7 23 d_mo_writeHandle_7 (fun c7 => ?_) (fun c7 => ?_)
  · refine ev_bipush (17) 23 d_mo_writeHandle_23 (by decide) ?_
    refine ev_iload_1 25 d_mo_writeHandle_25 ?_
    refine ev_imul 26 d_mo_writeHandle_26 ?_
    refine ev_iload_3 27 d_mo_writeHandle_27 ?_
    refine ev_iadd 28 d_mo_writeHandle_28 ?_
    refine ev_topi (nI (17 * J + mo_fh (B 16) (17 * J) 16)) (by rw [n_17, pk_mul, nI_add]) ?_
    refine ev_istore_4 29 d_mo_writeHandle_29 ?_
    refine ev_aload_0 31 d_mo_writeHandle_31 ?_
    refine mo_getr 32 12 16 d_mo_writeHandle_32 lk_46 ?_
    refine ev_iload_4 35 d_mo_writeHandle_35 ?_
    refine ev_iconst_1 37 d_mo_writeHandle_37 ?_
    refine mo_zstn (j := 17 * J + mo_fh (B 16) (17 * J) 16) 38 12 16 d_mo_writeHandle_38 (by have := mo_fh_le (B 16) (17 * J) 16; show 17 * J + mo_fh (B 16) (17 * J) 16 < 102; omega) (by exact Or.inr rfl) ?_
    refine ev_aload_0 39 d_mo_writeHandle_39 ?_
    refine mo_getr 40 14 18 d_mo_writeHandle_40 lk_53 ?_
    refine ev_iload_4 43 d_mo_writeHandle_43 ?_
    refine ev_aload_0 45 d_mo_writeHandle_45 ?_
    refine mo_getr 46 0 2 d_mo_writeHandle_46 lk_7 ?_
    refine ev_aload_0 49 d_mo_writeHandle_49 ?_
    refine mo_getr 50 32 44 d_mo_writeHandle_50 lk_111 ?_
    refine ev_iload_2 53 d_mo_writeHandle_53 ?_
    refine mo_aldn (j := it) 54 32 44 d_mo_writeHandle_54 (by exact hit) ?_
    refine mo_ald 55 0 2 d_mo_writeHandle_55 (by exact hu) ?_
    refine ev_bipush (11) 56 d_mo_writeHandle_56 (by decide) ?_
    refine ev_icmpne 58 65 d_mo_writeHandle_58 (fun c58 => ?_) (fun c58 => ?_)
    · replace c58 : ¬ B 2 (B 44 it).toNatClampNeg = 11 := c58
      refine ev_iconst_0 65 d_mo_writeHandle_65 ?_
      refine mo_zstn (j := 17 * J + mo_fh (B 16) (17 * J) 16) 66 14 18 d_mo_writeHandle_66 (by have := mo_fh_le (B 16) (17 * J) 16; show 17 * J + mo_fh (B 16) (17 * J) 16 < 102; omega) (by first | exact Or.inl rfl | exact Or.inr rfl) ?_
      refine ev_aload_0 67 d_mo_writeHandle_67 ?_
      refine mo_getr 68 13 17 d_mo_writeHandle_68 lk_50 ?_
      refine ev_iload_4 71 d_mo_writeHandle_71 ?_
      refine ev_aload_0 73 d_mo_writeHandle_73 ?_
      refine mo_getr 74 13 17 d_mo_writeHandle_74 lk_50 ?_
      refine ev_aload_0 77 d_mo_writeHandle_77 ?_
      refine mo_getr 78 36 48 d_mo_writeHandle_78 lk_123 ?_
      refine ev_iload_2 81 d_mo_writeHandle_81 ?_
      refine mo_aldn (j := it) 82 36 48 d_mo_writeHandle_82 (by exact hit) ?_
      refine mo_ald 83 13 17 d_mo_writeHandle_83 (by exact hf) ?_
      refine mo_astn (j := 17 * J + mo_fh (B 16) (17 * J) 16) 84 13 17 d_mo_writeHandle_84 (by have := mo_fh_le (B 16) (17 * J) 16; show 17 * J + mo_fh (B 16) (17 * J) 16 < 102; omega) ?_
      refine ev_aload_0 85 d_mo_writeHandle_85 ?_
      refine mo_getr 86 15 19 d_mo_writeHandle_86 lk_56 ?_
      refine ev_iload_4 89 d_mo_writeHandle_89 ?_
      refine ev_aload_0 91 d_mo_writeHandle_91 ?_
      refine mo_getr 92 36 48 d_mo_writeHandle_92 lk_123 ?_
      refine ev_iload_2 95 d_mo_writeHandle_95 ?_
      refine mo_aldn (j := it) 96 36 48 d_mo_writeHandle_96 (by exact hit) ?_
      refine mo_astn (j := 17 * J + mo_fh (B 16) (17 * J) 16) 97 15 19 d_mo_writeHandle_97 (by have := mo_fh_le (B 16) (17 * J) 16; show 17 * J + mo_fh (B 16) (17 * J) 16 < 102; omega) ?_
      refine ev_aload_0 98 d_mo_writeHandle_98 ?_
      refine mo_getr 99 40 53 d_mo_writeHandle_99 lk_135 ?_
      refine ev_aload_0 102 d_mo_writeHandle_102 ?_
      refine mo_geti 103 52 d_mo_writeHandle_103 lk_260 ?_
      refine ev_iload_4 106 d_mo_writeHandle_106 ?_
      refine mo_ast 108 40 53 d_mo_writeHandle_108 (by exact hfr (fun z => c7 (by rw [z]; rfl))) ?_
      refine ev_aload_0 109 d_mo_writeHandle_109 ?_
      refine ev_dup_a 110 d_mo_writeHandle_110 ?_
      refine mo_geti 111 52 d_mo_writeHandle_111 lk_260 ?_
      refine ev_iconst_1 114 d_mo_writeHandle_114 ?_
      refine ev_iadd 115 d_mo_writeHandle_115 ?_
      refine mo_puti 116 52 d_mo_writeHandle_116 lp_260 ?_
      refine ev_aload_0 119 d_mo_writeHandle_119 ?_
      refine ev_iload_1 120 d_mo_writeHandle_120 ?_
      refine ev_aload_0 121 d_mo_writeHandle_121 ?_
      refine mo_getr 122 38 50 d_mo_writeHandle_122 lk_129 ?_
      refine ev_iload_2 125 d_mo_writeHandle_125 ?_
      refine mo_aldn (j := it) 126 38 50 d_mo_writeHandle_126 (by exact hit) ?_
      refine ev_topi (nI to) hto ?_
      refine ev_iconst_1 127 d_mo_writeHandle_127 ?_
      refine ev_iload_3 128 d_mo_writeHandle_128 ?_
      refine mo_callv4 129 d_mo_writeHandle_129 hZ kc_263 (mt_put hZ J to 1 (nI (mo_fh (B 16) (17 * J) 16)) hJ hto2) (fun F1 B1 h => ?_)
      obtain ⟨e1, e2⟩ := h
      subst F1
      subst B1
      refine ev_vret 132 d_mo_writeHandle_132 rfl ?_
      have hz : ¬ mo_fh (B 16) (17 * J) 16 = 0 := fun z => c7 (by rw [z]; rfl)
      exact ⟨_, _, rfl, rfl, by rw [mo_wh, if_neg hz], by rw [mo_wh, if_neg hz, if_neg c58, hto, nI_clamp (by omega)]; rfl⟩
    · replace c58 : B 2 (B 44 it).toNatClampNeg = 11 := c58
      refine ev_iconst_1 61 d_mo_writeHandle_61 ?_
      refine ev_goto 62 66 d_mo_writeHandle_62 ?_
      refine mo_zstn (j := 17 * J + mo_fh (B 16) (17 * J) 16) 66 14 18 d_mo_writeHandle_66 (by have := mo_fh_le (B 16) (17 * J) 16; show 17 * J + mo_fh (B 16) (17 * J) 16 < 102; omega) (by first | exact Or.inl rfl | exact Or.inr rfl) ?_
      refine ev_aload_0 67 d_mo_writeHandle_67 ?_
      refine mo_getr 68 13 17 d_mo_writeHandle_68 lk_50 ?_
      refine ev_iload_4 71 d_mo_writeHandle_71 ?_
      refine ev_aload_0 73 d_mo_writeHandle_73 ?_
      refine mo_getr 74 13 17 d_mo_writeHandle_74 lk_50 ?_
      refine ev_aload_0 77 d_mo_writeHandle_77 ?_
      refine mo_getr 78 36 48 d_mo_writeHandle_78 lk_123 ?_
      refine ev_iload_2 81 d_mo_writeHandle_81 ?_
      refine mo_aldn (j := it) 82 36 48 d_mo_writeHandle_82 (by exact hit) ?_
      refine mo_ald 83 13 17 d_mo_writeHandle_83 (by exact hf) ?_
      refine mo_astn (j := 17 * J + mo_fh (B 16) (17 * J) 16) 84 13 17 d_mo_writeHandle_84 (by have := mo_fh_le (B 16) (17 * J) 16; show 17 * J + mo_fh (B 16) (17 * J) 16 < 102; omega) ?_
      refine ev_aload_0 85 d_mo_writeHandle_85 ?_
      refine mo_getr 86 15 19 d_mo_writeHandle_86 lk_56 ?_
      refine ev_iload_4 89 d_mo_writeHandle_89 ?_
      refine ev_aload_0 91 d_mo_writeHandle_91 ?_
      refine mo_getr 92 36 48 d_mo_writeHandle_92 lk_123 ?_
      refine ev_iload_2 95 d_mo_writeHandle_95 ?_
      refine mo_aldn (j := it) 96 36 48 d_mo_writeHandle_96 (by exact hit) ?_
      refine mo_astn (j := 17 * J + mo_fh (B 16) (17 * J) 16) 97 15 19 d_mo_writeHandle_97 (by have := mo_fh_le (B 16) (17 * J) 16; show 17 * J + mo_fh (B 16) (17 * J) 16 < 102; omega) ?_
      refine ev_aload_0 98 d_mo_writeHandle_98 ?_
      refine mo_getr 99 40 53 d_mo_writeHandle_99 lk_135 ?_
      refine ev_aload_0 102 d_mo_writeHandle_102 ?_
      refine mo_geti 103 52 d_mo_writeHandle_103 lk_260 ?_
      refine ev_iload_4 106 d_mo_writeHandle_106 ?_
      refine mo_ast 108 40 53 d_mo_writeHandle_108 (by exact hfr (fun z => c7 (by rw [z]; rfl))) ?_
      refine ev_aload_0 109 d_mo_writeHandle_109 ?_
      refine ev_dup_a 110 d_mo_writeHandle_110 ?_
      refine mo_geti 111 52 d_mo_writeHandle_111 lk_260 ?_
      refine ev_iconst_1 114 d_mo_writeHandle_114 ?_
      refine ev_iadd 115 d_mo_writeHandle_115 ?_
      refine mo_puti 116 52 d_mo_writeHandle_116 lp_260 ?_
      refine ev_aload_0 119 d_mo_writeHandle_119 ?_
      refine ev_iload_1 120 d_mo_writeHandle_120 ?_
      refine ev_aload_0 121 d_mo_writeHandle_121 ?_
      refine mo_getr 122 38 50 d_mo_writeHandle_122 lk_129 ?_
      refine ev_iload_2 125 d_mo_writeHandle_125 ?_
      refine mo_aldn (j := it) 126 38 50 d_mo_writeHandle_126 (by exact hit) ?_
      refine ev_topi (nI to) hto ?_
      refine ev_iconst_1 127 d_mo_writeHandle_127 ?_
      refine ev_iload_3 128 d_mo_writeHandle_128 ?_
      refine mo_callv4 129 d_mo_writeHandle_129 hZ kc_263 (mt_put hZ J to 1 (nI (mo_fh (B 16) (17 * J) 16)) hJ hto2) (fun F1 B1 h => ?_)
      obtain ⟨e1, e2⟩ := h
      subst F1
      subst B1
      refine ev_vret 132 d_mo_writeHandle_132 rfl ?_
      have hz : ¬ mo_fh (B 16) (17 * J) 16 = 0 := fun z => c7 (by rw [z]; rfl)
      exact ⟨_, _, rfl, rfl, by rw [mo_wh, if_neg hz], by rw [mo_wh, if_neg hz, if_pos c58, hto, nI_clamp (by omega)]; rfl⟩
  · refine ev_aload_0 10 d_mo_writeHandle_10 ?_
    refine ev_bipush (12) 11 d_mo_writeHandle_11 (by decide) ?_
    refine ev_aload_0 13 d_mo_writeHandle_13 ?_
    refine mo_getr 14 33 45 d_mo_writeHandle_14 lk_114 ?_
    refine ev_iload_2 17 d_mo_writeHandle_17 ?_
    refine mo_aldn (j := it) 18 33 45 d_mo_writeHandle_18 (by exact hit) ?_
    refine mo_callv2 19 d_mo_writeHandle_19 hZ kc_230 (mt_fails hZ _ _) (fun F1 B1 h => ?_)
    obtain ⟨e1, e2⟩ := h
    subst F1
    subst B1
    refine ev_vret 22 d_mo_writeHandle_22 rfl ?_
    have hz := (n_z (by have := mo_fh_le (B 16) (17 * J) 16; omega)).mp c7
    exact ⟨_, _, rfl, rfl, by rw [mo_wh, if_pos hz], by rw [mo_wh, if_pos hz]⟩
