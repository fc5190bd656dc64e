abbrev aDx (r : Nat → Int32) : Int32 := -(if r 5 = 3 then (1 : Int32) else -1) * rSg (r 11)
abbrev aDy (r : Nat → Int32) : Int32 := (if r 5 = 3 then (1 : Int32) else -1) * rSg (r 10)
def aOff (r : Nat → Int32) (x y : Int32) : Int32 := rSz ((r 10 + x) * (r 10 + x) + (r 11 + y) * (r 11 + y) - (r 6 * r 6 + r (6 + 1) * r (6 + 1)))
def aIs (may best least off : Int32) : Int32 := if may = 0 then 0 else if best = 0 then 1 else if least ≤ off then 0 else 1
def aB1 (dx : Int32) : Int32 := if (if (if dx = 0 then 0 else 1 : Int32) = 0 then 0 else 1 : Int32) = 0 then 0 else 1
def aL1 (dx o1 : Int32) : Int32 := if (if (if dx = 0 then 0 else 1 : Int32) = 0 then 0 else 1 : Int32) = 0 then 0 else o1
def aI2 (dx dy o1 o2 : Int32) : Int32 := aIs (if dy = 0 then 0 else 1) (aB1 dx) (aL1 dx o1) o2
def aB2 (dx dy o1 o2 : Int32) : Int32 := if aI2 dx dy o1 o2 = 0 then aB1 dx else 2
def aL2 (dx dy o1 o2 : Int32) : Int32 := if aI2 dx dy o1 o2 = 0 then aL1 dx o1 else o2
def aB3 (dx dy o1 o2 o3 : Int32) : Int32 := if aIs (if dx = 0 then 0 else if dy = 0 then 0 else 1) (aB2 dx dy o1 o2) (aL2 dx dy o1 o2) o3 = 0 then aB2 dx dy o1 o2 else 3
def aBest (r : Nat → Int32) : Int32 := aB3 (aDx r) (aDy r) (aOff r (aDx r) 0) (aOff r 0 (aDy r)) (aOff r (aDx r) (aDy r))
def aX (r : Nat → Int32) : Int32 := if aBest r = 2 then 0 else aDx r
def aY (r : Nat → Int32) : Int32 := if aBest r = 1 then 0 else aDy r
def arR (r : Nat → Int32) : Nat → Int32 := upd (upd r 10 (r 10 + aX r)) 11 ((upd r 10 (r 10 + aX r)) 11 + aY r)
def arS (r mv : Nat → Int32) : (Nat → Int32) × (Nat → Int32) := (upd (upd (arR r) 0 (arR r 0 + aX r)) 1 (upd (arR r) 0 (arR r 0 + aX r) 1 + aY r), upd (upd mv 0 (mv 0 + aX r)) 1 (upd mv 0 (mv 0 + aX r) 1 + aY r))
set_option maxHeartbeats 400000 in
set_option maxRecDepth 100000 in
theorem cn_X8_arc {h : ax_H} {n : Nat} {M : Nat} {un iu td aT nu ab be : Int32} {tp mv rd ms mn la : Nat → Int32} {W : Nat → Nat → Int32} {r : Nat → Int32} {q : Nat} {it tk : Nat → Int64} (hq : q < 15) : ax_C yX8_arc cX8_arc 14 none 1 0 0 [.ref M, .int (nI (61 * q))] (mU h M un iu td aT nu ab be (jn (va_up W q r)) tp mv rd ms mn la it tk) n (kv (mU h M un iu td aT nu ab be (jn (va_up W q (arS r mv).1)) tp ((arS r mv).2) rd ms mn la it tk) n) := by
  refine ax_C.go RX8 "arc" [some (.ref M), some (.int (nI (61 * q))), none, none, none, none, none, none, none, none, none, none, none, none] rfl rfl pn_X8 (lb rfl) rfl (fun l G cy bs => ?_)
  refine al0 dX8_arc_0 ?_
  refine g_X8_7 dX8_arc_1 mU_0 ?_
  refine il1 dX8_arc_4 ?_
  refine xt_iconst (5) dX8_arc_5 rfl ?_
  refine xt_iadd dX8_arc_6 ?_
  refine xt_iald (61 * q + 5) mU_1 (by omega) (ne_add (a := 61 * q) (b := 5) rfl rfl) (by decide) dX8_arc_7 ?_
  refine xt_top (congrArg Value.int (jnr (c := 5) (by omega) (by omega))) ?_
  refine xt_iconst (3) dX8_arc_8 rfl ?_
  apply xj_icmp_ne 16 dX8_arc_9 rfl
  · intro k9
    refine ⟨fun c9 => ?_, fun c9 => ?_⟩
    · refine xt_iconst (-1) dX8_arc_16 rfl ?_
      exact xt_in1 k9 c9
    · refine xt_iconst (1) dX8_arc_12 rfl ?_
      refine xt_goto 17 dX8_arc_13 rfl ?_
      exact xt_in2 k9 c9
  · skip
    refine is2 dX8_arc_17 (by decide) rfl ?_
    refine il2 dX8_arc_18 ?_
    refine xt_ineg dX8_arc_19 ?_
    refine al0 dX8_arc_20 ?_
    refine g_X8_7 dX8_arc_21 mU_0 ?_
    refine il1 dX8_arc_24 ?_
    refine xt_bipush (11) dX8_arc_25 rfl ?_
    refine xt_iadd dX8_arc_27 ?_
    refine xt_iald (61 * q + 11) mU_1 (by omega) (ne_add (a := 61 * q) (b := 11) rfl rfl) (by decide) dX8_arc_28 ?_
    refine xt_top (congrArg Value.int (jnr (c := 11) (by omega) (by omega))) ?_
    refine s_X8_90 dX8_arc_29 (cn_X8_sign _) ⟨lb rfl, lb rfl, lb rfl, lb rfl⟩ ?_
    refine xt_imul dX8_arc_32 ?_
    refine xt_nm (fun dx e_dx => ?_)
    refine is3 dX8_arc_33 (by decide) rfl ?_
    refine il2 dX8_arc_34 ?_
    refine al0 dX8_arc_35 ?_
    refine g_X8_7 dX8_arc_36 mU_0 ?_
    refine il1 dX8_arc_39 ?_
    refine xt_bipush (10) dX8_arc_40 rfl ?_
    refine xt_iadd dX8_arc_42 ?_
    refine xt_iald (61 * q + 10) mU_1 (by omega) (ne_add (a := 61 * q) (b := 10) rfl rfl) (by decide) dX8_arc_43 ?_
    refine xt_top (congrArg Value.int (jnr (c := 10) (by omega) (by omega))) ?_
    refine s_X8_90 dX8_arc_44 (cn_X8_sign _) ⟨lb rfl, lb rfl, lb rfl, lb rfl⟩ ?_
    refine xt_imul dX8_arc_47 ?_
    refine xt_nm (fun dy e_dy => ?_)
    refine is4 dX8_arc_48 (by decide) rfl ?_
    refine al0 dX8_arc_50 ?_
    refine g_X8_7 dX8_arc_51 mU_0 ?_
    refine il1 dX8_arc_54 ?_
    refine xt_bipush (6) dX8_arc_55 rfl ?_
    refine xt_iadd dX8_arc_57 ?_
    refine xt_iald (61 * q + 6) mU_1 (by omega) (ne_add (a := 61 * q) (b := 6) rfl rfl) (by decide) dX8_arc_58 ?_
    refine xt_top (congrArg Value.int (jnr (c := 6) (by omega) (by omega))) ?_
    refine al0 dX8_arc_59 ?_
    refine g_X8_7 dX8_arc_60 mU_0 ?_
    refine il1 dX8_arc_63 ?_
    refine xt_bipush (6) dX8_arc_64 rfl ?_
    refine xt_iadd dX8_arc_66 ?_
    refine xt_iald (61 * q + 6) mU_1 (by omega) (ne_add (a := 61 * q) (b := 6) rfl rfl) (by decide) dX8_arc_67 ?_
    refine xt_top (congrArg Value.int (jnr (c := 6) (by omega) (by omega))) ?_
    refine xt_imul dX8_arc_68 ?_
    refine al0 dX8_arc_69 ?_
    refine g_X8_7 dX8_arc_70 mU_0 ?_
    refine il1 dX8_arc_73 ?_
    refine xt_bipush (6) dX8_arc_74 rfl ?_
    refine xt_iadd dX8_arc_76 ?_
    refine xt_iconst (1) dX8_arc_77 rfl ?_
    refine xt_iadd dX8_arc_78 ?_
    refine xt_iald (61 * q + 6 + 1) mU_1 (by omega) (ne_add (a := 61 * q + 6) (b := 1) (ne_add (a := 61 * q) (b := 6) rfl rfl) rfl) (by decide) dX8_arc_79 ?_
    refine xt_top (congrArg Value.int (jnr (c := 6 + 1) (by omega) (by omega))) ?_
    refine al0 dX8_arc_80 ?_
    refine g_X8_7 dX8_arc_81 mU_0 ?_
    refine il1 dX8_arc_84 ?_
    refine xt_bipush (6) dX8_arc_85 rfl ?_
    refine xt_iadd dX8_arc_87 ?_
    refine xt_iconst (1) dX8_arc_88 rfl ?_
    refine xt_iadd dX8_arc_89 ?_
    refine xt_iald (61 * q + 6 + 1) mU_1 (by omega) (ne_add (a := 61 * q + 6) (b := 1) (ne_add (a := 61 * q) (b := 6) rfl rfl) rfl) (by decide) dX8_arc_90 ?_
    refine xt_top (congrArg Value.int (jnr (c := 6 + 1) (by omega) (by omega))) ?_
    refine xt_imul dX8_arc_91 ?_
    refine xt_iadd dX8_arc_92 ?_
    refine xt_nm (fun due e_due => ?_)
    refine is5 dX8_arc_93 (by decide) rfl ?_
    refine xt_iconst (0) dX8_arc_95 rfl ?_
    refine is6 dX8_arc_96 (by decide) rfl ?_
    refine xt_iconst (0) dX8_arc_98 rfl ?_
    refine is7 dX8_arc_99 (by decide) rfl ?_
    refine xt_iconst (1) dX8_arc_101 rfl ?_
    refine is8 dX8_arc_102 (by decide) rfl ?_
    refine il8 dX8_arc_104 ?_
    refine xt_iconst (4) dX8_arc_106 rfl ?_
    refine xt_icmp_ge 262 dX8_arc_107 rfl (fun q => absurd q (by decide)) (fun _ => ?_)
    refine il8 dX8_arc_110 ?_
    refine xt_iconst (2) dX8_arc_112 rfl ?_
    refine xt_icmp_eq 120 dX8_arc_113 rfl (fun q => absurd q (by decide)) (fun _ => ?_)
    refine il3 dX8_arc_116 ?_
    apply xj_if_eq 135 dX8_arc_117 rfl
    · intro k117
      refine ⟨fun c117 => ?_, fun c117 => ?_⟩
      · refine xt_iconst (0) dX8_arc_135 rfl ?_
        exact xt_it1 k117 c117
      · refine il8 dX8_arc_120 ?_
        refine xt_iconst (1) dX8_arc_122 rfl ?_
        refine xt_icmp_eq 131 dX8_arc_123 rfl (fun _ => ?_) (fun q => absurd (by decide) q)
        refine xt_iconst (1) dX8_arc_131 rfl ?_
        refine xt_goto 136 dX8_arc_132 rfl ?_
        exact xt_it2 k117 c117
    · skip
      refine is9 dX8_arc_136 (by decide) rfl ?_
      refine al0 dX8_arc_138 ?_
      refine g_X8_7 dX8_arc_139 mU_0 ?_
      refine il1 dX8_arc_142 ?_
      refine xt_bipush (10) dX8_arc_143 rfl ?_
      refine xt_iadd dX8_arc_145 ?_
      refine xt_iald (61 * q + 10) mU_1 (by omega) (ne_add (a := 61 * q) (b := 10) rfl rfl) (by decide) dX8_arc_146 ?_
      refine xt_top (congrArg Value.int (jnr (c := 10) (by omega) (by omega))) ?_
      refine il8 dX8_arc_147 ?_
      refine xt_iconst (2) dX8_arc_149 rfl ?_
      refine xt_icmp_ne 157 dX8_arc_150 rfl (fun _ => ?_) (fun q => absurd q (by decide))
      refine il3 dX8_arc_157 ?_
      refine xt_iadd dX8_arc_158 ?_
      refine is10 dX8_arc_159 (by decide) rfl ?_
      refine al0 dX8_arc_161 ?_
      refine g_X8_7 dX8_arc_162 mU_0 ?_
      refine il1 dX8_arc_165 ?_
      refine xt_bipush (11) dX8_arc_166 rfl ?_
      refine xt_iadd dX8_arc_168 ?_
      refine xt_iald (61 * q + 11) mU_1 (by omega) (ne_add (a := 61 * q) (b := 11) rfl rfl) (by decide) dX8_arc_169 ?_
      refine xt_top (congrArg Value.int (jnr (c := 11) (by omega) (by omega))) ?_
      refine il8 dX8_arc_170 ?_
      refine xt_iconst (1) dX8_arc_172 rfl ?_
      refine xt_icmp_ne 180 dX8_arc_173 rfl (fun q => absurd (by decide) q) (fun _ => ?_)
      refine xt_iconst (0) dX8_arc_176 rfl ?_
      refine xt_goto 182 dX8_arc_177 rfl ?_
      refine xt_iadd dX8_arc_182 ?_
      refine is11 dX8_arc_183 (by decide) rfl ?_
      refine il10 dX8_arc_185 ?_
      refine il10 dX8_arc_187 ?_
      refine xt_imul dX8_arc_189 ?_
      refine il11 dX8_arc_190 ?_
      refine il11 dX8_arc_192 ?_
      refine xt_imul dX8_arc_194 ?_
      refine xt_iadd dX8_arc_195 ?_
      refine il5 dX8_arc_196 ?_
      refine xt_isub dX8_arc_198 ?_
      refine s_X8_65 dX8_arc_199 (cn_X8_size _) ⟨lb rfl, lb rfl, lb rfl, lb rfl⟩ ?_
      refine xt_nm (fun so1 e_so1 => ?_)
      refine is12 dX8_arc_202 (by decide) rfl ?_
      refine il9 dX8_arc_204 ?_
      apply xj_if_eq 225 dX8_arc_206 rfl
      · intro k206
        refine ⟨fun c206 => ?_, fun c206 => ?_⟩
        · refine xt_iconst (0) dX8_arc_225 rfl ?_
          exact xt_it1 k206 c206
        · refine il6 dX8_arc_209 ?_
          apply xj_if_eq 221 dX8_arc_211 rfl
          · intro k211
            refine ⟨fun c211 => ?_, fun c211 => ?_⟩
            · refine xt_iconst (1) dX8_arc_221 rfl ?_
              refine xt_goto 226 dX8_arc_222 rfl ?_
              exact xt_it1 k211 c211
            · refine il12 dX8_arc_214 ?_
              refine il7 dX8_arc_216 ?_
              apply xj_icmp_ge 225 dX8_arc_218 rfl
              · intro k218
                refine ⟨fun c218 => ?_, fun c218 => ?_⟩
                · refine xt_iconst (0) dX8_arc_225 rfl ?_
                  exact xt_it1 k218 c218
                · refine xt_iconst (1) dX8_arc_221 rfl ?_
                  refine xt_goto 226 dX8_arc_222 rfl ?_
                  exact xt_it2 k218 c218
              · skip
                exact xt_it2 k211 c211
          · skip
            exact xt_it2 k206 c206
      · skip
        refine xt_nm (fun si1 e_si1 => ?_)
        refine is13 dX8_arc_226 (by decide) rfl ?_
        refine il13 dX8_arc_228 ?_
        apply xj_if_eq 238 dX8_arc_230 rfl
        · intro k230
          refine ⟨fun c230 => ?_, fun c230 => ?_⟩
          · refine il6 dX8_arc_238 ?_
            exact xt_it1 k230 c230
          · refine il8 dX8_arc_233 ?_
            refine xt_goto 240 dX8_arc_235 rfl ?_
            exact xt_it2 k230 c230
        · skip
          refine xt_nm (fun sb1 e_sb1 => ?_)
          refine is6 dX8_arc_240 (by decide) rfl ?_
          refine il13 dX8_arc_242 ?_
          apply xj_if_eq 252 dX8_arc_244 rfl
          · intro k244
            refine ⟨fun c244 => ?_, fun c244 => ?_⟩
            · refine il7 dX8_arc_252 ?_
              exact xt_it1 k244 c244
            · refine il12 dX8_arc_247 ?_
              refine xt_goto 254 dX8_arc_249 rfl ?_
              exact xt_it2 k244 c244
          · skip
            refine xt_nm (fun sl1 e_sl1 => ?_)
            refine is7 dX8_arc_254 (by decide) rfl ?_
            refine inc8 (2) dX8_arc_256 rfl (by decide) rfl ?_
            refine xt_goto 104 dX8_arc_259 rfl ?_
            refine il8 dX8_arc_104 ?_
            refine xt_iconst (4) dX8_arc_106 rfl ?_
            refine xt_icmp_ge 262 dX8_arc_107 rfl (fun q => absurd q (by decide)) (fun _ => ?_)
            refine il8 dX8_arc_110 ?_
            refine xt_iconst (2) dX8_arc_112 rfl ?_
            refine xt_icmp_eq 120 dX8_arc_113 rfl (fun _ => ?_) (fun q => absurd (by decide) q)
            refine il8 dX8_arc_120 ?_
            refine xt_iconst (1) dX8_arc_122 rfl ?_
            refine xt_icmp_eq 131 dX8_arc_123 rfl (fun q => absurd q (by decide)) (fun _ => ?_)
            refine il4 dX8_arc_126 ?_
            apply xj_if_eq 135 dX8_arc_128 rfl
            · intro k128
              refine ⟨fun c128 => ?_, fun c128 => ?_⟩
              · refine xt_iconst (0) dX8_arc_135 rfl ?_
                exact xt_it1 k128 c128
              · refine xt_iconst (1) dX8_arc_131 rfl ?_
                refine xt_goto 136 dX8_arc_132 rfl ?_
                exact xt_it2 k128 c128
            · skip
              refine is9 dX8_arc_136 (by decide) rfl ?_
              refine al0 dX8_arc_138 ?_
              refine g_X8_7 dX8_arc_139 mU_0 ?_
              refine il1 dX8_arc_142 ?_
              refine xt_bipush (10) dX8_arc_143 rfl ?_
              refine xt_iadd dX8_arc_145 ?_
              refine xt_iald (61 * q + 10) mU_1 (by omega) (ne_add (a := 61 * q) (b := 10) rfl rfl) (by decide) dX8_arc_146 ?_
              refine xt_top (congrArg Value.int (jnr (c := 10) (by omega) (by omega))) ?_
              refine il8 dX8_arc_147 ?_
              refine xt_iconst (2) dX8_arc_149 rfl ?_
              refine xt_icmp_ne 157 dX8_arc_150 rfl (fun q => absurd (by decide) q) (fun _ => ?_)
              refine xt_iconst (0) dX8_arc_153 rfl ?_
              refine xt_goto 158 dX8_arc_154 rfl ?_
              refine xt_iadd dX8_arc_158 ?_
              refine is10 dX8_arc_159 (by decide) rfl ?_
              refine al0 dX8_arc_161 ?_
              refine g_X8_7 dX8_arc_162 mU_0 ?_
              refine il1 dX8_arc_165 ?_
              refine xt_bipush (11) dX8_arc_166 rfl ?_
              refine xt_iadd dX8_arc_168 ?_
              refine xt_iald (61 * q + 11) mU_1 (by omega) (ne_add (a := 61 * q) (b := 11) rfl rfl) (by decide) dX8_arc_169 ?_
              refine xt_top (congrArg Value.int (jnr (c := 11) (by omega) (by omega))) ?_
              refine il8 dX8_arc_170 ?_
              refine xt_iconst (1) dX8_arc_172 rfl ?_
              refine xt_icmp_ne 180 dX8_arc_173 rfl (fun _ => ?_) (fun q => absurd q (by decide))
              refine il4 dX8_arc_180 ?_
              refine xt_iadd dX8_arc_182 ?_
              refine is11 dX8_arc_183 (by decide) rfl ?_
              refine il10 dX8_arc_185 ?_
              refine il10 dX8_arc_187 ?_
              refine xt_imul dX8_arc_189 ?_
              refine il11 dX8_arc_190 ?_
              refine il11 dX8_arc_192 ?_
              refine xt_imul dX8_arc_194 ?_
              refine xt_iadd dX8_arc_195 ?_
              refine il5 dX8_arc_196 ?_
              refine xt_isub dX8_arc_198 ?_
              refine s_X8_65 dX8_arc_199 (cn_X8_size _) ⟨lb rfl, lb rfl, lb rfl, lb rfl⟩ ?_
              refine xt_nm (fun so2 e_so2 => ?_)
              refine is12 dX8_arc_202 (by decide) rfl ?_
              refine il9 dX8_arc_204 ?_
              apply xj_if_eq 225 dX8_arc_206 rfl
              · intro k206
                refine ⟨fun c206 => ?_, fun c206 => ?_⟩
                · refine xt_iconst (0) dX8_arc_225 rfl ?_
                  exact xt_it1 k206 c206
                · refine il6 dX8_arc_209 ?_
                  apply xj_if_eq 221 dX8_arc_211 rfl
                  · intro k211
                    refine ⟨fun c211 => ?_, fun c211 => ?_⟩
                    · refine xt_iconst (1) dX8_arc_221 rfl ?_
                      refine xt_goto 226 dX8_arc_222 rfl ?_
                      exact xt_it1 k211 c211
                    · refine il12 dX8_arc_214 ?_
                      refine il7 dX8_arc_216 ?_
                      apply xj_icmp_ge 225 dX8_arc_218 rfl
                      · intro k218
                        refine ⟨fun c218 => ?_, fun c218 => ?_⟩
                        · refine xt_iconst (0) dX8_arc_225 rfl ?_
                          exact xt_it1 k218 c218
                        · refine xt_iconst (1) dX8_arc_221 rfl ?_
                          refine xt_goto 226 dX8_arc_222 rfl ?_
                          exact xt_it2 k218 c218
                      · skip
                        exact xt_it2 k211 c211
                  · skip
                    exact xt_it2 k206 c206
              · skip
                refine xt_nm (fun si2 e_si2 => ?_)
                refine is13 dX8_arc_226 (by decide) rfl ?_
                refine il13 dX8_arc_228 ?_
                apply xj_if_eq 238 dX8_arc_230 rfl
                · intro k230
                  refine ⟨fun c230 => ?_, fun c230 => ?_⟩
                  · refine il6 dX8_arc_238 ?_
                    exact xt_it1 k230 c230
                  · refine il8 dX8_arc_233 ?_
                    refine xt_goto 240 dX8_arc_235 rfl ?_
                    exact xt_it2 k230 c230
                · skip
                  refine xt_nm (fun sb2 e_sb2 => ?_)
                  refine is6 dX8_arc_240 (by decide) rfl ?_
                  refine il13 dX8_arc_242 ?_
                  apply xj_if_eq 252 dX8_arc_244 rfl
                  · intro k244
                    refine ⟨fun c244 => ?_, fun c244 => ?_⟩
                    · refine il7 dX8_arc_252 ?_
                      exact xt_it1 k244 c244
                    · refine il12 dX8_arc_247 ?_
                      refine xt_goto 254 dX8_arc_249 rfl ?_
                      exact xt_it2 k244 c244
                  · skip
                    refine xt_nm (fun sl2 e_sl2 => ?_)
                    refine is7 dX8_arc_254 (by decide) rfl ?_
                    refine inc8 (3) dX8_arc_256 rfl (by decide) rfl ?_
                    refine xt_goto 104 dX8_arc_259 rfl ?_
                    refine il8 dX8_arc_104 ?_
                    refine xt_iconst (4) dX8_arc_106 rfl ?_
                    refine xt_icmp_ge 262 dX8_arc_107 rfl (fun q => absurd q (by decide)) (fun _ => ?_)
                    refine il8 dX8_arc_110 ?_
                    refine xt_iconst (2) dX8_arc_112 rfl ?_
                    refine xt_icmp_eq 120 dX8_arc_113 rfl (fun q => absurd q (by decide)) (fun _ => ?_)
                    refine il3 dX8_arc_116 ?_
                    apply xj_if_eq 135 dX8_arc_117 rfl
                    · intro k117
                      refine ⟨fun c117 => ?_, fun c117 => ?_⟩
                      · refine xt_iconst (0) dX8_arc_135 rfl ?_
                        exact xt_it1 k117 c117
                      · refine il8 dX8_arc_120 ?_
                        refine xt_iconst (1) dX8_arc_122 rfl ?_
                        refine xt_icmp_eq 131 dX8_arc_123 rfl (fun q => absurd q (by decide)) (fun _ => ?_)
                        refine il4 dX8_arc_126 ?_
                        apply xj_if_eq 135 dX8_arc_128 rfl
                        · intro k128
                          refine ⟨fun c128 => ?_, fun c128 => ?_⟩
                          · refine xt_iconst (0) dX8_arc_135 rfl ?_
                            exact xt_it1 k128 c128
                          · refine xt_iconst (1) dX8_arc_131 rfl ?_
                            refine xt_goto 136 dX8_arc_132 rfl ?_
                            exact xt_it2 k128 c128
                        · skip
                          exact xt_it2 k117 c117
                    · skip
                      refine is9 dX8_arc_136 (by decide) rfl ?_
                      refine al0 dX8_arc_138 ?_
                      refine g_X8_7 dX8_arc_139 mU_0 ?_
                      refine il1 dX8_arc_142 ?_
                      refine xt_bipush (10) dX8_arc_143 rfl ?_
                      refine xt_iadd dX8_arc_145 ?_
                      refine xt_iald (61 * q + 10) mU_1 (by omega) (ne_add (a := 61 * q) (b := 10) rfl rfl) (by decide) dX8_arc_146 ?_
                      refine xt_top (congrArg Value.int (jnr (c := 10) (by omega) (by omega))) ?_
                      refine il8 dX8_arc_147 ?_
                      refine xt_iconst (2) dX8_arc_149 rfl ?_
                      refine xt_icmp_ne 157 dX8_arc_150 rfl (fun _ => ?_) (fun q => absurd q (by decide))
                      refine il3 dX8_arc_157 ?_
                      refine xt_iadd dX8_arc_158 ?_
                      refine is10 dX8_arc_159 (by decide) rfl ?_
                      refine al0 dX8_arc_161 ?_
                      refine g_X8_7 dX8_arc_162 mU_0 ?_
                      refine il1 dX8_arc_165 ?_
                      refine xt_bipush (11) dX8_arc_166 rfl ?_
                      refine xt_iadd dX8_arc_168 ?_
                      refine xt_iald (61 * q + 11) mU_1 (by omega) (ne_add (a := 61 * q) (b := 11) rfl rfl) (by decide) dX8_arc_169 ?_
                      refine xt_top (congrArg Value.int (jnr (c := 11) (by omega) (by omega))) ?_
                      refine il8 dX8_arc_170 ?_
                      refine xt_iconst (1) dX8_arc_172 rfl ?_
                      refine xt_icmp_ne 180 dX8_arc_173 rfl (fun _ => ?_) (fun q => absurd q (by decide))
                      refine il4 dX8_arc_180 ?_
                      refine xt_iadd dX8_arc_182 ?_
                      refine is11 dX8_arc_183 (by decide) rfl ?_
                      refine il10 dX8_arc_185 ?_
                      refine il10 dX8_arc_187 ?_
                      refine xt_imul dX8_arc_189 ?_
                      refine il11 dX8_arc_190 ?_
                      refine il11 dX8_arc_192 ?_
                      refine xt_imul dX8_arc_194 ?_
                      refine xt_iadd dX8_arc_195 ?_
                      refine il5 dX8_arc_196 ?_
                      refine xt_isub dX8_arc_198 ?_
                      refine s_X8_65 dX8_arc_199 (cn_X8_size _) ⟨lb rfl, lb rfl, lb rfl, lb rfl⟩ ?_
                      refine xt_nm (fun so3 e_so3 => ?_)
                      refine is12 dX8_arc_202 (by decide) rfl ?_
                      refine il9 dX8_arc_204 ?_
                      apply xj_if_eq 225 dX8_arc_206 rfl
                      · intro k206
                        refine ⟨fun c206 => ?_, fun c206 => ?_⟩
                        · refine xt_iconst (0) dX8_arc_225 rfl ?_
                          exact xt_it1 k206 c206
                        · refine il6 dX8_arc_209 ?_
                          apply xj_if_eq 221 dX8_arc_211 rfl
                          · intro k211
                            refine ⟨fun c211 => ?_, fun c211 => ?_⟩
                            · refine xt_iconst (1) dX8_arc_221 rfl ?_
                              refine xt_goto 226 dX8_arc_222 rfl ?_
                              exact xt_it1 k211 c211
                            · refine il12 dX8_arc_214 ?_
                              refine il7 dX8_arc_216 ?_
                              apply xj_icmp_ge 225 dX8_arc_218 rfl
                              · intro k218
                                refine ⟨fun c218 => ?_, fun c218 => ?_⟩
                                · refine xt_iconst (0) dX8_arc_225 rfl ?_
                                  exact xt_it1 k218 c218
                                · refine xt_iconst (1) dX8_arc_221 rfl ?_
                                  refine xt_goto 226 dX8_arc_222 rfl ?_
                                  exact xt_it2 k218 c218
                              · skip
                                exact xt_it2 k211 c211
                          · skip
                            exact xt_it2 k206 c206
                      · skip
                        refine xt_nm (fun si3 e_si3 => ?_)
                        refine is13 dX8_arc_226 (by decide) rfl ?_
                        refine il13 dX8_arc_228 ?_
                        apply xj_if_eq 238 dX8_arc_230 rfl
                        · intro k230
                          refine ⟨fun c230 => ?_, fun c230 => ?_⟩
                          · refine il6 dX8_arc_238 ?_
                            exact xt_it1 k230 c230
                          · refine il8 dX8_arc_233 ?_
                            refine xt_goto 240 dX8_arc_235 rfl ?_
                            exact xt_it2 k230 c230
                        · skip
                          refine xt_nm (fun sb3 e_sb3 => ?_)
                          refine is6 dX8_arc_240 (by decide) rfl ?_
                          refine il13 dX8_arc_242 ?_
                          apply xj_if_eq 252 dX8_arc_244 rfl
                          · intro k244
                            refine ⟨fun c244 => ?_, fun c244 => ?_⟩
                            · refine il7 dX8_arc_252 ?_
                              exact xt_it1 k244 c244
                            · refine il12 dX8_arc_247 ?_
                              refine xt_goto 254 dX8_arc_249 rfl ?_
                              exact xt_it2 k244 c244
                          · skip
                            refine xt_nm (fun sl3 e_sl3 => ?_)
                            refine is7 dX8_arc_254 (by decide) rfl ?_
                            refine inc8 (4) dX8_arc_256 rfl (by decide) rfl ?_
                            refine xt_goto 104 dX8_arc_259 rfl ?_
                            refine il8 dX8_arc_104 ?_
                            refine xt_iconst (4) dX8_arc_106 rfl ?_
                            refine xt_icmp_ge 262 dX8_arc_107 rfl (fun _ => ?_) (fun q => absurd (by decide) q)
                            refine il6 dX8_arc_262 ?_
                            refine xt_iconst (2) dX8_arc_264 rfl ?_
                            apply xj_icmp_ne 272 dX8_arc_265 rfl
                            · intro k265
                              refine ⟨fun c265 => ?_, fun c265 => ?_⟩
                              · refine il3 dX8_arc_272 ?_
                                exact xt_in1 k265 c265
                              · refine xt_iconst (0) dX8_arc_268 rfl ?_
                                refine xt_goto 273 dX8_arc_269 rfl ?_
                                exact xt_in2 k265 c265
                            · skip
                              refine xt_nm (fun xx e_xx => ?_)
                              refine is8 dX8_arc_273 (by decide) rfl ?_
                              refine il6 dX8_arc_275 ?_
                              refine xt_iconst (1) dX8_arc_277 rfl ?_
                              apply xj_icmp_ne 285 dX8_arc_278 rfl
                              · intro k278
                                refine ⟨fun c278 => ?_, fun c278 => ?_⟩
                                · refine il4 dX8_arc_285 ?_
                                  exact xt_in1 k278 c278
                                · refine xt_iconst (0) dX8_arc_281 rfl ?_
                                  refine xt_goto 287 dX8_arc_282 rfl ?_
                                  exact xt_in2 k278 c278
                              · skip
                                refine xt_nm (fun yy e_yy => ?_)
                                refine is9 dX8_arc_287 (by decide) rfl ?_
                                refine al0 dX8_arc_289 ?_
                                refine g_X8_7 dX8_arc_290 mU_0 ?_
                                refine il1 dX8_arc_293 ?_
                                refine xt_bipush (10) dX8_arc_294 rfl ?_
                                refine xt_iadd dX8_arc_296 ?_
                                refine xt_dup2 dX8_arc_297 rfl rfl ?_
                                refine xt_iald (61 * q + 10) mU_1 (by omega) (ne_add (a := 61 * q) (b := 10) rfl rfl) (by decide) dX8_arc_298 ?_
                                refine xt_top (congrArg Value.int (jnr (c := 10) (by omega) (by omega))) ?_
                                refine il8 dX8_arc_299 ?_
                                refine xt_iadd dX8_arc_301 ?_
                                refine xt_iast (61 * q + 10) mU_1 (by omega) (ne_add (a := 61 * q) (b := 10) rfl rfl) (by decide) dX8_arc_302 ?_
                                refine xt_heq (mU_pr (c := 10) (by omega) (by omega)) ?_
                                refine al0 dX8_arc_303 ?_
                                refine g_X8_7 dX8_arc_304 mU_0 ?_
                                refine il1 dX8_arc_307 ?_
                                refine xt_bipush (11) dX8_arc_308 rfl ?_
                                refine xt_iadd dX8_arc_310 ?_
                                refine xt_dup2 dX8_arc_311 rfl rfl ?_
                                refine xt_iald (61 * q + 11) mU_1 (by omega) (ne_add (a := 61 * q) (b := 11) rfl rfl) (by decide) dX8_arc_312 ?_
                                refine xt_top (congrArg Value.int (jnr (c := 11) (by omega) (by omega))) ?_
                                refine il9 dX8_arc_313 ?_
                                refine xt_iadd dX8_arc_315 ?_
                                refine xt_iast (61 * q + 11) mU_1 (by omega) (ne_add (a := 61 * q) (b := 11) rfl rfl) (by decide) dX8_arc_316 ?_
                                refine xt_heq (mU_pr (c := 11) (by omega) (by omega)) ?_
                                refine al0 dX8_arc_317 ?_
                                refine il1 dX8_arc_318 ?_
                                refine xt_iconst (0) dX8_arc_319 rfl ?_
                                refine il8 dX8_arc_320 ?_
                                refine s_X8_86 dX8_arc_322 (cn_X8_goes (by omega) (0) (by omega) _) mU_0 ⟨lb rfl, lb rfl, lb rfl, lb rfl⟩ ?_
                                refine al0 dX8_arc_325 ?_
                                refine il1 dX8_arc_326 ?_
                                refine xt_iconst (1) dX8_arc_327 rfl ?_
                                refine il9 dX8_arc_328 ?_
                                refine s_X8_86 dX8_arc_330 (cn_X8_goes (by omega) (1) (by omega) _) mU_0 ⟨lb rfl, lb rfl, lb rfl, lb rfl⟩ ?_
                                exact xt_ret dX8_arc_333 rfl (lb rfl) (lb rfl) ⟨rfl, by subst_vars; rfl, rfl⟩
def bgA (r : Nat → Int32) : Nat → Nat → Int32
  | 0 => r
  | k + 1 => upd (bgA r k) (5 + k) (bgA r k (13 + k))
def bgB (r : Nat → Int32) : Nat → Nat → Int32
  | 0 => r
  | k + 1 => upd (bgB r k) (13 + k) (bgB r k (13 + k + 4))
theorem bgA_s (r : Nat → Int32) (k : Nat) : bgA r (k + 1) = upd (bgA r k) (5 + k) (bgA r k (13 + k)) := rfl
theorem bgB_s (r : Nat → Int32) (k : Nat) : bgB r (k + 1) = upd (bgB r k) (13 + k) (bgB r k (13 + k + 4)) := rfl
theorem bgB_lo (r : Nat → Int32) {c : Nat} (hc : c < 13) : ∀ k, bgB r k c = r c
  | 0 => rfl
  | k + 1 => by rw [bgB_s, upd, if_neg (by omega)]; exact bgB_lo r hc k
theorem bgA_12 (r : Nat → Int32) : ∀ k, k ≤ 4 → bgA r k 12 = r 12
  | 0, _ => rfl
  | k + 1, hk => by rw [bgA_s, upd, if_neg (by omega)]; exact bgA_12 r k (by omega)
def bgC (r : Nat → Int32) : Nat → Int32 := upd (upd (upd r 12 (r 12 - 1)) 9 0) 10 (-(upd (upd r 12 (r 12 - 1)) 9 0 6))
def bgE (r : Nat → Int32) (m : Nat) : Nat → Int32 := upd (bgC (bgB (bgA r 4) (4 * (m - 1)))) 11 (-(bgC (bgB (bgA r 4) (4 * (m - 1))) (6 + 1)))
set_option maxHeartbeats 400000 in
set_option maxRecDepth 100000 in
theorem cn_X8_begins {h : ax_H} {n : Nat} {M : Nat} {un iu td aT nu ab be : Int32} {tp mv rd ms mn la : Nat → Int32} {W : Nat → Nat → Int32} {r : Nat → Int32} {q : Nat} {it tk : Nat → Int64} (hq : q < 15) (m : Nat) (hm : r 12 = nI m) (hm1 : 1 ≤ m) (hm2 : m ≤ 12) : ax_C yX8_begins cX8_begins 3 none 0 0 0 [.ref M, .int (nI (61 * q))] (mU h M un iu td aT nu ab be (jn (va_up W q r)) tp mv rd ms mn la it tk) n (kv (mU h M un iu td aT nu ab be (jn (va_up W q (bgE r m))) tp mv rd ms mn la it tk) n) := by
  refine ax_C.go RX8 "begins" [some (.ref M), some (.int (nI (61 * q))), none] rfl rfl pn_X8 (lb rfl) rfl (fun l G cy bs => ?_)
  have lp2 : ∀ (d k : Nat), k + d = 4 * (m - 1) → ∀ r1 : Nat → Int32, r1 = bgB (bgA r 4) k → ax_T l G cy bs (ax_rm 0 0 0) RX8 "begins" cX8_begins 3 none (kv (mU h M un iu td aT nu ab be (jn (va_up W q (bgE r m))) tp mv rd ms mn la it tk) n) 0 0 36 [some (.ref M), some (.int (nI (61 * q))), some (.int (nI k))] [] (mU h M un iu td aT nu ab be (jn (va_up W q r1)) tp mv rd ms mn la it tk) n 0 0 := by
    intro d
    induction d with
    | zero =>
      intro k hk r1 hr1
      obtain rfl : k = 4 * (m - 1) := by omega
      have h12 : r1 12 = nI m := by rw [hr1, bgB_lo _ (by omega), bgA_12 _ _ (by omega)]; exact hm
      refine il2 dX8_begins_36 ?_
      refine xt_iconst (4) dX8_begins_37 rfl ?_
      refine al0 dX8_begins_38 ?_
      refine g_X8_7 dX8_begins_39 mU_0 ?_
      refine il1 dX8_begins_42 ?_
      refine xt_bipush (12) dX8_begins_43 rfl ?_
      refine xt_iadd dX8_begins_45 ?_
      refine xt_iald (61 * q + 12) mU_1 (by omega) (ne_add (a := 61 * q) (b := 12) rfl rfl) (by decide) dX8_begins_46 ?_
      refine xt_top (congrArg Value.int (jnr (c := 12) (by omega) (by omega))) ?_
      refine xt_eqv (nI (m)) h12 ?_
      refine xt_iconst (1) dX8_begins_47 rfl ?_
      refine xt_isub dX8_begins_48 ?_
      refine xt_imul dX8_begins_49 ?_
      refine xt_eqv (nI (4 * (m - 1))) ((ne_mul (a := 4) (b := (m) - (1)) rfl (ne_sub (a := m) (b := 1) rfl rfl (by omega))).trans (congrArg nI (by omega))) ?_
      refine xt_icmp_ge 83 dX8_begins_50 rfl (fun _ => ?_) (fun q => absurd (nI_le (Nat.le_refl _) (by omega)) q)
      refine al0 dX8_begins_83 ?_
      refine g_X8_7 dX8_begins_84 mU_0 ?_
      refine il1 dX8_begins_87 ?_
      refine xt_bipush (12) dX8_begins_88 rfl ?_
      refine xt_iadd dX8_begins_90 ?_
      refine xt_dup2 dX8_begins_91 rfl rfl ?_
      refine xt_iald (61 * q + 12) mU_1 (by omega) (ne_add (a := 61 * q) (b := 12) rfl rfl) (by decide) dX8_begins_92 ?_
      refine xt_top (congrArg Value.int (jnr (c := 12) (by omega) (by omega))) ?_
      refine xt_iconst (1) dX8_begins_93 rfl ?_
      refine xt_isub dX8_begins_94 ?_
      refine xt_iast (61 * q + 12) mU_1 (by omega) (ne_add (a := 61 * q) (b := 12) rfl rfl) (by decide) dX8_begins_95 ?_
      refine xt_heq (mU_pr (c := 12) (by omega) (by omega)) ?_
      refine al0 dX8_begins_96 ?_
      refine g_X8_7 dX8_begins_97 mU_0 ?_
      refine il1 dX8_begins_100 ?_
      refine xt_bipush (9) dX8_begins_101 rfl ?_
      refine xt_iadd dX8_begins_103 ?_
      refine xt_iconst (0) dX8_begins_104 rfl ?_
      refine xt_iast (61 * q + 9) mU_1 (by omega) (ne_add (a := 61 * q) (b := 9) rfl rfl) (by decide) dX8_begins_105 ?_
      refine xt_heq (mU_pr (c := 9) (by omega) (by omega)) ?_
      refine al0 dX8_begins_106 ?_
      refine g_X8_7 dX8_begins_107 mU_0 ?_
      refine il1 dX8_begins_110 ?_
      refine xt_bipush (10) dX8_begins_111 rfl ?_
      refine xt_iadd dX8_begins_113 ?_
      refine al0 dX8_begins_114 ?_
      refine g_X8_7 dX8_begins_115 mU_0 ?_
      refine il1 dX8_begins_118 ?_
      refine xt_bipush (6) dX8_begins_119 rfl ?_
      refine xt_iadd dX8_begins_121 ?_
      refine xt_iald (61 * q + 6) mU_1 (by omega) (ne_add (a := 61 * q) (b := 6) rfl rfl) (by decide) dX8_begins_122 ?_
      refine xt_top (congrArg Value.int (jnr (c := 6) (by omega) (by omega))) ?_
      refine xt_ineg dX8_begins_123 ?_
      refine xt_iast (61 * q + 10) mU_1 (by omega) (ne_add (a := 61 * q) (b := 10) rfl rfl) (by decide) dX8_begins_124 ?_
      refine xt_heq (mU_pr (c := 10) (by omega) (by omega)) ?_
      refine al0 dX8_begins_125 ?_
      refine g_X8_7 dX8_begins_126 mU_0 ?_
      refine il1 dX8_begins_129 ?_
      refine xt_bipush (11) dX8_begins_130 rfl ?_
      refine xt_iadd dX8_begins_132 ?_
      refine al0 dX8_begins_133 ?_
      refine g_X8_7 dX8_begins_134 mU_0 ?_
      refine il1 dX8_begins_137 ?_
      refine xt_bipush (6) dX8_begins_138 rfl ?_
      refine xt_iadd dX8_begins_140 ?_
      refine xt_iconst (1) dX8_begins_141 rfl ?_
      refine xt_iadd dX8_begins_142 ?_
      refine xt_iald (61 * q + 6 + 1) mU_1 (by omega) (ne_add (a := 61 * q + 6) (b := 1) (ne_add (a := 61 * q) (b := 6) rfl rfl) rfl) (by decide) dX8_begins_143 ?_
      refine xt_top (congrArg Value.int (jnr (c := 6 + 1) (by omega) (by omega))) ?_
      refine xt_ineg dX8_begins_144 ?_
      refine xt_iast (61 * q + 11) mU_1 (by omega) (ne_add (a := 61 * q) (b := 11) rfl rfl) (by decide) dX8_begins_145 ?_
      refine xt_heq (mU_pr (c := 11) (by omega) (by omega)) ?_
      exact xt_ret dX8_begins_146 rfl (lb rfl) (lb rfl) ⟨rfl, by rw [hr1]; rfl, rfl⟩
    | succ d ih =>
      intro k hk r1 hr1
      have h12 : r1 12 = nI m := by rw [hr1, bgB_lo _ (by omega), bgA_12 _ _ (by omega)]; exact hm
      refine il2 dX8_begins_36 ?_
      refine xt_iconst (4) dX8_begins_37 rfl ?_
      refine al0 dX8_begins_38 ?_
      refine g_X8_7 dX8_begins_39 mU_0 ?_
      refine il1 dX8_begins_42 ?_
      refine xt_bipush (12) dX8_begins_43 rfl ?_
      refine xt_iadd dX8_begins_45 ?_
      refine xt_iald (61 * q + 12) mU_1 (by omega) (ne_add (a := 61 * q) (b := 12) rfl rfl) (by decide) dX8_begins_46 ?_
      refine xt_top (congrArg Value.int (jnr (c := 12) (by omega) (by omega))) ?_
      refine xt_eqv (nI (m)) h12 ?_
      refine xt_iconst (1) dX8_begins_47 rfl ?_
      refine xt_isub dX8_begins_48 ?_
      refine xt_imul dX8_begins_49 ?_
      refine xt_eqv (nI (4 * (m - 1))) ((ne_mul (a := 4) (b := (m) - (1)) rfl (ne_sub (a := m) (b := 1) rfl rfl (by omega))).trans (congrArg nI (by omega))) ?_
      refine xt_icmp_ge 83 dX8_begins_50 rfl (fun q => absurd q (nI_ge (by omega) (by omega))) (fun _ => ?_)
      refine al0 dX8_begins_53 ?_
      refine g_X8_7 dX8_begins_54 mU_0 ?_
      refine il1 dX8_begins_57 ?_
      refine xt_bipush (13) dX8_begins_58 rfl ?_
      refine xt_iadd dX8_begins_60 ?_
      refine il2 dX8_begins_61 ?_
      refine xt_iadd dX8_begins_62 ?_
      refine al0 dX8_begins_63 ?_
      refine g_X8_7 dX8_begins_64 mU_0 ?_
      refine il1 dX8_begins_67 ?_
      refine xt_bipush (13) dX8_begins_68 rfl ?_
      refine xt_iadd dX8_begins_70 ?_
      refine il2 dX8_begins_71 ?_
      refine xt_iadd dX8_begins_72 ?_
      refine xt_iconst (4) dX8_begins_73 rfl ?_
      refine xt_iadd dX8_begins_74 ?_
      refine xt_iald (61 * q + 13 + k + 4) mU_1 (by omega) (ne_add (a := 61 * q + 13 + k) (b := 4) (ne_add (a := 61 * q + 13) (b := k) (ne_add (a := 61 * q) (b := 13) rfl rfl) rfl) rfl) (by decide) dX8_begins_75 ?_
      refine xt_top (congrArg Value.int (jnr (c := 13 + k + 4) (by omega) (by omega))) ?_
      refine xt_iast (61 * q + 13 + k) mU_1 (by omega) (ne_add (a := 61 * q + 13) (b := k) (ne_add (a := 61 * q) (b := 13) rfl rfl) rfl) (by decide) dX8_begins_76 ?_
      refine xt_heq (mU_pr (c := 13 + k) (by omega) (by omega)) ?_
      refine inc2 (nI (k + 1)) dX8_begins_77 (nI_1 _) (by decide) rfl ?_
      refine xt_goto 36 dX8_begins_80 rfl ?_
      exact ih (k + 1) (by omega) _ (by rw [bgB_s, ← hr1])
  have lp1 : ∀ (d k : Nat), k + d = 4 → ∀ r1 : Nat → Int32, r1 = bgA r k → ax_T l G cy bs (ax_rm 0 0 0) RX8 "begins" cX8_begins 3 none (kv (mU h M un iu td aT nu ab be (jn (va_up W q (bgE r m))) tp mv rd ms mn la it tk) n) 0 0 2 [some (.ref M), some (.int (nI (61 * q))), some (.int (nI k))] [] (mU h M un iu td aT nu ab be (jn (va_up W q r1)) tp mv rd ms mn la it tk) n 0 0 := by
    intro d
    induction d with
    | zero =>
      intro k hk r1 hr1
      obtain rfl : k = 4 := by omega
      refine il2 dX8_begins_2 ?_
      refine xt_iconst (4) dX8_begins_3 rfl ?_
      refine xt_icmp_ge 34 dX8_begins_4 rfl (fun _ => ?_) (fun q => absurd (by decide) q)
      refine xt_iconst (0) dX8_begins_34 rfl ?_
      refine is2 dX8_begins_35 (by decide) rfl ?_
      exact lp2 _ 0 (Nat.zero_add _) _ hr1
    | succ d ih =>
      intro k hk r1 hr1
      refine il2 dX8_begins_2 ?_
      refine xt_iconst (4) dX8_begins_3 rfl ?_
      refine xt_icmp_ge 34 dX8_begins_4 rfl (fun q => absurd q (nI_ge (a := k) (b := 4) (by omega) (by decide))) (fun _ => ?_)
      refine al0 dX8_begins_7 ?_
      refine g_X8_7 dX8_begins_8 mU_0 ?_
      refine il1 dX8_begins_11 ?_
      refine xt_iconst (5) dX8_begins_12 rfl ?_
      refine xt_iadd dX8_begins_13 ?_
      refine il2 dX8_begins_14 ?_
      refine xt_iadd dX8_begins_15 ?_
      refine al0 dX8_begins_16 ?_
      refine g_X8_7 dX8_begins_17 mU_0 ?_
      refine il1 dX8_begins_20 ?_
      refine xt_bipush (13) dX8_begins_21 rfl ?_
      refine xt_iadd dX8_begins_23 ?_
      refine il2 dX8_begins_24 ?_
      refine xt_iadd dX8_begins_25 ?_
      refine xt_iald (61 * q + 13 + k) mU_1 (by omega) (ne_add (a := 61 * q + 13) (b := k) (ne_add (a := 61 * q) (b := 13) rfl rfl) rfl) (by decide) dX8_begins_26 ?_
      refine xt_top (congrArg Value.int (jnr (c := 13 + k) (by omega) (by omega))) ?_
      refine xt_iast (61 * q + 5 + k) mU_1 (by omega) (ne_add (a := 61 * q + 5) (b := k) (ne_add (a := 61 * q) (b := 5) rfl rfl) rfl) (by decide) dX8_begins_27 ?_
      refine xt_heq (mU_pr (c := 5 + k) (by omega) (by omega)) ?_
      refine inc2 (nI (k + 1)) dX8_begins_28 (nI_1 _) (by decide) rfl ?_
      refine xt_goto 2 dX8_begins_31 rfl ?_
      exact ih (k + 1) (by omega) _ (by rw [bgA_s, ← hr1])
  refine xt_iconst (0) dX8_begins_0 rfl ?_
  refine is2 dX8_begins_1 (by decide) rfl ?_
  exact lp1 4 0 rfl _ rfl
def okT (r : Nat → Int32) : Prop := ¬ 3 ≤ r 5 → (¬ 2 * rT r = 0 ∧ rT r = nI (rT r).toNatClampNeg ∧ (rT r).toNatClampNeg < 1000)
def sgo (r mv : Nat → Int32) : (Nat → Int32) × (Nat → Int32) := if 2 ≤ r 5 then (if r 5 = 2 then ((evB (rT r) (r, mv, r 9) (rT r).toNatClampNeg).1, (evB (rT r) (r, mv, r 9) (rT r).toNatClampNeg).2.1) else arS r mv) else lnS (rT r) (r 9 + 1) r mv 3
def sDone (r : Nat → Int32) : Nat → Int32 := upd r 9 (r 9 + 1)
def sEnd (r : Nat → Int32) : Nat → Int32 := if sNow (sDone r) = 0 then upd (sDone r) 5 (-1) else sDone r
theorem sEnd_p {r : Nat → Int32} (h : sNow (upd r 9 (r 9 + 1)) = 0) : sEnd r = upd (upd r 9 (r 9 + 1)) 5 (-1) := if_pos h
theorem sEnd_n {r : Nat → Int32} (h : ¬ sNow (upd r 9 (r 9 + 1)) = 0) : sEnd r = upd r 9 (r 9 + 1) := if_neg h
def z3 (mv : Nat → Int32) : Nat → Int32 := upd (upd (upd mv 0 0) 1 0) 2 0
def rFlag (r : Nat → Int32) : Int32 := if 0 ≤ r 5 then 1 else if r 12 = 0 then 0 else 1
def rBeg (r : Nat → Int32) (m : Nat) : Nat → Int32 := if 0 ≤ r 5 then r else bgE r m
def rStp (m : Nat) (r mv : Nat → Int32) : (Nat → Int32) × (Nat → Int32) := if rFlag r = 0 then (r, z3 mv) else (sEnd (sgo (rBeg r m) (z3 mv)).1, (sgo (rBeg r m) (z3 mv)).2)
set_option maxHeartbeats 400000 in
set_option maxRecDepth 100000 in
theorem cn_X8_steps {h : ax_H} {n : Nat} {M : Nat} {un iu td aT nu ab be : Int32} {tp mv rd ms mn la : Nat → Int32} {W : Nat → Nat → Int32} {r : Nat → Int32} {q : Nat} {it tk : Nat → Int64} (hq : q < 15) (m : Nat) (hm : r 12 = nI m) (hm2 : m ≤ 12) (hok : ¬ rFlag r = 0 → okT (rBeg r m)) : ax_C yX8_steps cX8_steps 2 (some .boolean) 5 0 0 [.ref M, .int (nI (61 * q))] (mU h M un iu td aT nu ab be (jn (va_up W q r)) tp mv rd ms mn la it tk) n (ki (rFlag r) (mU h M un iu td aT nu ab be (jn (va_up W q (rStp m r mv).1)) tp ((rStp m r mv).2) rd ms mn la it tk) n) := by
  refine ax_C.go RX8 "steps" [some (.ref M), some (.int (nI (61 * q)))] rfl rfl pn_X8 (lb rfl) rfl (fun l G cy bs => ?_)
  have fin : ∀ r2 mv2 : Nat → Int32, rFlag r = 1 → (rStp m r mv) = (sEnd r2, mv2) → ax_T l G cy bs (ax_rm 5 0 0) RX8 "steps" cX8_steps 2 (some .boolean) (ki (rFlag r) (mU h M un iu td aT nu ab be (jn (va_up W q (rStp m r mv).1)) tp ((rStp m r mv).2) rd ms mn la it tk) n) 0 0 107 [some (.ref M), some (.int (nI (61 * q)))] [] (mU h M un iu td aT nu ab be (jn (va_up W q r2)) tp (mv2) rd ms mn la it tk) n 0 0 := by
    intro r2 mv2 hf he
    refine al0 dX8_steps_107 ?_
    refine g_X8_7 dX8_steps_108 mU_0 ?_
    refine il1 dX8_steps_111 ?_
    refine xt_bipush (9) dX8_steps_112 rfl ?_
    refine xt_iadd dX8_steps_114 ?_
    refine xt_dup2 dX8_steps_115 rfl rfl ?_
    refine xt_iald (61 * q + 9) mU_1 (by omega) (ne_add (a := 61 * q) (b := 9) rfl rfl) (by decide) dX8_steps_116 ?_
    refine xt_top (congrArg Value.int (jnr (c := 9) (by omega) (by omega))) ?_
    refine xt_iconst (1) dX8_steps_117 rfl ?_
    refine xt_iadd dX8_steps_118 ?_
    refine xt_iast (61 * q + 9) mU_1 (by omega) (ne_add (a := 61 * q) (b := 9) rfl rfl) (by decide) dX8_steps_119 ?_
    refine xt_heq (mU_pr (c := 9) (by omega) (by omega)) ?_
    refine al0 dX8_steps_120 ?_
    refine il1 dX8_steps_121 ?_
    refine s_X8_80 dX8_steps_122 (cn_X8_stillNow (by omega)) mU_0 ⟨lb rfl, lb rfl, lb rfl, lb rfl⟩ ?_
    refine xt_if_ne 137 dX8_steps_125 rfl (fun c125 => ?_) (fun c125 => ?_)
    · refine xt_iconst (1) dX8_steps_137 rfl ?_
      exact xt_zret dX8_steps_138 rfl (Or.inr rfl) (lb rfl) (lb rfl) ⟨by rw [hf], by rw [he, sEnd_n c125], rfl⟩
    · refine al0 dX8_steps_128 ?_
      refine g_X8_7 dX8_steps_129 mU_0 ?_
      refine il1 dX8_steps_132 ?_
      refine xt_iconst (5) dX8_steps_133 rfl ?_
      refine xt_iadd dX8_steps_134 ?_
      refine xt_iconst (-1) dX8_steps_135 rfl ?_
      refine xt_iast (61 * q + 5) mU_1 (by omega) (ne_add (a := 61 * q) (b := 5) rfl rfl) (by decide) dX8_steps_136 ?_
      refine xt_heq (mU_pr (c := 5) (by omega) (by omega)) ?_
      refine xt_iconst (1) dX8_steps_137 rfl ?_
      exact xt_zret dX8_steps_138 rfl (Or.inr rfl) (lb rfl) (lb rfl) ⟨by rw [hf], by rw [he, sEnd_p c125], rfl⟩
  have go : ∀ r1 mv1 : Nat → Int32, okT r1 → rFlag r = 1 → rStp m r mv = (sEnd (sgo r1 mv1).1, (sgo r1 mv1).2) → ax_T l G cy bs (ax_rm 5 0 0) RX8 "steps" cX8_steps 2 (some .boolean) (ki (rFlag r) (mU h M un iu td aT nu ab be (jn (va_up W q (rStp m r mv).1)) tp ((rStp m r mv).2) rd ms mn la it tk) n) 0 0 62 [some (.ref M), some (.int (nI (61 * q)))] [] (mU h M un iu td aT nu ab be (jn (va_up W q r1)) tp (mv1) rd ms mn la it tk) n 0 0 := by
    intro r1 mv1 hok hf he
    refine al0 dX8_steps_62 ?_
    refine g_X8_7 dX8_steps_63 mU_0 ?_
    refine il1 dX8_steps_66 ?_
    refine xt_iconst (5) dX8_steps_67 rfl ?_
    refine xt_iadd dX8_steps_68 ?_
    refine xt_iald (61 * q + 5) mU_1 (by omega) (ne_add (a := 61 * q) (b := 5) rfl rfl) (by decide) dX8_steps_69 ?_
    refine xt_top (congrArg Value.int (jnr (c := 5) (by omega) (by omega))) ?_
    refine xt_iconst (2) dX8_steps_70 rfl ?_
    refine xt_icmp_ge 82 dX8_steps_71 rfl (fun c71 => ?_) (fun c71 => ?_)
    · refine al0 dX8_steps_82 ?_
      refine g_X8_7 dX8_steps_83 mU_0 ?_
      refine il1 dX8_steps_86 ?_
      refine xt_iconst (5) dX8_steps_87 rfl ?_
      refine xt_iadd dX8_steps_88 ?_
      refine xt_iald (61 * q + 5) mU_1 (by omega) (ne_add (a := 61 * q) (b := 5) rfl rfl) (by decide) dX8_steps_89 ?_
      refine xt_top (congrArg Value.int (jnr (c := 5) (by omega) (by omega))) ?_
      refine xt_iconst (2) dX8_steps_90 rfl ?_
      refine xt_icmp_ne 102 dX8_steps_91 rfl (fun c91 => ?_) (fun c91 => ?_)
      · refine al0 dX8_steps_102 ?_
        refine il1 dX8_steps_103 ?_
        refine s_X8_103 dX8_steps_104 (cn_X8_arc (by omega)) mU_0 ⟨lb rfl, lb rfl, lb rfl, lb rfl⟩ ?_
        exact fin _ _ hf (by rw [he]; unfold sgo; rw [if_pos c71]; rw [if_neg c91])
      · refine al0 dX8_steps_94 ?_
        refine il1 dX8_steps_95 ?_
        refine s_X8_100 dX8_steps_96 (cn_X8_even (by omega) (hok (by rw [c91]; decide)).1 _ (hok (by rw [c91]; decide)).2.1 (hok (by rw [c91]; decide)).2.2) mU_0 ⟨lb rfl, lb rfl, lb rfl, lb rfl⟩ ?_
        refine xt_goto 107 dX8_steps_99 rfl ?_
        exact fin _ _ hf (by rw [he]; unfold sgo; rw [if_pos c71]; rw [if_pos c91])
    · refine al0 dX8_steps_74 ?_
      refine il1 dX8_steps_75 ?_
      refine s_X8_97 dX8_steps_76 (cn_X8_line (by omega) (hok (fun q => c71 (Int32.le_trans (show (2 : Int32) ≤ 3 by decide) q))).1) mU_0 ⟨lb rfl, lb rfl, lb rfl, lb rfl⟩ ?_
      refine xt_goto 107 dX8_steps_79 rfl ?_
      exact fin _ _ hf (by rw [he]; unfold sgo; rw [if_neg c71])
  refine al0 dX8_steps_0 ?_
  refine g_X8_20 dX8_steps_1 mU_0 ?_
  refine xt_iconst (0) dX8_steps_4 rfl ?_
  refine xt_iconst (0) dX8_steps_5 rfl ?_
  refine xt_iast (0) mU_3 (by omega) rfl (by decide) dX8_steps_6 ?_
  refine xt_heq mU_p3 ?_
  refine al0 dX8_steps_7 ?_
  refine g_X8_20 dX8_steps_8 mU_0 ?_
  refine xt_iconst (1) dX8_steps_11 rfl ?_
  refine xt_iconst (0) dX8_steps_12 rfl ?_
  refine xt_iast (1) mU_3 (by omega) rfl (by decide) dX8_steps_13 ?_
  refine xt_heq mU_p3 ?_
  refine al0 dX8_steps_14 ?_
  refine g_X8_20 dX8_steps_15 mU_0 ?_
  refine xt_iconst (2) dX8_steps_18 rfl ?_
  refine xt_iconst (0) dX8_steps_19 rfl ?_
  refine xt_iast (2) mU_3 (by omega) rfl (by decide) dX8_steps_20 ?_
  refine xt_heq mU_p3 ?_
  refine al0 dX8_steps_21 ?_
  refine g_X8_7 dX8_steps_22 mU_0 ?_
  refine il1 dX8_steps_25 ?_
  refine xt_iconst (5) dX8_steps_26 rfl ?_
  refine xt_iadd dX8_steps_27 ?_
  refine xt_iald (61 * q + 5) mU_1 (by omega) (ne_add (a := 61 * q) (b := 5) rfl rfl) (by decide) dX8_steps_28 ?_
  refine xt_top (congrArg Value.int (jnr (c := 5) (by omega) (by omega))) ?_
  refine xt_if_ge 46 dX8_steps_29 rfl (fun c29 => ?_) (fun c29 => ?_)
  · refine al0 dX8_steps_46 ?_
    refine g_X8_7 dX8_steps_47 mU_0 ?_
    refine il1 dX8_steps_50 ?_
    refine xt_iconst (5) dX8_steps_51 rfl ?_
    refine xt_iadd dX8_steps_52 ?_
    refine xt_iald (61 * q + 5) mU_1 (by omega) (ne_add (a := 61 * q) (b := 5) rfl rfl) (by decide) dX8_steps_53 ?_
    refine xt_top (congrArg Value.int (jnr (c := 5) (by omega) (by omega))) ?_
    refine xt_if_ge 62 dX8_steps_54 rfl (fun _ => ?_) (fun q => absurd c29 q)
    have hf : rFlag r = 1 := by unfold rFlag; rw [if_pos c29]
    exact go _ _ (by have h9 := hok; unfold rBeg at h9; rw [if_pos c29] at h9; exact h9 (by rw [hf]; decide)) hf (by unfold rStp; rw [hf, if_neg (by decide)]; unfold rBeg; rw [if_pos c29]; rfl)
  · refine al0 dX8_steps_32 ?_
    refine g_X8_7 dX8_steps_33 mU_0 ?_
    refine il1 dX8_steps_36 ?_
    refine xt_bipush (12) dX8_steps_37 rfl ?_
    refine xt_iadd dX8_steps_39 ?_
    refine xt_iald (61 * q + 12) mU_1 (by omega) (ne_add (a := 61 * q) (b := 12) rfl rfl) (by decide) dX8_steps_40 ?_
    refine xt_top (congrArg Value.int (jnr (c := 12) (by omega) (by omega))) ?_
    refine xt_if_ne 46 dX8_steps_41 rfl (fun c41 => ?_) (fun c41 => ?_)
    · refine al0 dX8_steps_46 ?_
      refine g_X8_7 dX8_steps_47 mU_0 ?_
      refine il1 dX8_steps_50 ?_
      refine xt_iconst (5) dX8_steps_51 rfl ?_
      refine xt_iadd dX8_steps_52 ?_
      refine xt_iald (61 * q + 5) mU_1 (by omega) (ne_add (a := 61 * q) (b := 5) rfl rfl) (by decide) dX8_steps_53 ?_
      refine xt_top (congrArg Value.int (jnr (c := 5) (by omega) (by omega))) ?_
      refine xt_if_ge 62 dX8_steps_54 rfl (fun q => absurd q c29) (fun _ => ?_)
      have hf : rFlag r = 1 := by unfold rFlag; rw [if_neg c29, if_neg c41]
      have hm1 : 1 ≤ m := Nat.pos_of_ne_zero (fun q0 => c41 (by rw [hm, q0]; rfl))
      refine al0 dX8_steps_57 ?_
      refine il1 dX8_steps_58 ?_
      refine s_X8_93 dX8_steps_59 (cn_X8_begins (by omega) m hm hm1 hm2) mU_0 ⟨lb rfl, lb rfl, lb rfl, lb rfl⟩ ?_
      exact go _ _ (by have h9 := hok; unfold rBeg at h9; rw [if_neg c29] at h9; exact h9 (by rw [hf]; decide)) hf (by unfold rStp; rw [hf, if_neg (by decide)]; unfold rBeg; rw [if_neg c29]; rfl)
    · refine xt_iconst (0) dX8_steps_44 rfl ?_
      exact xt_zret dX8_steps_45 rfl (Or.inl rfl) (lb rfl) (lb rfl) ⟨by unfold rFlag; rw [if_neg c29, if_pos c41], by unfold rStp; rw [if_pos (by unfold rFlag; rw [if_neg c29, if_pos c41])]; rfl, rfl⟩
