/-! FX: all entries together, and the law's start -/
def fx_AL (P : Nat → fx_T1 → Prop) : Nat → List fx_T1 → Prop
  | _, [] => True
  | k, t :: l => P k t ∧ fx_AL P (k + 1) l
theorem fx_AL_ok {P : Nat → fx_T1 → Prop} : ∀ {l : List fx_T1} {k : Nat}, fx_AL P k l → ∀ (j : Nat) (t : fx_T1), l[j]? = some t → P (k + j) t := by
  intro l
  induction l with
  | nil => intro k _ j t e; simp at e
  | cons a l ih =>
    intro k h j t e
    cases j with
    | zero =>
      have e : some a = some t := e
      cases e
      exact h.1
    | succ j =>
      have := ih h.2 j t e
      rwa [show k + 1 + j = k + (j + 1) by omega] at this
theorem fx_AL_app {P : Nat → fx_T1 → Prop} : ∀ {l l' : List fx_T1} {k : Nat}, fx_AL P k l → fx_AL P (k + l.length) l' → fx_AL P k (l ++ l') := by
  intro l
  induction l with
  | nil => intro l' k _ h; exact h
  | cons a l ih =>
    intro l' k h h'
    exact ⟨h.1, ih h.2 (by rw [show k + 1 + l.length = k + (a :: l).length by rw [List.length_cons]; omega]; exact h')⟩
def fx_PK (X : (Int → Int) × Int) (k : Nat) (t : fx_T1) : Prop := ∃ ps, fx_chk fx_T t = some ps ∧ ∀ (zs : List Int) (S : fx_S), fx_Sok S → zs.length = (fx_lv0 t.2.2.1 0).2 → fx_rz t zs S → ∀ p ∈ ps, fx_VC (fx_Mx X) k zs S p
/-- an event of the law's start: a new cell, or -1 into a row that isn't told -/
def fx_lit (e : fx_Ev) : Bool := match e with
  | (6, _, _) => true
  | (4, _, [(0, p), (0, _), (0, v)]) => v == -1 && (p == 50 || (p == 54 || (p == 57 || (p == 61 || (p == 66 || p == 87)))))
  | _ => false
/-- the start writes there -/
def fx_li1 (e : fx_Ev) (p i : Int) : Bool := match e with
  | (4, _, [(0, q), (0, j), (0, _)]) => q == p && j == i
  | _ => false
def fx_lits (l : List fx_Ev) (p i : Int) : Bool := l.any (fun e => fx_li1 e p i)
theorem fx_lits_row {l : List fx_Ev} {p i : Int} (h : l.all fx_lit = true) (q : fx_lits l p i = true) : p = 50 ∨ p = 54 ∨ p = 57 ∨ p = 61 ∨ p = 66 ∨ p = 87 := by
  obtain ⟨e, he, q⟩ := List.any_eq_true.mp q
  have g := List.all_eq_true.mp h e he
  unfold fx_li1 at q
  unfold fx_lit at g
  split at q
  · rename_i c q1 j v
    simp only [Bool.and_eq_true, beq_iff_eq, Bool.or_eq_true] at g q
    omega
  · cases q
theorem fx_d_lit {M : fx_M} {ν : List Int} {K : List Int → fx_S → Prop} : ∀ (l : List fx_Ev) (S : fx_S), l.all fx_lit = true → (∀ S' : fx_S, (∀ p i : Int, S'.1 p i = if fx_lits l p i = true then -1 else S.1 p i) → S'.2.1 = S.2.1 → S'.2.2 = S.2.2 + (l.countP (fun e => e.1 == 6) : Nat) → K ν S') → fx_d M l ν S K := by
  intro l
  induction l with
  | nil => intro S _ h; exact h S (fun _ _ => rfl) rfl (by simp)
  | cons e l ih =>
    intro S ha h
    rw [List.all_cons, Bool.and_eq_true] at ha
    obtain ⟨h1, h2⟩ := ha
    unfold fx_lit at h1
    split at h1
    · rename_i c q
      refine ih _ h2 (fun S' a b d => h S' (fun p i => ?_) b ?_)
      · first | exact a p i | (rw [a]; rfl)
      · rw [d, List.countP_cons_of_pos (by rfl)]
        show S.2.2 + 1 + _ = _
        omega
    · rename_i c p i v
      have hv : v = -1 := by
        simp only [Bool.and_eq_true, beq_iff_eq] at h1
        exact h1.1
      refine ih _ h2 (fun S' a b d => h S' (fun q j => ?_) b ?_)
      · rw [a]
        have e2 : fx_lits ((4, c, [(0, p), (0, i), (0, v)]) :: l) q j = ((p == q && i == j) || fx_lits l q j) := rfl
        rw [e2]
        by_cases hl : fx_lits l q j = true
        · rw [if_pos hl, if_pos (by rw [hl, Bool.or_true])]
        · rw [if_neg hl]
          show fx_up S.1 p i v q j = _
          unfold fx_up
          by_cases hq : q = p ∧ j = i
          · rw [if_pos hq, hq.1, hq.2, if_pos (by simp), hv]
          · rw [if_neg hq, if_neg (by
              simp only [Bool.or_eq_true, Bool.and_eq_true, beq_iff_eq]
              rintro (z | z)
              · exact hq ⟨z.1.symm, z.2.symm⟩
              · exact hl z)]
      · rw [d, List.countP_cons_of_neg (by simp)]
    · cases h1
theorem fx_k0 (X : (Int → Int) × Int) : fx_AL (fx_PK X) 0 [fx_t0, fx_t1, fx_t2, fx_t3, fx_t4, fx_t5, fx_t6, fx_t7, fx_t8, fx_t9, fx_t10, fx_t11, fx_t12, fx_t13, fx_t14, fx_t15, fx_t16, fx_t17, fx_t18, fx_t19] := ⟨⟨fx_p0, fx_c0, w0 X⟩, ⟨fx_p1, fx_c1, w1 X⟩, ⟨fx_p2, fx_c2, w2 X⟩, ⟨fx_p3, fx_c3, w3 X⟩, ⟨fx_p4, fx_c4, w4 X⟩, ⟨fx_p5, fx_c5, w5 X⟩, ⟨fx_p6, fx_c6, w6 X⟩, ⟨fx_p7, fx_c7, w7 X⟩, ⟨fx_p8, fx_c8, w8 X⟩, ⟨fx_p9, fx_c9, w9 X⟩, ⟨fx_p10, fx_c10, w10 X⟩, ⟨fx_p11, fx_c11, w11 X⟩, ⟨fx_p12, fx_c12, w12 X⟩, ⟨fx_p13, fx_c13, w13 X⟩, ⟨fx_p14, fx_c14, w14 X⟩, ⟨fx_p15, fx_c15, w15 X⟩, ⟨fx_p16, fx_c16, w16 X⟩, ⟨fx_p17, fx_c17, w17 X⟩, ⟨fx_p18, fx_c18, w18 X⟩, ⟨fx_p19, fx_c19, w19 X⟩, trivial⟩
theorem fx_k20 (X : (Int → Int) × Int) : fx_AL (fx_PK X) 20 [fx_t20, fx_t21, fx_t22, fx_t23, fx_t24, fx_t25, fx_t26, fx_t27, fx_t28, fx_t29, fx_t30, fx_t31, fx_t32, fx_t33, fx_t34, fx_t35, fx_t36, fx_t37, fx_t38, fx_t39] := ⟨⟨fx_p20, fx_c20, w20 X⟩, ⟨fx_p21, fx_c21, w21 X⟩, ⟨fx_p22, fx_c22, w22 X⟩, ⟨fx_p23, fx_c23, w23 X⟩, ⟨fx_p24, fx_c24, w24 X⟩, ⟨fx_p25, fx_c25, w25 X⟩, ⟨fx_p26, fx_c26, w26 X⟩, ⟨fx_p27, fx_c27, w27 X⟩, ⟨fx_p28, fx_c28, w28 X⟩, ⟨fx_p29, fx_c29, w29 X⟩, ⟨fx_p30, fx_c30, w30 X⟩, ⟨fx_p31, fx_c31, w31 X⟩, ⟨fx_p32, fx_c32, w32 X⟩, ⟨fx_p33, fx_c33, w33 X⟩, ⟨fx_p34, fx_c34, w34 X⟩, ⟨fx_p35, fx_c35, w35 X⟩, ⟨fx_p36, fx_c36, w36 X⟩, ⟨fx_p37, fx_c37, w37 X⟩, ⟨fx_p38, fx_c38, w38 X⟩, ⟨fx_p39, fx_c39, w39 X⟩, trivial⟩
theorem fx_k40 (X : (Int → Int) × Int) : fx_AL (fx_PK X) 40 [fx_t40, fx_t41, fx_t42, fx_t43, fx_t44, fx_t45, fx_t46, fx_t47, fx_t48, fx_t49, fx_t50, fx_t51, fx_t52, fx_t53, fx_t54, fx_t55, fx_t56, fx_t57, fx_t58, fx_t59] := ⟨⟨fx_p40, fx_c40, w40 X⟩, ⟨fx_p41, fx_c41, w41 X⟩, ⟨fx_p42, fx_c42, w42 X⟩, ⟨fx_p43, fx_c43, w43 X⟩, ⟨fx_p44, fx_c44, w44 X⟩, ⟨fx_p45, fx_c45, w45 X⟩, ⟨fx_p46, fx_c46, w46 X⟩, ⟨fx_p47, fx_c47, w47 X⟩, ⟨fx_p48, fx_c48, w48 X⟩, ⟨fx_p49, fx_c49, w49 X⟩, ⟨fx_p50, fx_c50, w50 X⟩, ⟨fx_p51, fx_c51, w51 X⟩, ⟨fx_p52, fx_c52, w52 X⟩, ⟨fx_p53, fx_c53, w53 X⟩, ⟨fx_p54, fx_c54, w54 X⟩, ⟨fx_p55, fx_c55, w55 X⟩, ⟨fx_p56, fx_c56, w56 X⟩, ⟨fx_p57, fx_c57, w57 X⟩, ⟨fx_p58, fx_c58, w58 X⟩, ⟨fx_p59, fx_c59, w59 X⟩, trivial⟩
theorem fx_k60 (X : (Int → Int) × Int) : fx_AL (fx_PK X) 60 [fx_t60, fx_t61, fx_t62, fx_t63, fx_t64, fx_t65, fx_t66, fx_t67, fx_t68, fx_t69, fx_t70, fx_t71, fx_t72, fx_t73, fx_t74, fx_t75, fx_t76, fx_t77, fx_t78, fx_t79] := ⟨⟨fx_p60, fx_c60, w60 X⟩, ⟨fx_p61, fx_c61, w61 X⟩, ⟨fx_p62, fx_c62, w62 X⟩, ⟨fx_p63, fx_c63, w63 X⟩, ⟨fx_p64, fx_c64, w64 X⟩, ⟨fx_p65, fx_c65, w65 X⟩, ⟨fx_p66, fx_c66, w66 X⟩, ⟨fx_p67, fx_c67, w67 X⟩, ⟨fx_p68, fx_c68, w68 X⟩, ⟨fx_p69, fx_c69, w69 X⟩, ⟨fx_p70, fx_c70, w70 X⟩, ⟨fx_p71, fx_c71, w71 X⟩, ⟨fx_p72, fx_c72, w72 X⟩, ⟨fx_p73, fx_c73, w73 X⟩, ⟨fx_p74, fx_c74, w74 X⟩, ⟨fx_p75, fx_c75, w75 X⟩, ⟨fx_p76, fx_c76, w76 X⟩, ⟨fx_p77, fx_c77, w77 X⟩, ⟨fx_p78, fx_c78, w78 X⟩, ⟨fx_p79, fx_c79, w79 X⟩, trivial⟩
theorem fx_k80 (X : (Int → Int) × Int) : fx_AL (fx_PK X) 80 [fx_t80, fx_t81, fx_t82, fx_t83, fx_t84, fx_t85, fx_t86, fx_t87, fx_t88, fx_t89, fx_t90, fx_t91, fx_t92, fx_t93, fx_t94, fx_t95, fx_t96, fx_t97, fx_t98, fx_t99] := ⟨⟨fx_p80, fx_c80, w80 X⟩, ⟨fx_p81, fx_c81, w81 X⟩, ⟨fx_p82, fx_c82, w82 X⟩, ⟨fx_p83, fx_c83, w83 X⟩, ⟨fx_p84, fx_c84, w84 X⟩, ⟨fx_p85, fx_c85, w85 X⟩, ⟨fx_p86, fx_c86, w86 X⟩, ⟨fx_p87, fx_c87, w87 X⟩, ⟨fx_p88, fx_c88, w88 X⟩, ⟨fx_p89, fx_c89, w89 X⟩, ⟨fx_p90, fx_c90, w90 X⟩, ⟨fx_p91, fx_c91, w91 X⟩, ⟨fx_p92, fx_c92, w92 X⟩, ⟨fx_p93, fx_c93, w93 X⟩, ⟨fx_p94, fx_c94, w94 X⟩, ⟨fx_p95, fx_c95, w95 X⟩, ⟨fx_p96, fx_c96, w96 X⟩, ⟨fx_p97, fx_c97, w97 X⟩, ⟨fx_p98, fx_c98, w98 X⟩, ⟨fx_p99, fx_c99, w99 X⟩, trivial⟩
theorem fx_k100 (X : (Int → Int) × Int) : fx_AL (fx_PK X) 100 [fx_t100, fx_t101, fx_t102, fx_t103, fx_t104, fx_t105, fx_t106, fx_t107, fx_t108, fx_t109, fx_t110, fx_t111, fx_t112, fx_t113, fx_t114, fx_t115, fx_t116, fx_t117, fx_t118, fx_t119] := ⟨⟨fx_p100, fx_c100, w100 X⟩, ⟨fx_p101, fx_c101, w101 X⟩, ⟨fx_p102, fx_c102, w102 X⟩, ⟨fx_p103, fx_c103, w103 X⟩, ⟨fx_p104, fx_c104, w104 X⟩, ⟨fx_p105, fx_c105, w105 X⟩, ⟨fx_p106, fx_c106, w106 X⟩, ⟨fx_p107, fx_c107, w107 X⟩, ⟨fx_p108, fx_c108, w108 X⟩, ⟨fx_p109, fx_c109, w109 X⟩, ⟨fx_p110, fx_c110, w110 X⟩, ⟨fx_p111, fx_c111, w111 X⟩, ⟨fx_p112, fx_c112, w112 X⟩, ⟨fx_p113, fx_c113, w113 X⟩, ⟨fx_p114, fx_c114, w114 X⟩, ⟨fx_p115, fx_c115, w115 X⟩, ⟨fx_p116, fx_c116, w116 X⟩, ⟨fx_p117, fx_c117, w117 X⟩, ⟨fx_p118, fx_c118, w118 X⟩, ⟨fx_p119, fx_c119, w119 X⟩, trivial⟩
theorem fx_k120 (X : (Int → Int) × Int) : fx_AL (fx_PK X) 120 [fx_t120, fx_t121, fx_t122, fx_t123, fx_t124, fx_t125, fx_t126, fx_t127, fx_t128, fx_t129, fx_t130, fx_t131, fx_t132, fx_t133, fx_t134, fx_t135, fx_t136, fx_t137, fx_t138, fx_t139] := ⟨⟨fx_p120, fx_c120, w120 X⟩, ⟨fx_p121, fx_c121, w121 X⟩, ⟨fx_p122, fx_c122, w122 X⟩, ⟨fx_p123, fx_c123, w123 X⟩, ⟨fx_p124, fx_c124, w124 X⟩, ⟨fx_p125, fx_c125, w125 X⟩, ⟨fx_p126, fx_c126, w126 X⟩, ⟨fx_p127, fx_c127, w127 X⟩, ⟨fx_p128, fx_c128, w128 X⟩, ⟨fx_p129, fx_c129, w129 X⟩, ⟨fx_p130, fx_c130, w130 X⟩, ⟨fx_p131, fx_c131, w131 X⟩, ⟨fx_p132, fx_c132, w132 X⟩, ⟨fx_p133, fx_c133, w133 X⟩, ⟨fx_p134, fx_c134, w134 X⟩, ⟨fx_p135, fx_c135, w135 X⟩, ⟨fx_p136, fx_c136, w136 X⟩, ⟨fx_p137, fx_c137, w137 X⟩, ⟨fx_p138, fx_c138, w138 X⟩, ⟨fx_p139, fx_c139, w139 X⟩, trivial⟩
theorem fx_k140 (X : (Int → Int) × Int) : fx_AL (fx_PK X) 140 [fx_t140, fx_t141, fx_t142, fx_t143, fx_t144, fx_t145, fx_t146, fx_t147, fx_t148, fx_t149, fx_t150, fx_t151, fx_t152, fx_t153, fx_t154, fx_t155, fx_t156, fx_t157, fx_t158, fx_t159] := ⟨⟨fx_p140, fx_c140, w140 X⟩, ⟨fx_p141, fx_c141, w141 X⟩, ⟨fx_p142, fx_c142, w142 X⟩, ⟨fx_p143, fx_c143, w143 X⟩, ⟨fx_p144, fx_c144, w144 X⟩, ⟨fx_p145, fx_c145, w145 X⟩, ⟨fx_p146, fx_c146, w146 X⟩, ⟨fx_p147, fx_c147, w147 X⟩, ⟨fx_p148, fx_c148, w148 X⟩, ⟨fx_p149, fx_c149, w149 X⟩, ⟨fx_p150, fx_c150, w150 X⟩, ⟨fx_p151, fx_c151, w151 X⟩, ⟨fx_p152, fx_c152, w152 X⟩, ⟨fx_p153, fx_c153, w153 X⟩, ⟨fx_p154, fx_c154, w154 X⟩, ⟨fx_p155, fx_c155, w155 X⟩, ⟨fx_p156, fx_c156, w156 X⟩, ⟨fx_p157, fx_c157, w157 X⟩, ⟨fx_p158, fx_c158, w158 X⟩, ⟨fx_p159, fx_c159, w159 X⟩, trivial⟩
theorem fx_k160 (X : (Int → Int) × Int) : fx_AL (fx_PK X) 160 [fx_t160, fx_t161, fx_t162, fx_t163, fx_t164, fx_t165, fx_t166, fx_t167, fx_t168, fx_t169, fx_t170, fx_t171, fx_t172, fx_t173, fx_t174, fx_t175, fx_t176, fx_t177, fx_t178, fx_t179] := ⟨⟨fx_p160, fx_c160, w160 X⟩, ⟨fx_p161, fx_c161, w161 X⟩, ⟨fx_p162, fx_c162, w162 X⟩, ⟨fx_p163, fx_c163, w163 X⟩, ⟨fx_p164, fx_c164, w164 X⟩, ⟨fx_p165, fx_c165, w165 X⟩, ⟨fx_p166, fx_c166, w166 X⟩, ⟨fx_p167, fx_c167, w167 X⟩, ⟨fx_p168, fx_c168, w168 X⟩, ⟨fx_p169, fx_c169, w169 X⟩, ⟨fx_p170, fx_c170, w170 X⟩, ⟨fx_p171, fx_c171, w171 X⟩, ⟨fx_p172, fx_c172, w172 X⟩, ⟨fx_p173, fx_c173, w173 X⟩, ⟨fx_p174, fx_c174, w174 X⟩, ⟨fx_p175, fx_c175, w175 X⟩, ⟨fx_p176, fx_c176, w176 X⟩, ⟨fx_p177, fx_c177, w177 X⟩, ⟨fx_p178, fx_c178, w178 X⟩, ⟨fx_p179, fx_c179, w179 X⟩, trivial⟩
theorem fx_k180 (X : (Int → Int) × Int) : fx_AL (fx_PK X) 180 [fx_t180, fx_t181, fx_t182, fx_t183, fx_t184, fx_t185, fx_t186, fx_t187, fx_t188, fx_t189, fx_t190, fx_t191, fx_t192, fx_t193, fx_t194, fx_t195, fx_t196, fx_t197, fx_t198, fx_t199] := ⟨⟨fx_p180, fx_c180, w180 X⟩, ⟨fx_p181, fx_c181, w181 X⟩, ⟨fx_p182, fx_c182, w182 X⟩, ⟨fx_p183, fx_c183, w183 X⟩, ⟨fx_p184, fx_c184, w184 X⟩, ⟨fx_p185, fx_c185, w185 X⟩, ⟨fx_p186, fx_c186, w186 X⟩, ⟨fx_p187, fx_c187, w187 X⟩, ⟨fx_p188, fx_c188, w188 X⟩, ⟨fx_p189, fx_c189, w189 X⟩, ⟨fx_p190, fx_c190, w190 X⟩, ⟨fx_p191, fx_c191, w191 X⟩, ⟨fx_p192, fx_c192, w192 X⟩, ⟨fx_p193, fx_c193, w193 X⟩, ⟨fx_p194, fx_c194, w194 X⟩, ⟨fx_p195, fx_c195, w195 X⟩, ⟨fx_p196, fx_c196, w196 X⟩, ⟨fx_p197, fx_c197, w197 X⟩, ⟨fx_p198, fx_c198, w198 X⟩, ⟨fx_p199, fx_c199, w199 X⟩, trivial⟩
theorem fx_k200 (X : (Int → Int) × Int) : fx_AL (fx_PK X) 200 [fx_t200, fx_t201, fx_t202, fx_t203, fx_t204, fx_t205, fx_t206, fx_t207, fx_t208, fx_t209, fx_t210, fx_t211, fx_t212, fx_t213, fx_t214, fx_t215, fx_t216, fx_t217, fx_t218, fx_t219] := ⟨⟨fx_p200, fx_c200, w200 X⟩, ⟨fx_p201, fx_c201, w201 X⟩, ⟨fx_p202, fx_c202, w202 X⟩, ⟨fx_p203, fx_c203, w203 X⟩, ⟨fx_p204, fx_c204, w204 X⟩, ⟨fx_p205, fx_c205, w205 X⟩, ⟨fx_p206, fx_c206, w206 X⟩, ⟨fx_p207, fx_c207, w207 X⟩, ⟨fx_p208, fx_c208, w208 X⟩, ⟨fx_p209, fx_c209, w209 X⟩, ⟨fx_p210, fx_c210, w210 X⟩, ⟨fx_p211, fx_c211, w211 X⟩, ⟨fx_p212, fx_c212, w212 X⟩, ⟨fx_p213, fx_c213, w213 X⟩, ⟨fx_p214, fx_c214, w214 X⟩, ⟨fx_p215, fx_c215, w215 X⟩, ⟨fx_p216, fx_c216, w216 X⟩, ⟨fx_p217, fx_c217, w217 X⟩, ⟨fx_p218, fx_c218, w218 X⟩, ⟨fx_p219, fx_c219, w219 X⟩, trivial⟩
theorem fx_k220 (X : (Int → Int) × Int) : fx_AL (fx_PK X) 220 [fx_t220, fx_t221, fx_t222, fx_t223, fx_t224, fx_t225, fx_t226, fx_t227, fx_t228, fx_t229, fx_t230, fx_t231, fx_t232, fx_t233, fx_t234, fx_t235, fx_t236, fx_t237, fx_t238, fx_t239] := ⟨⟨fx_p220, fx_c220, w220 X⟩, ⟨fx_p221, fx_c221, w221 X⟩, ⟨fx_p222, fx_c222, w222 X⟩, ⟨fx_p223, fx_c223, w223 X⟩, ⟨fx_p224, fx_c224, w224 X⟩, ⟨fx_p225, fx_c225, w225 X⟩, ⟨fx_p226, fx_c226, w226 X⟩, ⟨fx_p227, fx_c227, w227 X⟩, ⟨fx_p228, fx_c228, w228 X⟩, ⟨fx_p229, fx_c229, w229 X⟩, ⟨fx_p230, fx_c230, w230 X⟩, ⟨fx_p231, fx_c231, w231 X⟩, ⟨fx_p232, fx_c232, w232 X⟩, ⟨fx_p233, fx_c233, w233 X⟩, ⟨fx_p234, fx_c234, w234 X⟩, ⟨fx_p235, fx_c235, w235 X⟩, ⟨fx_p236, fx_c236, w236 X⟩, ⟨fx_p237, fx_c237, w237 X⟩, ⟨fx_p238, fx_c238, w238 X⟩, ⟨fx_p239, fx_c239, w239 X⟩, trivial⟩
theorem fx_k240 (X : (Int → Int) × Int) : fx_AL (fx_PK X) 240 [fx_t240, fx_t241, fx_t242, fx_t243, fx_t244, fx_t245, fx_t246, fx_t247, fx_t248, fx_t249, fx_t250, fx_t251, fx_t252, fx_t253, fx_t254, fx_t255, fx_t256, fx_t257, fx_t258, fx_t259] := ⟨⟨fx_p240, fx_c240, w240 X⟩, ⟨fx_p241, fx_c241, w241 X⟩, ⟨fx_p242, fx_c242, w242 X⟩, ⟨fx_p243, fx_c243, w243 X⟩, ⟨fx_p244, fx_c244, w244 X⟩, ⟨fx_p245, fx_c245, w245 X⟩, ⟨fx_p246, fx_c246, w246 X⟩, ⟨fx_p247, fx_c247, w247 X⟩, ⟨fx_p248, fx_c248, w248 X⟩, ⟨fx_p249, fx_c249, w249 X⟩, ⟨fx_p250, fx_c250, w250 X⟩, ⟨fx_p251, fx_c251, w251 X⟩, ⟨fx_p252, fx_c252, w252 X⟩, ⟨fx_p253, fx_c253, w253 X⟩, ⟨fx_p254, fx_c254, w254 X⟩, ⟨fx_p255, fx_c255, w255 X⟩, ⟨fx_p256, fx_c256, w256 X⟩, ⟨fx_p257, fx_c257, w257 X⟩, ⟨fx_p258, fx_c258, w258 X⟩, ⟨fx_p259, fx_c259, w259 X⟩, trivial⟩
theorem fx_k260 (X : (Int → Int) × Int) : fx_AL (fx_PK X) 260 [fx_t260, fx_t261, fx_t262, fx_t263, fx_t264, fx_t265, fx_t266, fx_t267, fx_t268, fx_t269, fx_t270, fx_t271, fx_t272, fx_t273, fx_t274, fx_t275, fx_t276, fx_t277, fx_t278, fx_t279] := ⟨⟨fx_p260, fx_c260, w260 X⟩, ⟨fx_p261, fx_c261, w261 X⟩, ⟨fx_p262, fx_c262, w262 X⟩, ⟨fx_p263, fx_c263, w263 X⟩, ⟨fx_p264, fx_c264, w264 X⟩, ⟨fx_p265, fx_c265, w265 X⟩, ⟨fx_p266, fx_c266, w266 X⟩, ⟨fx_p267, fx_c267, w267 X⟩, ⟨fx_p268, fx_c268, w268 X⟩, ⟨fx_p269, fx_c269, w269 X⟩, ⟨fx_p270, fx_c270, w270 X⟩, ⟨fx_p271, fx_c271, w271 X⟩, ⟨fx_p272, fx_c272, w272 X⟩, ⟨fx_p273, fx_c273, w273 X⟩, ⟨fx_p274, fx_c274, w274 X⟩, ⟨fx_p275, fx_c275, w275 X⟩, ⟨fx_p276, fx_c276, w276 X⟩, ⟨fx_p277, fx_c277, w277 X⟩, ⟨fx_p278, fx_c278, w278 X⟩, ⟨fx_p279, fx_c279, w279 X⟩, trivial⟩
theorem fx_k280 (X : (Int → Int) × Int) : fx_AL (fx_PK X) 280 [fx_t280, fx_t281, fx_t282, fx_t283, fx_t284, fx_t285, fx_t286, fx_t287, fx_t288, fx_t289, fx_t290, fx_t291, fx_t292, fx_t293, fx_t294, fx_t295, fx_t296, fx_t297, fx_t298, fx_t299] := ⟨⟨fx_p280, fx_c280, w280 X⟩, ⟨fx_p281, fx_c281, w281 X⟩, ⟨fx_p282, fx_c282, w282 X⟩, ⟨fx_p283, fx_c283, w283 X⟩, ⟨fx_p284, fx_c284, w284 X⟩, ⟨fx_p285, fx_c285, w285 X⟩, ⟨fx_p286, fx_c286, w286 X⟩, ⟨fx_p287, fx_c287, w287 X⟩, ⟨fx_p288, fx_c288, w288 X⟩, ⟨fx_p289, fx_c289, w289 X⟩, ⟨fx_p290, fx_c290, w290 X⟩, ⟨fx_p291, fx_c291, w291 X⟩, ⟨fx_p292, fx_c292, w292 X⟩, ⟨fx_p293, fx_c293, w293 X⟩, ⟨fx_p294, fx_c294, w294 X⟩, ⟨fx_p295, fx_c295, w295 X⟩, ⟨fx_p296, fx_c296, w296 X⟩, ⟨fx_p297, fx_c297, w297 X⟩, ⟨fx_p298, fx_c298, w298 X⟩, ⟨fx_p299, fx_c299, w299 X⟩, trivial⟩
theorem fx_k300 (X : (Int → Int) × Int) : fx_AL (fx_PK X) 300 [fx_t300, fx_t301, fx_t302, fx_t303, fx_t304, fx_t305, fx_t306, fx_t307, fx_t308, fx_t309, fx_t310, fx_t311, fx_t312, fx_t313, fx_t314, fx_t315, fx_t316, fx_t317, fx_t318, fx_t319] := ⟨⟨fx_p300, fx_c300, w300 X⟩, ⟨fx_p301, fx_c301, w301 X⟩, ⟨fx_p302, fx_c302, w302 X⟩, ⟨fx_p303, fx_c303, w303 X⟩, ⟨fx_p304, fx_c304, w304 X⟩, ⟨fx_p305, fx_c305, w305 X⟩, ⟨fx_p306, fx_c306, w306 X⟩, ⟨fx_p307, fx_c307, w307 X⟩, ⟨fx_p308, fx_c308, w308 X⟩, ⟨fx_p309, fx_c309, w309 X⟩, ⟨fx_p310, fx_c310, w310 X⟩, ⟨fx_p311, fx_c311, w311 X⟩, ⟨fx_p312, fx_c312, w312 X⟩, ⟨fx_p313, fx_c313, w313 X⟩, ⟨fx_p314, fx_c314, w314 X⟩, ⟨fx_p315, fx_c315, w315 X⟩, ⟨fx_p316, fx_c316, w316 X⟩, ⟨fx_p317, fx_c317, w317 X⟩, ⟨fx_p318, fx_c318, w318 X⟩, ⟨fx_p319, fx_c319, w319 X⟩, trivial⟩
theorem fx_k320 (X : (Int → Int) × Int) : fx_AL (fx_PK X) 320 [fx_t320, fx_t321, fx_t322, fx_t323, fx_t324, fx_t325, fx_t326, fx_t327, fx_t328, fx_t329, fx_t330, fx_t331, fx_t332, fx_t333, fx_t334, fx_t335, fx_t336, fx_t337, fx_t338, fx_t339] := ⟨⟨fx_p320, fx_c320, w320 X⟩, ⟨fx_p321, fx_c321, w321 X⟩, ⟨fx_p322, fx_c322, w322 X⟩, ⟨fx_p323, fx_c323, w323 X⟩, ⟨fx_p324, fx_c324, w324 X⟩, ⟨fx_p325, fx_c325, w325 X⟩, ⟨fx_p326, fx_c326, w326 X⟩, ⟨fx_p327, fx_c327, w327 X⟩, ⟨fx_p328, fx_c328, w328 X⟩, ⟨fx_p329, fx_c329, w329 X⟩, ⟨fx_p330, fx_c330, w330 X⟩, ⟨fx_p331, fx_c331, w331 X⟩, ⟨fx_p332, fx_c332, w332 X⟩, ⟨fx_p333, fx_c333, w333 X⟩, ⟨fx_p334, fx_c334, w334 X⟩, ⟨fx_p335, fx_c335, w335 X⟩, ⟨fx_p336, fx_c336, w336 X⟩, ⟨fx_p337, fx_c337, w337 X⟩, ⟨fx_p338, fx_c338, w338 X⟩, ⟨fx_p339, fx_c339, w339 X⟩, trivial⟩
theorem fx_k340 (X : (Int → Int) × Int) : fx_AL (fx_PK X) 340 [fx_t340, fx_t341, fx_t342, fx_t343, fx_t344, fx_t345, fx_t346, fx_t347, fx_t348, fx_t349, fx_t350, fx_t351, fx_t352, fx_t353, fx_t354, fx_t355, fx_t356, fx_t357, fx_t358, fx_t359] := ⟨⟨fx_p340, fx_c340, w340 X⟩, ⟨fx_p341, fx_c341, w341 X⟩, ⟨fx_p342, fx_c342, w342 X⟩, ⟨fx_p343, fx_c343, w343 X⟩, ⟨fx_p344, fx_c344, w344 X⟩, ⟨fx_p345, fx_c345, w345 X⟩, ⟨fx_p346, fx_c346, w346 X⟩, ⟨fx_p347, fx_c347, w347 X⟩, ⟨fx_p348, fx_c348, w348 X⟩, ⟨fx_p349, fx_c349, w349 X⟩, ⟨fx_p350, fx_c350, w350 X⟩, ⟨fx_p351, fx_c351, w351 X⟩, ⟨fx_p352, fx_c352, w352 X⟩, ⟨fx_p353, fx_c353, w353 X⟩, ⟨fx_p354, fx_c354, w354 X⟩, ⟨fx_p355, fx_c355, w355 X⟩, ⟨fx_p356, fx_c356, w356 X⟩, ⟨fx_p357, fx_c357, w357 X⟩, ⟨fx_p358, fx_c358, w358 X⟩, ⟨fx_p359, fx_c359, w359 X⟩, trivial⟩
theorem fx_k360 (X : (Int → Int) × Int) : fx_AL (fx_PK X) 360 [fx_t360, fx_t361, fx_t362, fx_t363, fx_t364, fx_t365, fx_t366, fx_t367, fx_t368, fx_t369, fx_t370, fx_t371, fx_t372, fx_t373, fx_t374, fx_t375, fx_t376, fx_t377, fx_t378, fx_t379] := ⟨⟨fx_p360, fx_c360, w360 X⟩, ⟨fx_p361, fx_c361, w361 X⟩, ⟨fx_p362, fx_c362, w362 X⟩, ⟨fx_p363, fx_c363, w363 X⟩, ⟨fx_p364, fx_c364, w364 X⟩, ⟨fx_p365, fx_c365, w365 X⟩, ⟨fx_p366, fx_c366, w366 X⟩, ⟨fx_p367, fx_c367, w367 X⟩, ⟨fx_p368, fx_c368, w368 X⟩, ⟨fx_p369, fx_c369, w369 X⟩, ⟨fx_p370, fx_c370, w370 X⟩, ⟨fx_p371, fx_c371, w371 X⟩, ⟨fx_p372, fx_c372, w372 X⟩, ⟨fx_p373, fx_c373, w373 X⟩, ⟨fx_p374, fx_c374, w374 X⟩, ⟨fx_p375, fx_c375, w375 X⟩, ⟨fx_p376, fx_c376, w376 X⟩, ⟨fx_p377, fx_c377, w377 X⟩, ⟨fx_p378, fx_c378, w378 X⟩, ⟨fx_p379, fx_c379, w379 X⟩, trivial⟩
theorem fx_k380 (X : (Int → Int) × Int) : fx_AL (fx_PK X) 380 [fx_t380, fx_t381, fx_t382, fx_t383, fx_t384, fx_t385, fx_t386, fx_t387, fx_t388, fx_t389, fx_t390, fx_t391, fx_t392, fx_t393, fx_t394, fx_t395, fx_t396, fx_t397, fx_t398, fx_t399] := ⟨⟨fx_p380, fx_c380, w380 X⟩, ⟨fx_p381, fx_c381, w381 X⟩, ⟨fx_p382, fx_c382, w382 X⟩, ⟨fx_p383, fx_c383, w383 X⟩, ⟨fx_p384, fx_c384, w384 X⟩, ⟨fx_p385, fx_c385, w385 X⟩, ⟨fx_p386, fx_c386, w386 X⟩, ⟨fx_p387, fx_c387, w387 X⟩, ⟨fx_p388, fx_c388, w388 X⟩, ⟨fx_p389, fx_c389, w389 X⟩, ⟨fx_p390, fx_c390, w390 X⟩, ⟨fx_p391, fx_c391, w391 X⟩, ⟨fx_p392, fx_c392, w392 X⟩, ⟨fx_p393, fx_c393, w393 X⟩, ⟨fx_p394, fx_c394, w394 X⟩, ⟨fx_p395, fx_c395, w395 X⟩, ⟨fx_p396, fx_c396, w396 X⟩, ⟨fx_p397, fx_c397, w397 X⟩, ⟨fx_p398, fx_c398, w398 X⟩, ⟨fx_p399, fx_c399, w399 X⟩, trivial⟩
theorem fx_k400 (X : (Int → Int) × Int) : fx_AL (fx_PK X) 400 [fx_t400, fx_t401, fx_t402, fx_t403, fx_t404, fx_t405, fx_t406, fx_t407, fx_t408, fx_t409, fx_t410, fx_t411, fx_t412, fx_t413, fx_t414, fx_t415] := ⟨⟨fx_p400, fx_c400, w400 X⟩, ⟨fx_p401, fx_c401, w401 X⟩, ⟨fx_p402, fx_c402, w402 X⟩, ⟨fx_p403, fx_c403, w403 X⟩, ⟨fx_p404, fx_c404, w404 X⟩, ⟨fx_p405, fx_c405, w405 X⟩, ⟨fx_p406, fx_c406, w406 X⟩, ⟨fx_p407, fx_c407, w407 X⟩, ⟨fx_p408, fx_c408, w408 X⟩, ⟨fx_p409, fx_c409, w409 X⟩, ⟨fx_p410, fx_c410, w410 X⟩, ⟨fx_p411, fx_c411, w411 X⟩, ⟨fx_p412, fx_c412, w412 X⟩, ⟨fx_p413, fx_c413, w413 X⟩, ⟨fx_p414, fx_c414, w414 X⟩, ⟨fx_p415, fx_c415, w415 X⟩, trivial⟩
set_option maxRecDepth 100000 in
theorem fx_Tl : fx_T = [fx_t0, fx_t1, fx_t2, fx_t3, fx_t4, fx_t5, fx_t6, fx_t7, fx_t8, fx_t9, fx_t10, fx_t11, fx_t12, fx_t13, fx_t14, fx_t15, fx_t16, fx_t17, fx_t18, fx_t19] ++ ([fx_t20, fx_t21, fx_t22, fx_t23, fx_t24, fx_t25, fx_t26, fx_t27, fx_t28, fx_t29, fx_t30, fx_t31, fx_t32, fx_t33, fx_t34, fx_t35, fx_t36, fx_t37, fx_t38, fx_t39] ++ ([fx_t40, fx_t41, fx_t42, fx_t43, fx_t44, fx_t45, fx_t46, fx_t47, fx_t48, fx_t49, fx_t50, fx_t51, fx_t52, fx_t53, fx_t54, fx_t55, fx_t56, fx_t57, fx_t58, fx_t59] ++ ([fx_t60, fx_t61, fx_t62, fx_t63, fx_t64, fx_t65, fx_t66, fx_t67, fx_t68, fx_t69, fx_t70, fx_t71, fx_t72, fx_t73, fx_t74, fx_t75, fx_t76, fx_t77, fx_t78, fx_t79] ++ ([fx_t80, fx_t81, fx_t82, fx_t83, fx_t84, fx_t85, fx_t86, fx_t87, fx_t88, fx_t89, fx_t90, fx_t91, fx_t92, fx_t93, fx_t94, fx_t95, fx_t96, fx_t97, fx_t98, fx_t99] ++ ([fx_t100, fx_t101, fx_t102, fx_t103, fx_t104, fx_t105, fx_t106, fx_t107, fx_t108, fx_t109, fx_t110, fx_t111, fx_t112, fx_t113, fx_t114, fx_t115, fx_t116, fx_t117, fx_t118, fx_t119] ++ ([fx_t120, fx_t121, fx_t122, fx_t123, fx_t124, fx_t125, fx_t126, fx_t127, fx_t128, fx_t129, fx_t130, fx_t131, fx_t132, fx_t133, fx_t134, fx_t135, fx_t136, fx_t137, fx_t138, fx_t139] ++ ([fx_t140, fx_t141, fx_t142, fx_t143, fx_t144, fx_t145, fx_t146, fx_t147, fx_t148, fx_t149, fx_t150, fx_t151, fx_t152, fx_t153, fx_t154, fx_t155, fx_t156, fx_t157, fx_t158, fx_t159] ++ ([fx_t160, fx_t161, fx_t162, fx_t163, fx_t164, fx_t165, fx_t166, fx_t167, fx_t168, fx_t169, fx_t170, fx_t171, fx_t172, fx_t173, fx_t174, fx_t175, fx_t176, fx_t177, fx_t178, fx_t179] ++ ([fx_t180, fx_t181, fx_t182, fx_t183, fx_t184, fx_t185, fx_t186, fx_t187, fx_t188, fx_t189, fx_t190, fx_t191, fx_t192, fx_t193, fx_t194, fx_t195, fx_t196, fx_t197, fx_t198, fx_t199] ++ ([fx_t200, fx_t201, fx_t202, fx_t203, fx_t204, fx_t205, fx_t206, fx_t207, fx_t208, fx_t209, fx_t210, fx_t211, fx_t212, fx_t213, fx_t214, fx_t215, fx_t216, fx_t217, fx_t218, fx_t219] ++ ([fx_t220, fx_t221, fx_t222, fx_t223, fx_t224, fx_t225, fx_t226, fx_t227, fx_t228, fx_t229, fx_t230, fx_t231, fx_t232, fx_t233, fx_t234, fx_t235, fx_t236, fx_t237, fx_t238, fx_t239] ++ ([fx_t240, fx_t241, fx_t242, fx_t243, fx_t244, fx_t245, fx_t246, fx_t247, fx_t248, fx_t249, fx_t250, fx_t251, fx_t252, fx_t253, fx_t254, fx_t255, fx_t256, fx_t257, fx_t258, fx_t259] ++ ([fx_t260, fx_t261, fx_t262, fx_t263, fx_t264, fx_t265, fx_t266, fx_t267, fx_t268, fx_t269, fx_t270, fx_t271, fx_t272, fx_t273, fx_t274, fx_t275, fx_t276, fx_t277, fx_t278, fx_t279] ++ ([fx_t280, fx_t281, fx_t282, fx_t283, fx_t284, fx_t285, fx_t286, fx_t287, fx_t288, fx_t289, fx_t290, fx_t291, fx_t292, fx_t293, fx_t294, fx_t295, fx_t296, fx_t297, fx_t298, fx_t299] ++ ([fx_t300, fx_t301, fx_t302, fx_t303, fx_t304, fx_t305, fx_t306, fx_t307, fx_t308, fx_t309, fx_t310, fx_t311, fx_t312, fx_t313, fx_t314, fx_t315, fx_t316, fx_t317, fx_t318, fx_t319] ++ ([fx_t320, fx_t321, fx_t322, fx_t323, fx_t324, fx_t325, fx_t326, fx_t327, fx_t328, fx_t329, fx_t330, fx_t331, fx_t332, fx_t333, fx_t334, fx_t335, fx_t336, fx_t337, fx_t338, fx_t339] ++ ([fx_t340, fx_t341, fx_t342, fx_t343, fx_t344, fx_t345, fx_t346, fx_t347, fx_t348, fx_t349, fx_t350, fx_t351, fx_t352, fx_t353, fx_t354, fx_t355, fx_t356, fx_t357, fx_t358, fx_t359] ++ ([fx_t360, fx_t361, fx_t362, fx_t363, fx_t364, fx_t365, fx_t366, fx_t367, fx_t368, fx_t369, fx_t370, fx_t371, fx_t372, fx_t373, fx_t374, fx_t375, fx_t376, fx_t377, fx_t378, fx_t379] ++ ([fx_t380, fx_t381, fx_t382, fx_t383, fx_t384, fx_t385, fx_t386, fx_t387, fx_t388, fx_t389, fx_t390, fx_t391, fx_t392, fx_t393, fx_t394, fx_t395, fx_t396, fx_t397, fx_t398, fx_t399] ++ ([fx_t400, fx_t401, fx_t402, fx_t403, fx_t404, fx_t405, fx_t406, fx_t407, fx_t408, fx_t409, fx_t410, fx_t411, fx_t412, fx_t413, fx_t414, fx_t415])))))))))))))))))))) := rfl
set_option maxRecDepth 100000 in
theorem fx_ks (X : (Int → Int) × Int) : fx_AL (fx_PK X) 0 fx_T := by
  rw [fx_Tl]
  exact fx_AL_app (fx_k0 X) (fx_AL_app (fx_k20 X) (fx_AL_app (fx_k40 X) (fx_AL_app (fx_k60 X) (fx_AL_app (fx_k80 X) (fx_AL_app (fx_k100 X) (fx_AL_app (fx_k120 X) (fx_AL_app (fx_k140 X) (fx_AL_app (fx_k160 X) (fx_AL_app (fx_k180 X) (fx_AL_app (fx_k200 X) (fx_AL_app (fx_k220 X) (fx_AL_app (fx_k240 X) (fx_AL_app (fx_k260 X) (fx_AL_app (fx_k280 X) (fx_AL_app (fx_k300 X) (fx_AL_app (fx_k320 X) (fx_AL_app (fx_k340 X) (fx_AL_app (fx_k360 X) (fx_AL_app (fx_k380 X) (fx_k400 X))))))))))))))))))))
/-- the indices that the start writes of row p -/
def fx_lix (l : List fx_Ev) (p : Int) : List Int := l.filterMap (fun e => match e with
  | (4, _, [(0, q), (0, j), (0, _)]) => if q == p then some j else none
  | _ => none)
theorem fx_lits_lix (l : List fx_Ev) (p i : Int) : fx_lits l p i = (fx_lix l p).contains i := by
  unfold fx_lits fx_lix
  induction l with
  | nil => rfl
  | cons e l ih =>
    rw [List.any_cons, ih, List.filterMap_cons]
    unfold fx_li1
    split
    · rename_i c q j v
      by_cases h : q = p
      · subst h
        by_cases hj : j = i
        · subst hj
          simp
        · have b1 : (j == i) = false := by simpa using hj
          have b2 : (i == j) = false := by simpa using Ne.symm hj
          simp [b1, b2]
      · simp [h]
    · rename_i x
      simp
theorem fx_start_RI {S : fx_S} {l : List fx_Ev} (ha : l.all fx_lit = true) (hl : fx_lix l 54 = fx_lix l 87) (hq : ∀ s : Int, 0 ≤ s → s < 4 → S.1 87 s = -1) (h : ∀ p i : Int, S.1 p i = if fx_lits l p i = true then -1 else 0) (r : ∀ p i : Int, S.2.1 p i = -1) (n : S.2.2 = 91) : fx_RI S := by
  have z : ∀ p i : Int, ¬ (p = 50 ∨ p = 54 ∨ p = 57 ∨ p = 61 ∨ p = 66 ∨ p = 87) → S.1 p i = 0 := fun p i hp => by
    rw [h, if_neg (fun q => hp (fx_lits_row ha q))]
  have w : ∀ i, S.1 67 i = 0 := fun i => z 67 i (by omega)
  refine ⟨⟨⟨?_, ?_, ?_, ?_, ?_, ?_, ?_, ?_, ?_, fun q q0 q1 => ?_, fun s s0 s1 => ?_⟩, fun k k0 k1 k2 => absurd (z 69 k (by omega)) k2⟩, by omega, ⟨fun s => by rw [h, h, fx_lits_lix, fx_lits_lix, hl], fun s => by rw [z 53 s (by omega), z 88 s (by omega)], fun s => by rw [z 55 s (by omega), z 89 s (by omega)], fun s s0 s1 => by rw [hq s s0 s1]; omega⟩,
    ⟨⟨?_, ?_, ?_⟩, ⟨?_, fun g g0 g1 => ?_, fun g g0 g1 => ?_, fun g g0 g1 => ?_⟩, ⟨?_, fun g g0 g1 => ?_, fun g g0 g1 => ?_, fun g g0 g1 => ?_⟩, ⟨?_, fun g g0 g1 => ?_, fun g g0 g1 => ?_, fun g g0 g1 => ?_, fun g g0 g1 => ?_, fun g g0 g1 => ?_, fun g g0 g1 => ?_, fun g g0 g1 => ?_, fun g k g0 g1 => ?_⟩, ⟨?_, fun g g0 g1 => ?_, fun g g0 g1 => ?_, fun g g0 g1 => ?_, fun g g0 g1 => ?_⟩⟩, fun k k0 k1 => .inl ⟨z 69 k (by omega), r 49 k⟩, fun k l _ _ _ _ _ => .inl (r 49 k)⟩
  all_goals first | (rw [w] at q1; omega) | (rw [w] at s1; omega) | (rw [w] at g1; omega) | (rw [w]; omega) | (rw [w]; exact z _ _ (by omega))
def fx_tl0 (x : Option fx_V ⊕ (Nat × List fx_O)) : Bool := match x with
  | .inr (k, [(0, 0)]) => k == 0
  | _ => false
theorem fx_tl0_ok {x : Option fx_V ⊕ (Nat × List fx_O)} (h : fx_tl0 x = true) : x = .inr (0, [(0, 0)]) := by
  unfold fx_tl0 at h
  split at h
  · rename_i k
    have hk : k = 0 := by simpa using h
    subst hk
    rfl
  · cases h
def fx_sc (en : fx_En) : Bool := fx_tl0 en.2 && ((en.1.2.2.reverse).all fx_lit && (((en.1.2.2.reverse).countP (fun e => e.1 == 6) == 91) && ((fx_lix en.1.2.2.reverse 54 == [0, 1, 2, 3]) && (fx_lix en.1.2.2.reverse 87 == [0, 1, 2, 3]))))
theorem fx_stb : (match fx_run fx_T 2000 true 334 0 [(0, (7, (0, 0), 0))] [] (0, ((0, 0), []), []) with
  | some es => es.all fx_sc
  | none => false) = true := by decide +kernel
/-- the law answers 1, whenever it answers -/
theorem fx_law {E : cz_E} (hE : cz_Eok E) {f d : Nat} {v : Option Value} {h' : cz_H} (g : cz_go E f d 334 0 [(0, .ref E.2.1.1)] [] [] = some (v, h')) : v = some (.int 1) := by
  have X0 : ∃ X : (Int → Int) × Int, X = (fun z => (E.2.1.2.2 z.toNat).toInt, (E.2.1.2.1 : Int)) := ⟨_, rfl⟩
  obtain ⟨X, hX⟩ := X0
  have hT : ∀ (k : Nat) (t : fx_T1), fx_T[k]? = some t → (fx_Mx X).2.2 k = t.2.2.2 := fun k t e => by
    show (match fx_T[k]? with
      | some t => t.2.2.2
      | none => 0) = t.2.2.2
    rw [e]
  have PS : ∀ N, fx_PS E (fx_Mx X) fx_T N := fx_main hE hX hT (fun k t e => by
    have q := fx_AL_ok (fx_ks X) k t e
    rwa [Nat.zero_add] at q)
  have b := fx_stb
  match hr : fx_run fx_T 2000 true 334 0 [(0, (7, (0, 0), 0))] [] (0, ((0, 0), []), []) with
  | none => rw [hr] at b; cases b
  | some es =>
    rw [hr] at b
    have b : es.all fx_sc = true := b
    have J0 : fx_J E (fx_Mx X) [] (fx_of E []) [] (0, ((0, 0), []), []) [] [] 0 := ⟨rfl, fun K h => h, ⟨Nat.le_refl _, fun p c e => by simp at e⟩, fx_ext_rf [], rfl, fun _ => ⟨rfl, Nat.le_refl _⟩, .inl rfl, fun j c e => by simp at e⟩
    have hL : fx_LR (fx_P E [] 0 (0, ((0, 0), []), []) []) [(0, (7, (0, 0), 0))] [(0, .ref E.2.1.1)] := fun i s e => by
      by_cases hi : i = 0
      · subst hi
        have e : some ((7, (0, 0), 0) : fx_V) = some s := e
        cases e
        exact ⟨_, rfl, Nat.le_refl _, rfl⟩
      · have e2 : fx_lk [(0, (7, (0, 0), 0))] i = none := by
          unfold fx_lk
          rw [if_neg (fun z => hi z.symm)]
          rfl
        rw [e2] at e
        cases e
    obtain ⟨en, hen, o⟩ := fx_run_ok (N := f) hE hX hT (PS f) 2000 true 334 0 [(0, (7, (0, 0), 0))] [] (0, ((0, 0), []), []) es hr [] [(0, .ref E.2.1.1)] [] [] 0 J0 hL trivial f d v h' (Nat.le_refl _) g
    have c := List.all_eq_true.mp b en hen
    obtain ⟨σ, x⟩ := en
    unfold fx_sc at c
    rw [Bool.and_eq_true, Bool.and_eq_true, Bool.and_eq_true, Bool.and_eq_true] at c
    obtain ⟨c1, c2, c3, c4, c5⟩ := c
    have e54 : fx_lix σ.2.2.reverse 54 = [0, 1, 2, 3] := eq_of_beq c4
    have e87 : fx_lix σ.2.2.reverse 87 = [0, 1, 2, 3] := eq_of_beq c5
    have hx := fx_tl0_ok c1
    have hx : x = .inr (0, [(0, 0)]) := hx
    subst hx
    obtain ⟨ν', hm, z, J, -, -, rm, sp⟩ := o
    have hRI : fx_RI (fx_of E hm) := J.2.1 (fun _ S => fx_RI S) (fx_d_lit _ _ c2 (fun S' a1 a2 a3 => by
      have a4 : ∀ p i : Int, S'.1 p i = if fx_lits σ.2.2.reverse p i = true then -1 else 0 := fun p i => by
        rw [a1]
        have e0 : (fx_of E []).1 p i = 0 := by
          show (if 0 ≤ p ∧ 0 ≤ i then fx_cI ([] : cz_H)[p.toNat]? i.toNat else 0) = 0
          split
          · simp [fx_cI]
          · rfl
        rw [e0]
      refine fx_start_RI c2 (e54.trans e87.symm) (fun s s0 s1 => ?_) a4 (fun p i => ?_) ?_
      · rw [a4, fx_lits_lix, e87]
        have hs : s = 0 ∨ s = 1 ∨ s = 2 ∨ s = 3 := by omega
        rcases hs with rfl | rfl | rfl | rfl <;> rfl
      · rw [a2]
        show (if 0 ≤ p ∧ 0 ≤ i then fx_cR E.1 ([] : cz_H)[p.toNat]? i.toNat else -1) = -1
        split
        · simp [fx_cR]
        · rfl
      · have c3 : List.countP (fun e : fx_Ev => e.1 == 6) σ.2.2.reverse = 91 := by simpa using c3
        rw [a3, c3]
        rfl))
    have sp : fx_RI (fx_of E hm) → z = 1 := sp
    have hz := sp hRI
    subst hz
    obtain ⟨u, hu, -, w, hw, hw2⟩ := rm
    have hw2 : w.toInt = 1 := hw2
    have e1 : (1 : Int32).toInt = 1 := by decide
    have : w = 1 := Int32.toInt_inj.mp (by rw [e1, hw2])
    rw [hu, hw, this]

