/-! words of links, by class, as numbers -/
def cf_flk : List (List Nat) := [[11264, 15361, 18434, 21507], [11329, 15426, 18499, 21573, 24646, 27719, 32841, 36938, 40011, 43084, 46144, 56388, 59464, 86592, 89665, 93762, 96835], [11393, 15490, 18563, 21636, 26757, 30854, 33927, 37000, 40064], [11457, 15554, 18627, 21700, 24773, 27840], [11520, 17668, 20741, 23814, 32768, 36098, 39171, 52481], [11585, 15682, 18755, 21828, 24901, 27974, 31047, 34112], [9600, 15745, 18819, 21892, 24965, 28040, 31113, 40322, 44422, 47495], [11712, 15811, 19905, 26050, 29124, 35270, 70208, 75330, 80451, 98881, 133184, 138305, 140354, 146885], [11776, 15873, 18946], [9792, 15938, 20035, 23109, 26182, 29256, 32329, 36426, 40523, 43596, 46669, 49732, 52807], [12929, 22146, 29315, 36484, 43653, 50822, 54912, 78147, 90433, 108866, 114819], [12992, 17089, 24258, 31427, 38596, 44741, 48838, 51911, 54984, 59081, 76225, 80512, 91777, 110664, 118210, 125379, 153218, 166401, 173120, 181572, 188737, 191810, 194883, 204096, 219779, 223618, 232832, 236934, 260481, 263812, 285826, 288899, 333956, 355973, 365764, 381253, 390858, 402054, 414976, 418049, 420992, 422080, 422912, 429447, 443904, 463947, 467020, 486726], [9985, 14082, 17155, 21252, 25350, 28429, 32526, 35600, 38673, 41746, 44819, 47892, 50965, 54038, 57111, 60184, 63258, 66331, 69404, 72479, 75552, 78628, 81701, 84774, 88871, 105221, 120583, 123656, 130825, 133898, 145163, 155404, 255759, 380697, 389917, 392990, 401185, 404258, 414499], [], [], [], [], [], [], [], [], []]
def cf_mlk : List (List Nat) := [[12292, 98309, 125425, 150009], [12292, 200709, 252417, 274528, 286832, 303264, 320312, 332608], [20484, 176133, 200896, 217296, 233729, 250128, 268777, 291120, 303392, 319728, 332024, 344361, 360712, 375265, 385352, 403969], [12292, 126981, 154113, 178681], [20484, 109145, 167960, 180640, 197032, 221584, 237976, 256505, 274864], [12292, 151557, 178689, 201192], [12292, 135173, 201248], [12292, 99099, 127680, 152152, 168544, 185016, 209544, 225944, 242464, 254576, 332392, 348840, 365200, 426616, 455296, 475944, 500400, 570160, 600584, 621072, 635552, 649729, 668361], [12292, 92761, 115424, 131077], [12292, 221992, 238408, 254800, 271193], [12292, 45091, 82363, 111091, 139435, 168275, 196611, 233512, 250304, 262648, 274608, 287064, 299016, 327752, 344952, 375297, 393312, 405616, 418256, 446592, 471176, 487568, 504088], [12292, 45923, 90683, 119506, 147842, 248409, 270912, 287304, 333137, 349545, 380976, 406912, 417848, 431544, 455248, 483392, 513369, 524360, 543233, 561272, 573544, 585840, 599409, 627144, 639704, 652000, 676600, 714136, 738704, 791408, 804193, 823760, 841096, 852856, 865152, 913920, 958984, 972240, 987672, 1004072, 1016368, 1028624, 1069240, 1095080, 1106112, 1118416, 1131992, 1168264, 1181104, 1192080, 1204512, 1216776, 1229040, 1241336, 1253576, 1267168, 1282184, 1294616, 1311040, 1323320, 1349096, 1361392, 1373640, 1385976, 1398280, 1410425, 1438048, 1451424, 1474920, 1487328, 1499504, 1512976, 1537568, 1549880, 1574337, 1587681, 1622032, 1642888, 1704680, 1729384, 1745648, 1757952, 1786632, 1798928, 1814752, 1827032, 1839336, 1851472, 1873408, 1884312, 1899001, 1909208, 1921112, 1934872, 1958376, 1970552, 1984040, 1996336, 2009697, 2020928], [12292, 386641, 431720, 464512, 505544, 596481, 632536, 649736, 670224, 685800, 702160, 714464, 812816, 825072, 837376, 849656, 870168, 890632, 902944, 927816, 939816, 952129, 964433, 980593, 993112, 1005424, 1034104, 1046400, 1062592, 1075080, 1087112, 1099408, 1116104, 1136568, 1148744, 1161184, 1173352, 1189872, 1209977, 1230808, 1239064, 1251384, 1263665, 1275968, 1288288, 1300600, 1316993, 1329256, 1341576, 1353840, 1370256, 1395185, 1415344, 1427640, 1439944, 1452248, 1464544, 1485048, 1497360, 1509881, 1538336, 1583424, 1595720, 1628536, 1640832, 1669553, 1681849, 1722280], [], [], [1374744, 2017824, 2030129, 2042441, 4340329], [39465], [199233, 277073, 293433, 1698345], [], [], [], [37778, 50762, 54168, 71320, 74656, 91808, 95144, 108200, 111536, 128688, 132024, 149176, 152512, 165680, 168904, 182072, 185296, 198496, 201688, 214928, 218080, 231320, 234472, 247712, 250864, 264104, 267256, 281048, 283648, 296880, 300040, 313280, 316432, 329680, 332824, 346072, 349216, 362472, 365608, 378872, 382000, 395264, 398392, 411656, 414784, 428048, 431176, 444448, 447568, 460840, 463960, 481360, 484448, 501848, 504936, 518296, 521328, 534688, 537720, 551080, 554112, 567488, 570504, 583888, 586896, 600296, 603288, 616688, 619680, 633088, 636072, 649480, 652464, 665872, 668856, 682264, 685248, 698664, 701640, 715056, 718032, 731448, 734424, 747856, 750816, 764248, 767208, 780640, 783600, 797032, 799992, 817520, 820480, 833928, 836872, 850320, 853264, 866712, 869656, 883104, 886048, 899496, 902440, 915032, 918832, 931424, 935224, 948672, 959808, 977352, 980296, 993744]]
theorem cf_flk_ok : (List.range 22).all (fun o => (cf_flk.getD o []).all fun k => decide ((o, k / 1024, k / 64 % 16, k % 64) ∈ cz_fl)) = true := by decide +kernel
theorem cf_mlk_ok : (List.range 22).all (fun o => (cf_mlk.getD o []).all fun k => decide ((o, k / 4096, k / 8 % 512, k % 8) ∈ cz_ml)) = true := by decide +kernel
theorem cf_flk_len : cf_flk.length = 22 := rfl
theorem cf_mlk_len : cf_mlk.length = 22 := rfl
def cf_fin (o i ci k : Nat) : Bool := Nat.blt ci 16 && (Nat.blt k 64 && cf_mn (cf_flk.getD o []) ((i * 16 + ci) * 64 + k))
def cf_min (o i mj k : Nat) : Bool := Nat.blt mj 512 && (Nat.blt k 8 && cf_mn (cf_mlk.getD o []) ((i * 512 + mj) * 8 + k))
theorem cf_getD_lt {α : Type} {l : List (List α)} {o : Nat} {x : α} (h : x ∈ l.getD o []) : o < l.length := by
  rcases Nat.lt_or_ge o l.length with q | q
  · exact q
  · rw [List.getD_eq_getElem?_getD, List.getElem?_eq_none q] at h
    cases h
theorem cf_fin_ok {o i ci k : Nat} (h : cf_fin o i ci k = true) : decide ((o, i, ci, k) ∈ cz_fl) = true := by
  unfold cf_fin at h
  simp only [Bool.and_eq_true, Nat.blt_eq] at h
  obtain ⟨h1, h2, h3⟩ := h
  have h3 := cf_mn_ok h3
  have ho := cf_getD_lt h3
  rw [cf_flk_len] at ho
  have := List.all_eq_true.mp (List.all_eq_true.mp cf_flk_ok o (List.mem_range.mpr ho)) _ h3
  rw [show ((i * 16 + ci) * 64 + k) / 1024 = i by omega, show ((i * 16 + ci) * 64 + k) / 64 % 16 = ci by omega, show ((i * 16 + ci) * 64 + k) % 64 = k by omega] at this
  exact this
theorem cf_min_ok {o i mj k : Nat} (h : cf_min o i mj k = true) : decide ((o, i, mj, k) ∈ cz_ml) = true := by
  unfold cf_min at h
  simp only [Bool.and_eq_true, Nat.blt_eq] at h
  obtain ⟨h1, h2, h3⟩ := h
  have h3 := cf_mn_ok h3
  have ho := cf_getD_lt h3
  rw [cf_mlk_len] at ho
  have := List.all_eq_true.mp (List.all_eq_true.mp cf_mlk_ok o (List.mem_range.mpr ho)) _ h3
  rw [show ((i * 512 + mj) * 8 + k) / 4096 = i by omega, show ((i * 512 + mj) * 8 + k) / 8 % 512 = mj by omega, show ((i * 512 + mj) * 8 + k) % 8 = k by omega] at this
  exact this
def cf_wq (o : Nat) (ini : Bool) (ret : Option FieldType) (q : cz_I) : Bool := match q.2.1 with
  | .getfield i => if q.2.2.2.1 = 100 then decide ((o, i, if q.2.2.2.2 = 0 then 0 else 1) ∈ cz_fs) else cf_fin o i q.2.2.2.1 q.2.2.2.2.toNat
  | .putfield i => cf_fin o i q.2.2.2.1 q.2.2.2.2.toNat && (!(cz_fd4 q).2.2.2 || (ini && decide ((cz_fd4 q).1 = cz_on o)))
  | .invokevirtual i => if 0 < q.2.2.2.2 then cf_min o i q.2.2.2.1 0 && decide (q.2.2.2.1 < 334) && decide (cz_kd.getD q.2.2.2.1 9 = 0) && decide (q.2.2.2.2.toNat = cz_np.getD q.2.2.2.1 0 + 1) else true
  | .invokestatic i => if q.2.2.2.2 = -5 then cf_min o i 0 5 else if 0 ≤ q.2.2.2.2 then cf_min o i q.2.2.2.1 1 && decide (q.2.2.2.1 < 334) && decide (cz_kd.getD q.2.2.2.1 9 = 1) && decide (q.2.2.2.2.toNat = cz_np.getD q.2.2.2.1 0) else true
  | .invokespecial i => if q.2.2.2.2 = -4 then cf_min o i 0 4 else if 0 < q.2.2.2.2 then (cf_min o i q.2.2.2.1 2 || cf_min o i q.2.2.2.1 3) && decide (q.2.2.2.1 < 334) && decide (cz_kd.getD q.2.2.2.1 9 = 2) && decide (q.2.2.2.2.toNat = cz_np.getD q.2.2.2.1 0 + 1) else true
  | _ => cz_wq o ini ret q
theorem cf_and {a b c d : Bool} (h : (a && c) = true) (i : a = true → b = true) (j : c = d) : (b && d) = true := by
  subst j
  rw [Bool.and_eq_true] at h ⊢
  exact ⟨i h.1, h.2⟩
theorem cf_wq_ok {o : Nat} {ini : Bool} {ret : Option FieldType} {q : cz_I} (h : cf_wq o ini ret q = true) : cz_wq o ini ret q = true := by
  unfold cf_wq at h
  split at h
  · next i e =>
    unfold cz_wq
    rw [e]
    simp only
    split at h
    · next c => rw [if_pos c]; exact h
    · next c => rw [if_neg c]; exact cf_fin_ok h
  · next i e =>
    unfold cz_wq
    rw [e]
    simp only
    exact cf_and h cf_fin_ok rfl
  · next i e =>
    unfold cz_wq
    rw [e]
    simp only
    split at h
    · next c => rw [if_pos c]; exact cf_and h (fun z => cf_and z (fun z => cf_and z cf_min_ok rfl) rfl) rfl
    · next c => rw [if_neg c]
  · next i e =>
    unfold cz_wq
    rw [e]
    simp only
    split at h
    · next c => rw [if_pos c]; exact cf_min_ok h
    · next c =>
      rw [if_neg c]
      split at h
      · next c2 => rw [if_pos c2]; exact cf_and h (fun z => cf_and z (fun z => cf_and z cf_min_ok rfl) rfl) rfl
      · next c2 => rw [if_neg c2]
  · next i e =>
    unfold cz_wq
    rw [e]
    simp only
    split at h
    · next c => rw [if_pos c]; exact cf_min_ok h
    · next c =>
      rw [if_neg c]
      split at h
      · next c2 =>
        rw [if_pos c2]
        refine cf_and h (fun z => cf_and z (fun z => cf_and z (fun z => ?_) rfl) rfl) rfl
        rcases Bool.or_eq_true_iff.mp z with z | z
        · exact Bool.or_eq_true_iff.mpr (Or.inl (cf_min_ok z))
        · exact Bool.or_eq_true_iff.mpr (Or.inr (cf_min_ok z))
      · next c2 => rw [if_neg c2]
  · exact h
def cf_ok3 (i : Nat) (t : Nat × String × MethodName × ByteArray × Nat × Option FieldType) : Bool := match t with
  | (o, _, _, _, _, ret) => cf_ch (cz_bt i) (cf_wq o (cz_ini i) ret) (cz_cd i) (cf_bl (cz_bt i)) 0
theorem cf_ok3_ok {i : Nat} {t : Nat × String × MethodName × ByteArray × Nat × Option FieldType} (h : cf_ok3 i t = true) : ∀ q ∈ cz_cd i, decode (cz_bt i) q.1 = .ok (q.2.1, q.2.2.1) ∧ cz_wq t.1 (cz_ini i) t.2.2.2.2.2 q = true := by
  obtain ⟨o, a, b, c, d, ret⟩ := t
  intro q hq
  obtain ⟨h1, h2⟩ := cf_ch_ok h (cf_bl_ok (cz_bt i)) q hq
  exact ⟨h1, cf_wq_ok h2⟩
theorem cf_ok3_all {i : Nat} (h : cf_ok3 i (cz_mf i) = true) : ∀ q ∈ cz_cd i, cz_ok1 i q = true := by
  intro q hq
  obtain ⟨h1, h2⟩ := cf_ok3_ok h q hq
  unfold cz_ok1
  rw [Bool.and_eq_true]
  exact ⟨decide_eq_true h1, h2⟩
