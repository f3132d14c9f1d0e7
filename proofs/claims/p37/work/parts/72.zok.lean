/-! contracts hold of the machine -/
theorem ck_zk0 {E : cz_E} (hE : cz_Eok E) : ck_Zok E ck_con0 := ck_ok1_ok hE (fun _ h => absurd h List.not_mem_nil) rfl ck_thm0
theorem ck_zk1 {E : cz_E} (hE : cz_Eok E) : ck_Zok E ck_con1 := ck_ok1_ok hE (fun _ h => absurd h List.not_mem_nil) rfl ck_thm1
theorem ck_zk2 {E : cz_E} (hE : cz_Eok E) : ck_Zok E ck_con2 := ck_ok1_ok hE (fun _ h => absurd h List.not_mem_nil) rfl ck_thm2
theorem ck_zk3 {E : cz_E} (hE : cz_Eok E) : ck_Zok E ck_con3 := ck_ok1_ok hE (fun _ h => absurd h List.not_mem_nil) rfl ck_thm3
theorem ck_zk4 {E : cz_E} (hE : cz_Eok E) : ck_Zok E ck_con4 := ck_ok1_ok hE (fun _ h => absurd h List.not_mem_nil) rfl ck_thm4
theorem ck_zk5 {E : cz_E} (hE : cz_Eok E) : ck_Zok E ck_con5 := ck_ok1_ok hE (fun _ h => absurd h List.not_mem_nil) rfl ck_thm5
theorem ck_zk6 {E : cz_E} (hE : cz_Eok E) : ck_Zok E ck_con6 := ck_ok1_ok hE (fun _ h => absurd h List.not_mem_nil) rfl ck_thm6
theorem ck_zk7 {E : cz_E} (hE : cz_Eok E) : ck_Zok E ck_con7 := ck_ok1_ok hE (fun _ h => absurd h List.not_mem_nil) rfl ck_thm7
theorem ck_zk8 {E : cz_E} (hE : cz_Eok E) : ck_Zok E ck_con8 := ck_ok1_ok hE (fun _ h => absurd h List.not_mem_nil) rfl ck_thm8
theorem ck_zk9 {E : cz_E} (hE : cz_Eok E) : ck_Zok E ck_con9 := ck_ok1_ok hE (List.forall_mem_cons.mpr ⟨ck_zk7 hE, List.forall_mem_cons.mpr ⟨ck_zk8 hE, fun _ h => absurd h List.not_mem_nil⟩⟩) rfl ck_thm9
theorem ck_zk10 {E : cz_E} (hE : cz_Eok E) : ck_Zok E ck_con10 := ck_ok1_ok hE (List.forall_mem_cons.mpr ⟨ck_zk9 hE, fun _ h => absurd h List.not_mem_nil⟩) rfl ck_thm10
theorem ck_zk11 {E : cz_E} (hE : cz_Eok E) : ck_Zok E ck_con11 := ck_ok1_ok hE (List.forall_mem_cons.mpr ⟨ck_zk10 hE, fun _ h => absurd h List.not_mem_nil⟩) rfl ck_thm11
theorem ck_zk12 {E : cz_E} (hE : cz_Eok E) : ck_Zok E ck_con12 := ck_ok1_ok hE (List.forall_mem_cons.mpr ⟨ck_zk6 hE, List.forall_mem_cons.mpr ⟨ck_zk11 hE, fun _ h => absurd h List.not_mem_nil⟩⟩) rfl ck_thm12
theorem ck_zk13 {E : cz_E} (hE : cz_Eok E) : ck_Zok E ck_con13 := ck_ok1_ok hE (List.forall_mem_cons.mpr ⟨ck_zk9 hE, fun _ h => absurd h List.not_mem_nil⟩) rfl ck_thm13
theorem ck_zk14 {E : cz_E} (hE : cz_Eok E) : ck_Zok E ck_con14 := ck_ok1_ok hE (List.forall_mem_cons.mpr ⟨ck_zk6 hE, List.forall_mem_cons.mpr ⟨ck_zk13 hE, fun _ h => absurd h List.not_mem_nil⟩⟩) rfl ck_thm14
theorem ck_zk15 {E : cz_E} (hE : cz_Eok E) : ck_Zok E ck_con15 := ck_ok1_ok hE (fun _ h => absurd h List.not_mem_nil) rfl ck_thm15
theorem ck_zk16 {E : cz_E} (hE : cz_Eok E) : ck_Zok E ck_con16 := ck_ok1_ok hE (fun _ h => absurd h List.not_mem_nil) rfl ck_thm16
theorem ck_zk17 {E : cz_E} (hE : cz_Eok E) : ck_Zok E ck_con17 := ck_ok1_ok hE (fun _ h => absurd h List.not_mem_nil) rfl ck_thm17
theorem ck_zk18 {E : cz_E} (hE : cz_Eok E) : ck_Zok E ck_con18 := ck_ok1_ok hE (fun _ h => absurd h List.not_mem_nil) rfl ck_thm18
theorem ck_zk19 {E : cz_E} (hE : cz_Eok E) : ck_Zok E ck_con19 := ck_ok1_ok hE (fun _ h => absurd h List.not_mem_nil) rfl ck_thm19
theorem ck_zk20 {E : cz_E} (hE : cz_Eok E) : ck_Zok E ck_con20 := ck_ok1_ok hE (fun _ h => absurd h List.not_mem_nil) rfl ck_thm20
theorem ck_zk21 {E : cz_E} (hE : cz_Eok E) : ck_Zok E ck_con21 := ck_ok1_ok hE (fun _ h => absurd h List.not_mem_nil) rfl ck_thm21
theorem ck_zk22 {E : cz_E} (hE : cz_Eok E) : ck_Zok E ck_con22 := ck_ok1_ok hE (fun _ h => absurd h List.not_mem_nil) rfl ck_thm22
theorem ck_zk23 {E : cz_E} (hE : cz_Eok E) : ck_Zok E ck_con23 := ck_ok1_ok hE (List.forall_mem_cons.mpr ⟨ck_zk22 hE, fun _ h => absurd h List.not_mem_nil⟩) rfl ck_thm23
theorem ck_zk24 {E : cz_E} (hE : cz_Eok E) : ck_Zok E ck_con24 := ck_ok1_ok hE (List.forall_mem_cons.mpr ⟨ck_zk20 hE, List.forall_mem_cons.mpr ⟨ck_zk21 hE, fun _ h => absurd h List.not_mem_nil⟩⟩) rfl ck_thm24
theorem ck_zk25 {E : cz_E} (hE : cz_Eok E) : ck_Zok E ck_con25 := ck_ok1_ok hE (fun _ h => absurd h List.not_mem_nil) rfl ck_thm25
theorem ck_zk26 {E : cz_E} (hE : cz_Eok E) : ck_Zok E ck_con26 := ck_ok1_ok hE (List.forall_mem_cons.mpr ⟨ck_zk23 hE, List.forall_mem_cons.mpr ⟨ck_zk25 hE, fun _ h => absurd h List.not_mem_nil⟩⟩) rfl ck_thm26
theorem ck_zk27 {E : cz_E} (hE : cz_Eok E) : ck_Zok E ck_con27 := ck_ok1_ok hE (List.forall_mem_cons.mpr ⟨ck_zk24 hE, List.forall_mem_cons.mpr ⟨ck_zk26 hE, fun _ h => absurd h List.not_mem_nil⟩⟩) rfl ck_thm27
theorem ck_zk28 {E : cz_E} (hE : cz_Eok E) : ck_Zok E ck_con28 := ck_ok1_ok hE (List.forall_mem_cons.mpr ⟨ck_zk20 hE, List.forall_mem_cons.mpr ⟨ck_zk21 hE, fun _ h => absurd h List.not_mem_nil⟩⟩) rfl ck_thm28
theorem ck_zk29 {E : cz_E} (hE : cz_Eok E) : ck_Zok E ck_con29 := ck_ok1_ok hE (List.forall_mem_cons.mpr ⟨ck_zk22 hE, fun _ h => absurd h List.not_mem_nil⟩) rfl ck_thm29
theorem ck_zk30 {E : cz_E} (hE : cz_Eok E) : ck_Zok E ck_con30 := ck_ok1_ok hE (List.forall_mem_cons.mpr ⟨ck_zk26 hE, List.forall_mem_cons.mpr ⟨ck_zk29 hE, fun _ h => absurd h List.not_mem_nil⟩⟩) rfl ck_thm30
theorem ck_zk31 {E : cz_E} (hE : cz_Eok E) : ck_Zok E ck_con31 := ck_ok1_ok hE (fun _ h => absurd h List.not_mem_nil) rfl ck_thm31
theorem ck_zk32 {E : cz_E} (hE : cz_Eok E) : ck_Zok E ck_con32 := ck_ok1_ok hE (fun _ h => absurd h List.not_mem_nil) rfl ck_thm32
theorem ck_zk33 {E : cz_E} (hE : cz_Eok E) : ck_Zok E ck_con33 := ck_ok1_ok hE (fun _ h => absurd h List.not_mem_nil) rfl ck_thm33
theorem ck_zk34 {E : cz_E} (hE : cz_Eok E) : ck_Zok E ck_con34 := ck_ok1_ok hE (fun _ h => absurd h List.not_mem_nil) rfl ck_thm34
theorem ck_zk35 {E : cz_E} (hE : cz_Eok E) : ck_Zok E ck_con35 := ck_ok1_ok hE (fun _ h => absurd h List.not_mem_nil) rfl ck_thm35
theorem ck_zk36 {E : cz_E} (hE : cz_Eok E) : ck_Zok E ck_con36 := ck_ok1_ok hE (List.forall_mem_cons.mpr ⟨ck_zk35 hE, fun _ h => absurd h List.not_mem_nil⟩) rfl ck_thm36
theorem ck_zk37 {E : cz_E} (hE : cz_Eok E) : ck_Zok E ck_con37 := ck_ok1_ok hE (fun _ h => absurd h List.not_mem_nil) rfl ck_thm37
theorem ck_zk38 {E : cz_E} (hE : cz_Eok E) : ck_Zok E ck_con38 := ck_ok1_ok hE (fun _ h => absurd h List.not_mem_nil) rfl ck_thm38
theorem ck_zk39 {E : cz_E} (hE : cz_Eok E) : ck_Zok E ck_con39 := ck_ok1_ok hE (List.forall_mem_cons.mpr ⟨ck_zk37 hE, List.forall_mem_cons.mpr ⟨ck_zk38 hE, fun _ h => absurd h List.not_mem_nil⟩⟩) rfl ck_thm39
theorem ck_zk40 {E : cz_E} (hE : cz_Eok E) : ck_Zok E ck_con40 := ck_ok1_ok hE (List.forall_mem_cons.mpr ⟨ck_zk37 hE, List.forall_mem_cons.mpr ⟨ck_zk38 hE, fun _ h => absurd h List.not_mem_nil⟩⟩) rfl ck_thm40
theorem ck_zk41 {E : cz_E} (hE : cz_Eok E) : ck_Zok E ck_con41 := ck_ok1_ok hE (List.forall_mem_cons.mpr ⟨ck_zk35 hE, List.forall_mem_cons.mpr ⟨ck_zk40 hE, fun _ h => absurd h List.not_mem_nil⟩⟩) rfl ck_thm41
theorem ck_zk42 {E : cz_E} (hE : cz_Eok E) : ck_Zok E ck_con42 := ck_ok1_ok hE (List.forall_mem_cons.mpr ⟨ck_zk1 hE, List.forall_mem_cons.mpr ⟨ck_zk39 hE, List.forall_mem_cons.mpr ⟨ck_zk41 hE, fun _ h => absurd h List.not_mem_nil⟩⟩⟩) rfl ck_thm42
theorem ck_zk43 {E : cz_E} (hE : cz_Eok E) : ck_Zok E ck_con43 := ck_ok1_ok hE (fun _ h => absurd h List.not_mem_nil) rfl ck_thm43
theorem ck_zk44 {E : cz_E} (hE : cz_Eok E) : ck_Zok E ck_con44 := ck_ok1_ok hE (fun _ h => absurd h List.not_mem_nil) rfl ck_thm44
theorem ck_zk45 {E : cz_E} (hE : cz_Eok E) : ck_Zok E ck_con45 := ck_ok1_ok hE (fun _ h => absurd h List.not_mem_nil) rfl ck_thm45
theorem ck_zk46 {E : cz_E} (hE : cz_Eok E) : ck_Zok E ck_con46 := ck_ok1_ok hE (fun _ h => absurd h List.not_mem_nil) rfl ck_thm46
theorem ck_zk47 {E : cz_E} (hE : cz_Eok E) : ck_Zok E ck_con47 := ck_ok1_ok hE (fun _ h => absurd h List.not_mem_nil) rfl ck_thm47
theorem ck_zk48 {E : cz_E} (hE : cz_Eok E) : ck_Zok E ck_con48 := ck_ok1_ok hE (fun _ h => absurd h List.not_mem_nil) rfl ck_thm48
theorem ck_zk49 {E : cz_E} (hE : cz_Eok E) : ck_Zok E ck_con49 := ck_ok1_ok hE (fun _ h => absurd h List.not_mem_nil) rfl ck_thm49
theorem ck_zk50 {E : cz_E} (hE : cz_Eok E) : ck_Zok E ck_con50 := ck_ok1_ok hE (fun _ h => absurd h List.not_mem_nil) rfl ck_thm50
theorem ck_zk51 {E : cz_E} (hE : cz_Eok E) : ck_Zok E ck_con51 := ck_ok1_ok hE (fun _ h => absurd h List.not_mem_nil) rfl ck_thm51
theorem ck_zk52 {E : cz_E} (hE : cz_Eok E) : ck_Zok E ck_con52 := ck_ok1_ok hE (fun _ h => absurd h List.not_mem_nil) rfl ck_thm52
theorem ck_zk53 {E : cz_E} (hE : cz_Eok E) : ck_Zok E ck_con53 := ck_ok1_ok hE (List.forall_mem_cons.mpr ⟨ck_zk52 hE, fun _ h => absurd h List.not_mem_nil⟩) rfl ck_thm53
theorem ck_zk54 {E : cz_E} (hE : cz_Eok E) : ck_Zok E ck_con54 := ck_ok1_ok hE (fun _ h => absurd h List.not_mem_nil) rfl ck_thm54
theorem ck_zk55 {E : cz_E} (hE : cz_Eok E) : ck_Zok E ck_con55 := ck_ok1_ok hE (fun _ h => absurd h List.not_mem_nil) rfl ck_thm55
theorem ck_zk56 {E : cz_E} (hE : cz_Eok E) : ck_Zok E ck_con56 := ck_ok1_ok hE (fun _ h => absurd h List.not_mem_nil) rfl ck_thm56
theorem ck_zk57 {E : cz_E} (hE : cz_Eok E) : ck_Zok E ck_con57 := ck_ok1_ok hE (fun _ h => absurd h List.not_mem_nil) rfl ck_thm57
theorem ck_zk58 {E : cz_E} (hE : cz_Eok E) : ck_Zok E ck_con58 := ck_ok1_ok hE (fun _ h => absurd h List.not_mem_nil) rfl ck_thm58
theorem ck_zk59 {E : cz_E} (hE : cz_Eok E) : ck_Zok E ck_con59 := ck_ok1_ok hE (List.forall_mem_cons.mpr ⟨ck_zk58 hE, fun _ h => absurd h List.not_mem_nil⟩) rfl ck_thm59
theorem ck_zk60 {E : cz_E} (hE : cz_Eok E) : ck_Zok E ck_con60 := ck_ok1_ok hE (fun _ h => absurd h List.not_mem_nil) rfl ck_thm60
theorem ck_zk61 {E : cz_E} (hE : cz_Eok E) : ck_Zok E ck_con61 := ck_ok1_ok hE (List.forall_mem_cons.mpr ⟨ck_zk60 hE, fun _ h => absurd h List.not_mem_nil⟩) rfl ck_thm61
theorem ck_zk62 {E : cz_E} (hE : cz_Eok E) : ck_Zok E ck_con62 := ck_ok1_ok hE (List.forall_mem_cons.mpr ⟨ck_zk58 hE, List.forall_mem_cons.mpr ⟨ck_zk61 hE, fun _ h => absurd h List.not_mem_nil⟩⟩) rfl ck_thm62
theorem ck_zk63 {E : cz_E} (hE : cz_Eok E) : ck_Zok E ck_con63 := ck_ok1_ok hE (List.forall_mem_cons.mpr ⟨ck_zk62 hE, fun _ h => absurd h List.not_mem_nil⟩) rfl ck_thm63
theorem ck_zk64 {E : cz_E} (hE : cz_Eok E) : ck_Zok E ck_con64 := ck_ok1_ok hE (List.forall_mem_cons.mpr ⟨ck_zk58 hE, fun _ h => absurd h List.not_mem_nil⟩) rfl ck_thm64
theorem ck_zk65 {E : cz_E} (hE : cz_Eok E) : ck_Zok E ck_con65 := ck_ok1_ok hE (fun _ h => absurd h List.not_mem_nil) rfl ck_thm65
theorem ck_zk66 {E : cz_E} (hE : cz_Eok E) : ck_Zok E ck_con66 := ck_ok1_ok hE (List.forall_mem_cons.mpr ⟨ck_zk61 hE, List.forall_mem_cons.mpr ⟨ck_zk65 hE, fun _ h => absurd h List.not_mem_nil⟩⟩) rfl ck_thm66
theorem ck_zk67 {E : cz_E} (hE : cz_Eok E) : ck_Zok E ck_con67 := ck_ok1_ok hE (List.forall_mem_cons.mpr ⟨ck_zk61 hE, List.forall_mem_cons.mpr ⟨ck_zk65 hE, fun _ h => absurd h List.not_mem_nil⟩⟩) rfl ck_thm67
theorem ck_zk68 {E : cz_E} (hE : cz_Eok E) : ck_Zok E ck_con68 := ck_ok1_ok hE (List.forall_mem_cons.mpr ⟨ck_zk61 hE, List.forall_mem_cons.mpr ⟨ck_zk65 hE, fun _ h => absurd h List.not_mem_nil⟩⟩) rfl ck_thm68
theorem ck_zk69 {E : cz_E} (hE : cz_Eok E) : ck_Zok E ck_con69 := ck_ok1_ok hE (List.forall_mem_cons.mpr ⟨ck_zk61 hE, List.forall_mem_cons.mpr ⟨ck_zk65 hE, fun _ h => absurd h List.not_mem_nil⟩⟩) rfl ck_thm69
theorem ck_zk70 {E : cz_E} (hE : cz_Eok E) : ck_Zok E ck_con70 := ck_ok1_ok hE (List.forall_mem_cons.mpr ⟨ck_zk61 hE, fun _ h => absurd h List.not_mem_nil⟩) rfl ck_thm70
theorem ck_zk71 {E : cz_E} (hE : cz_Eok E) : ck_Zok E ck_con71 := ck_ok1_ok hE (List.forall_mem_cons.mpr ⟨ck_zk61 hE, fun _ h => absurd h List.not_mem_nil⟩) rfl ck_thm71
theorem ck_zk72 {E : cz_E} (hE : cz_Eok E) : ck_Zok E ck_con72 := ck_ok1_ok hE (fun _ h => absurd h List.not_mem_nil) rfl ck_thm72
theorem ck_zk73 {E : cz_E} (hE : cz_Eok E) : ck_Zok E ck_con73 := ck_ok1_ok hE (List.forall_mem_cons.mpr ⟨ck_zk72 hE, fun _ h => absurd h List.not_mem_nil⟩) rfl ck_thm73
theorem ck_zk74 {E : cz_E} (hE : cz_Eok E) : ck_Zok E ck_con74 := ck_ok1_ok hE (List.forall_mem_cons.mpr ⟨ck_zk58 hE, List.forall_mem_cons.mpr ⟨ck_zk62 hE, List.forall_mem_cons.mpr ⟨ck_zk64 hE, List.forall_mem_cons.mpr ⟨ck_zk68 hE, List.forall_mem_cons.mpr ⟨ck_zk69 hE, List.forall_mem_cons.mpr ⟨ck_zk70 hE, List.forall_mem_cons.mpr ⟨ck_zk71 hE, List.forall_mem_cons.mpr ⟨ck_zk72 hE, List.forall_mem_cons.mpr ⟨ck_zk73 hE, fun _ h => absurd h List.not_mem_nil⟩⟩⟩⟩⟩⟩⟩⟩⟩) rfl ck_thm74
theorem ck_zk75 {E : cz_E} (hE : cz_Eok E) : ck_Zok E ck_con75 := ck_ok1_ok hE (List.forall_mem_cons.mpr ⟨ck_zk62 hE, List.forall_mem_cons.mpr ⟨ck_zk74 hE, fun _ h => absurd h List.not_mem_nil⟩⟩) rfl ck_thm75
theorem ck_zk76 {E : cz_E} (hE : cz_Eok E) : ck_Zok E ck_con76 := ck_ok1_ok hE (fun _ h => absurd h List.not_mem_nil) rfl ck_thm76
theorem ck_zk77 {E : cz_E} (hE : cz_Eok E) : ck_Zok E ck_con77 := ck_ok1_ok hE (List.forall_mem_cons.mpr ⟨ck_zk59 hE, List.forall_mem_cons.mpr ⟨ck_zk61 hE, List.forall_mem_cons.mpr ⟨ck_zk62 hE, List.forall_mem_cons.mpr ⟨ck_zk63 hE, List.forall_mem_cons.mpr ⟨ck_zk66 hE, List.forall_mem_cons.mpr ⟨ck_zk67 hE, List.forall_mem_cons.mpr ⟨ck_zk68 hE, List.forall_mem_cons.mpr ⟨ck_zk70 hE, List.forall_mem_cons.mpr ⟨ck_zk75 hE, List.forall_mem_cons.mpr ⟨ck_zk76 hE, fun _ h => absurd h List.not_mem_nil⟩⟩⟩⟩⟩⟩⟩⟩⟩⟩) rfl ck_thm77
theorem ck_zk78 {E : cz_E} (hE : cz_Eok E) : ck_Zok E ck_con78 := ck_ok1_ok hE (fun _ h => absurd h List.not_mem_nil) rfl ck_thm78
theorem ck_zk79 {E : cz_E} (hE : cz_Eok E) : ck_Zok E ck_con79 := ck_ok1_ok hE (List.forall_mem_cons.mpr ⟨ck_zk61 hE, List.forall_mem_cons.mpr ⟨ck_zk77 hE, List.forall_mem_cons.mpr ⟨ck_zk78 hE, fun _ h => absurd h List.not_mem_nil⟩⟩⟩) rfl ck_thm79
theorem ck_zk80 {E : cz_E} (hE : cz_Eok E) : ck_Zok E ck_con80 := ck_ok1_ok hE (List.forall_mem_cons.mpr ⟨ck_zk33 hE, fun _ h => absurd h List.not_mem_nil⟩) rfl ck_thm80
theorem ck_zk81 {E : cz_E} (hE : cz_Eok E) : ck_Zok E ck_con81 := ck_ok1_ok hE (fun _ h => absurd h List.not_mem_nil) rfl ck_thm81
theorem ck_zk82 {E : cz_E} (hE : cz_Eok E) : ck_Zok E ck_con82 := ck_ok1_ok hE (fun _ h => absurd h List.not_mem_nil) rfl ck_thm82
theorem ck_zk83 {E : cz_E} (hE : cz_Eok E) : ck_Zok E ck_con83 := ck_ok1_ok hE (List.forall_mem_cons.mpr ⟨ck_zk0 hE, List.forall_mem_cons.mpr ⟨ck_zk2 hE, List.forall_mem_cons.mpr ⟨ck_zk15 hE, List.forall_mem_cons.mpr ⟨ck_zk31 hE, List.forall_mem_cons.mpr ⟨ck_zk43 hE, List.forall_mem_cons.mpr ⟨ck_zk48 hE, fun _ h => absurd h List.not_mem_nil⟩⟩⟩⟩⟩⟩) rfl ck_thm83
theorem ck_zk84 {E : cz_E} (hE : cz_Eok E) : ck_Zok E ck_con84 := ck_ok1_ok hE (List.forall_mem_cons.mpr ⟨ck_zk6 hE, List.forall_mem_cons.mpr ⟨ck_zk11 hE, fun _ h => absurd h List.not_mem_nil⟩⟩) rfl ck_thm84
theorem ck_zk85 {E : cz_E} (hE : cz_Eok E) : ck_Zok E ck_con85 := ck_ok1_ok hE (List.forall_mem_cons.mpr ⟨ck_zk4 hE, List.forall_mem_cons.mpr ⟨ck_zk84 hE, fun _ h => absurd h List.not_mem_nil⟩⟩) rfl ck_thm85
theorem ck_zk86 {E : cz_E} (hE : cz_Eok E) : ck_Zok E ck_con86 := ck_ok1_ok hE (List.forall_mem_cons.mpr ⟨ck_zk4 hE, fun _ h => absurd h List.not_mem_nil⟩) rfl ck_thm86
theorem ck_zk87 {E : cz_E} (hE : cz_Eok E) : ck_Zok E ck_con87 := ck_ok1_ok hE (List.forall_mem_cons.mpr ⟨ck_zk27 hE, fun _ h => absurd h List.not_mem_nil⟩) rfl ck_thm87
theorem ck_zk88 {E : cz_E} (hE : cz_Eok E) : ck_Zok E ck_con88 := ck_ok1_ok hE (List.forall_mem_cons.mpr ⟨ck_zk32 hE, List.forall_mem_cons.mpr ⟨ck_zk36 hE, List.forall_mem_cons.mpr ⟨ck_zk56 hE, List.forall_mem_cons.mpr ⟨ck_zk80 hE, List.forall_mem_cons.mpr ⟨ck_zk83 hE, fun _ h => absurd h List.not_mem_nil⟩⟩⟩⟩⟩) rfl ck_thm88
theorem ck_zk89 {E : cz_E} (hE : cz_Eok E) : ck_Zok E ck_con89 := ck_ok1_ok hE (List.forall_mem_cons.mpr ⟨ck_zk57 hE, fun _ h => absurd h List.not_mem_nil⟩) rfl ck_thm89
theorem ck_zk90 {E : cz_E} (hE : cz_Eok E) : ck_Zok E ck_con90 := ck_ok1_ok hE (fun _ h => absurd h List.not_mem_nil) rfl ck_thm90
theorem ck_zk91 {E : cz_E} (hE : cz_Eok E) : ck_Zok E ck_con91 := ck_ok1_ok hE (fun _ h => absurd h List.not_mem_nil) rfl ck_thm91
theorem ck_zk92 {E : cz_E} (hE : cz_Eok E) : ck_Zok E ck_con92 := ck_ok1_ok hE (fun _ h => absurd h List.not_mem_nil) rfl ck_thm92
theorem ck_zk93 {E : cz_E} (hE : cz_Eok E) : ck_Zok E ck_con93 := ck_ok1_ok hE (fun _ h => absurd h List.not_mem_nil) rfl ck_thm93
theorem ck_zk94 {E : cz_E} (hE : cz_Eok E) : ck_Zok E ck_con94 := ck_ok1_ok hE (List.forall_mem_cons.mpr ⟨ck_zk87 hE, fun _ h => absurd h List.not_mem_nil⟩) rfl ck_thm94
theorem ck_zk95 {E : cz_E} (hE : cz_Eok E) : ck_Zok E ck_con95 := ck_ok1_ok hE (List.forall_mem_cons.mpr ⟨ck_zk79 hE, List.forall_mem_cons.mpr ⟨ck_zk94 hE, fun _ h => absurd h List.not_mem_nil⟩⟩) rfl ck_thm95
theorem ck_zk96 {E : cz_E} (hE : cz_Eok E) : ck_Zok E ck_con96 := ck_ok1_ok hE (fun _ h => absurd h List.not_mem_nil) rfl ck_thm96
theorem ck_zk97 {E : cz_E} (hE : cz_Eok E) : ck_Zok E ck_con97 := ck_ok1_ok hE (List.forall_mem_cons.mpr ⟨ck_zk4 hE, fun _ h => absurd h List.not_mem_nil⟩) rfl ck_thm97
theorem ck_zk98 {E : cz_E} (hE : cz_Eok E) : ck_Zok E ck_con98 := ck_ok1_ok hE (List.forall_mem_cons.mpr ⟨ck_zk4 hE, List.forall_mem_cons.mpr ⟨ck_zk14 hE, fun _ h => absurd h List.not_mem_nil⟩⟩) rfl ck_thm98
theorem ck_zk99 {E : cz_E} (hE : cz_Eok E) : ck_Zok E ck_con99 := ck_ok1_ok hE (List.forall_mem_cons.mpr ⟨ck_zk4 hE, List.forall_mem_cons.mpr ⟨ck_zk12 hE, fun _ h => absurd h List.not_mem_nil⟩⟩) rfl ck_thm99
theorem ck_zk100 {E : cz_E} (hE : cz_Eok E) : ck_Zok E ck_con100 := ck_ok1_ok hE (List.forall_mem_cons.mpr ⟨ck_zk4 hE, List.forall_mem_cons.mpr ⟨ck_zk11 hE, List.forall_mem_cons.mpr ⟨ck_zk12 hE, fun _ h => absurd h List.not_mem_nil⟩⟩⟩) rfl ck_thm100
theorem ck_zk101 {E : cz_E} (hE : cz_Eok E) : ck_Zok E ck_con101 := ck_ok1_ok hE (List.forall_mem_cons.mpr ⟨ck_zk45 hE, fun _ h => absurd h List.not_mem_nil⟩) rfl ck_thm101
theorem ck_zk102 {E : cz_E} (hE : cz_Eok E) : ck_Zok E ck_con102 := ck_ok1_ok hE (List.forall_mem_cons.mpr ⟨ck_zk45 hE, fun _ h => absurd h List.not_mem_nil⟩) rfl ck_thm102
theorem ck_zk103 {E : cz_E} (hE : cz_Eok E) : ck_Zok E ck_con103 := ck_ok1_ok hE (fun _ h => absurd h List.not_mem_nil) rfl ck_thm103
theorem ck_zk104 {E : cz_E} (hE : cz_Eok E) : ck_Zok E ck_con104 := ck_ok1_ok hE (fun _ h => absurd h List.not_mem_nil) rfl ck_thm104
theorem ck_zk105 {E : cz_E} (hE : cz_Eok E) : ck_Zok E ck_con105 := ck_ok1_ok hE (List.forall_mem_cons.mpr ⟨ck_zk85 hE, fun _ h => absurd h List.not_mem_nil⟩) rfl ck_thm105
theorem ck_zk106 {E : cz_E} (hE : cz_Eok E) : ck_Zok E ck_con106 := ck_ok1_ok hE (List.forall_mem_cons.mpr ⟨ck_zk85 hE, fun _ h => absurd h List.not_mem_nil⟩) rfl ck_thm106
theorem ck_zk107 {E : cz_E} (hE : cz_Eok E) : ck_Zok E ck_con107 := ck_ok1_ok hE (List.forall_mem_cons.mpr ⟨ck_zk84 hE, fun _ h => absurd h List.not_mem_nil⟩) rfl ck_thm107
theorem ck_zk108 {E : cz_E} (hE : cz_Eok E) : ck_Zok E ck_con108 := ck_ok1_ok hE (List.forall_mem_cons.mpr ⟨ck_zk86 hE, fun _ h => absurd h List.not_mem_nil⟩) rfl ck_thm108
theorem ck_zk109 {E : cz_E} (hE : cz_Eok E) : ck_Zok E ck_con109 := ck_ok1_ok hE (List.forall_mem_cons.mpr ⟨ck_zk85 hE, fun _ h => absurd h List.not_mem_nil⟩) rfl ck_thm109
theorem ck_zk110 {E : cz_E} (hE : cz_Eok E) : ck_Zok E ck_con110 := ck_ok1_ok hE (fun _ h => absurd h List.not_mem_nil) rfl ck_thm110
theorem ck_zk111 {E : cz_E} (hE : cz_Eok E) : ck_Zok E ck_con111 := ck_ok1_ok hE (List.forall_mem_cons.mpr ⟨ck_zk50 hE, List.forall_mem_cons.mpr ⟨ck_zk86 hE, fun _ h => absurd h List.not_mem_nil⟩⟩) rfl ck_thm111
theorem ck_zk112 {E : cz_E} (hE : cz_Eok E) : ck_Zok E ck_con112 := ck_ok1_ok hE (List.forall_mem_cons.mpr ⟨ck_zk34 hE, List.forall_mem_cons.mpr ⟨ck_zk85 hE, fun _ h => absurd h List.not_mem_nil⟩⟩) rfl ck_thm112
theorem ck_zk113 {E : cz_E} (hE : cz_Eok E) : ck_Zok E ck_con113 := ck_ok1_ok hE (List.forall_mem_cons.mpr ⟨ck_zk51 hE, List.forall_mem_cons.mpr ⟨ck_zk53 hE, List.forall_mem_cons.mpr ⟨ck_zk54 hE, List.forall_mem_cons.mpr ⟨ck_zk55 hE, List.forall_mem_cons.mpr ⟨ck_zk112 hE, fun _ h => absurd h List.not_mem_nil⟩⟩⟩⟩⟩) rfl ck_thm113
theorem ck_zk114 {E : cz_E} (hE : cz_Eok E) : ck_Zok E ck_con114 := ck_ok1_ok hE (fun _ h => absurd h List.not_mem_nil) rfl ck_thm114
theorem ck_zk115 {E : cz_E} (hE : cz_Eok E) : ck_Zok E ck_con115 := ck_ok1_ok hE (List.forall_mem_cons.mpr ⟨ck_zk17 hE, fun _ h => absurd h List.not_mem_nil⟩) rfl ck_thm115
theorem ck_zk116 {E : cz_E} (hE : cz_Eok E) : ck_Zok E ck_con116 := ck_ok1_ok hE (fun _ h => absurd h List.not_mem_nil) rfl ck_thm116
theorem ck_zk117 {E : cz_E} (hE : cz_Eok E) : ck_Zok E ck_con117 := ck_ok1_ok hE (List.forall_mem_cons.mpr ⟨ck_zk18 hE, List.forall_mem_cons.mpr ⟨ck_zk19 hE, List.forall_mem_cons.mpr ⟨ck_zk85 hE, fun _ h => absurd h List.not_mem_nil⟩⟩⟩) rfl ck_thm117
theorem ck_zk118 {E : cz_E} (hE : cz_Eok E) : ck_Zok E ck_con118 := ck_ok1_ok hE (List.forall_mem_cons.mpr ⟨ck_zk4 hE, List.forall_mem_cons.mpr ⟨ck_zk87 hE, List.forall_mem_cons.mpr ⟨ck_zk117 hE, fun _ h => absurd h List.not_mem_nil⟩⟩⟩) rfl ck_thm118
theorem ck_zk119 {E : cz_E} (hE : cz_Eok E) : ck_Zok E ck_con119 := ck_ok1_ok hE (List.forall_mem_cons.mpr ⟨ck_zk20 hE, List.forall_mem_cons.mpr ⟨ck_zk21 hE, List.forall_mem_cons.mpr ⟨ck_zk23 hE, List.forall_mem_cons.mpr ⟨ck_zk24 hE, List.forall_mem_cons.mpr ⟨ck_zk87 hE, fun _ h => absurd h List.not_mem_nil⟩⟩⟩⟩⟩) rfl ck_thm119
theorem ck_zk120 {E : cz_E} (hE : cz_Eok E) : ck_Zok E ck_con120 := ck_ok1_ok hE (List.forall_mem_cons.mpr ⟨ck_zk18 hE, List.forall_mem_cons.mpr ⟨ck_zk19 hE, List.forall_mem_cons.mpr ⟨ck_zk84 hE, fun _ h => absurd h List.not_mem_nil⟩⟩⟩) rfl ck_thm120
theorem ck_zk121 {E : cz_E} (hE : cz_Eok E) : ck_Zok E ck_con121 := ck_ok1_ok hE (List.forall_mem_cons.mpr ⟨ck_zk27 hE, List.forall_mem_cons.mpr ⟨ck_zk120 hE, fun _ h => absurd h List.not_mem_nil⟩⟩) rfl ck_thm121
theorem ck_zk122 {E : cz_E} (hE : cz_Eok E) : ck_Zok E ck_con122 := ck_ok1_ok hE (List.forall_mem_cons.mpr ⟨ck_zk28 hE, List.forall_mem_cons.mpr ⟨ck_zk30 hE, fun _ h => absurd h List.not_mem_nil⟩⟩) rfl ck_thm122
theorem ck_zk123 {E : cz_E} (hE : cz_Eok E) : ck_Zok E ck_con123 := ck_ok1_ok hE (fun _ h => absurd h List.not_mem_nil) rfl ck_thm123
theorem ck_zk124 {E : cz_E} (hE : cz_Eok E) : ck_Zok E ck_con124 := ck_ok1_ok hE (fun _ h => absurd h List.not_mem_nil) rfl ck_thm124
theorem ck_zk125 {E : cz_E} (hE : cz_Eok E) : ck_Zok E ck_con125 := ck_ok1_ok hE (List.forall_mem_cons.mpr ⟨ck_zk123 hE, List.forall_mem_cons.mpr ⟨ck_zk124 hE, fun _ h => absurd h List.not_mem_nil⟩⟩) rfl ck_thm125
theorem ck_zk126 {E : cz_E} (hE : cz_Eok E) : ck_Zok E ck_con126 := ck_ok1_ok hE (List.forall_mem_cons.mpr ⟨ck_zk85 hE, fun _ h => absurd h List.not_mem_nil⟩) rfl ck_thm126
theorem ck_zk127 {E : cz_E} (hE : cz_Eok E) : ck_Zok E ck_con127 := ck_ok1_ok hE (List.forall_mem_cons.mpr ⟨ck_zk4 hE, fun _ h => absurd h List.not_mem_nil⟩) rfl ck_thm127
theorem ck_zk128 {E : cz_E} (hE : cz_Eok E) : ck_Zok E ck_con128 := ck_ok1_ok hE (List.forall_mem_cons.mpr ⟨ck_zk127 hE, fun _ h => absurd h List.not_mem_nil⟩) rfl ck_thm128
theorem ck_zk129 {E : cz_E} (hE : cz_Eok E) : ck_Zok E ck_con129 := ck_ok1_ok hE (List.forall_mem_cons.mpr ⟨ck_zk126 hE, List.forall_mem_cons.mpr ⟨ck_zk128 hE, fun _ h => absurd h List.not_mem_nil⟩⟩) rfl ck_thm129
theorem ck_zk130 {E : cz_E} (hE : cz_Eok E) : ck_Zok E ck_con130 := ck_ok1_ok hE (List.forall_mem_cons.mpr ⟨ck_zk5 hE, List.forall_mem_cons.mpr ⟨ck_zk46 hE, List.forall_mem_cons.mpr ⟨ck_zk126 hE, List.forall_mem_cons.mpr ⟨ck_zk127 hE, List.forall_mem_cons.mpr ⟨ck_zk128 hE, fun _ h => absurd h List.not_mem_nil⟩⟩⟩⟩⟩) rfl ck_thm130
theorem ck_zk131 {E : cz_E} (hE : cz_Eok E) : ck_Zok E ck_con131 := ck_ok1_ok hE (fun _ h => absurd h List.not_mem_nil) rfl ck_thm131
theorem ck_zk132 {E : cz_E} (hE : cz_Eok E) : ck_Zok E ck_con132 := ck_ok1_ok hE (fun _ h => absurd h List.not_mem_nil) rfl ck_thm132
theorem ck_zk133 {E : cz_E} (hE : cz_Eok E) : ck_Zok E ck_con133 := ck_ok1_ok hE (fun _ h => absurd h List.not_mem_nil) rfl ck_thm133
theorem ck_zk134 {E : cz_E} (hE : cz_Eok E) : ck_Zok E ck_con134 := ck_ok1_ok hE (List.forall_mem_cons.mpr ⟨ck_zk47 hE, fun _ h => absurd h List.not_mem_nil⟩) rfl ck_thm134
theorem ck_zk135 {E : cz_E} (hE : cz_Eok E) : ck_Zok E ck_con135 := ck_ok1_ok hE (fun _ h => absurd h List.not_mem_nil) rfl ck_thm135
theorem ck_zk136 {E : cz_E} (hE : cz_Eok E) : ck_Zok E ck_con136 := ck_ok1_ok hE (List.forall_mem_cons.mpr ⟨ck_zk135 hE, fun _ h => absurd h List.not_mem_nil⟩) rfl ck_thm136
theorem ck_zk137 {E : cz_E} (hE : cz_Eok E) : ck_Zok E ck_con137 := ck_ok1_ok hE (List.forall_mem_cons.mpr ⟨ck_zk32 hE, List.forall_mem_cons.mpr ⟨ck_zk136 hE, fun _ h => absurd h List.not_mem_nil⟩⟩) rfl ck_thm137
theorem ck_zk138 {E : cz_E} (hE : cz_Eok E) : ck_Zok E ck_con138 := ck_ok1_ok hE (fun _ h => absurd h List.not_mem_nil) rfl ck_thm138
theorem ck_zk139 {E : cz_E} (hE : cz_Eok E) : ck_Zok E ck_con139 := ck_ok1_ok hE (fun _ h => absurd h List.not_mem_nil) rfl ck_thm139
theorem ck_zk140 {E : cz_E} (hE : cz_Eok E) : ck_Zok E ck_con140 := ck_ok1_ok hE (fun _ h => absurd h List.not_mem_nil) rfl ck_thm140
theorem ck_zk141 {E : cz_E} (hE : cz_Eok E) : ck_Zok E ck_con141 := ck_ok1_ok hE (List.forall_mem_cons.mpr ⟨ck_zk140 hE, fun _ h => absurd h List.not_mem_nil⟩) rfl ck_thm141
theorem ck_zk142 {E : cz_E} (hE : cz_Eok E) : ck_Zok E ck_con142 := ck_ok1_ok hE (fun _ h => absurd h List.not_mem_nil) rfl ck_thm142
theorem ck_zk143 {E : cz_E} (hE : cz_Eok E) : ck_Zok E ck_con143 := ck_ok1_ok hE (List.forall_mem_cons.mpr ⟨ck_zk141 hE, List.forall_mem_cons.mpr ⟨ck_zk142 hE, fun _ h => absurd h List.not_mem_nil⟩⟩) rfl ck_thm143
theorem ck_zk144 {E : cz_E} (hE : cz_Eok E) : ck_Zok E ck_con144 := ck_ok1_ok hE (fun _ h => absurd h List.not_mem_nil) rfl ck_thm144
theorem ck_zk145 {E : cz_E} (hE : cz_Eok E) : ck_Zok E ck_con145 := ck_ok1_ok hE (List.forall_mem_cons.mpr ⟨ck_zk140 hE, List.forall_mem_cons.mpr ⟨ck_zk144 hE, fun _ h => absurd h List.not_mem_nil⟩⟩) rfl ck_thm145
theorem ck_zk146 {E : cz_E} (hE : cz_Eok E) : ck_Zok E ck_con146 := ck_ok1_ok hE (List.forall_mem_cons.mpr ⟨ck_zk143 hE, List.forall_mem_cons.mpr ⟨ck_zk145 hE, fun _ h => absurd h List.not_mem_nil⟩⟩) rfl ck_thm146
theorem ck_zk147 {E : cz_E} (hE : cz_Eok E) : ck_Zok E ck_con147 := ck_ok1_ok hE (List.forall_mem_cons.mpr ⟨ck_zk143 hE, List.forall_mem_cons.mpr ⟨ck_zk145 hE, fun _ h => absurd h List.not_mem_nil⟩⟩) rfl ck_thm147
theorem ck_zk148 {E : cz_E} (hE : cz_Eok E) : ck_Zok E ck_con148 := ck_ok1_ok hE (List.forall_mem_cons.mpr ⟨ck_zk143 hE, fun _ h => absurd h List.not_mem_nil⟩) rfl ck_thm148
theorem ck_zk149 {E : cz_E} (hE : cz_Eok E) : ck_Zok E ck_con149 := ck_ok1_ok hE (List.forall_mem_cons.mpr ⟨ck_zk25 hE, fun _ h => absurd h List.not_mem_nil⟩) rfl ck_thm149
theorem ck_zk150 {E : cz_E} (hE : cz_Eok E) : ck_Zok E ck_con150 := ck_ok1_ok hE (fun _ h => absurd h List.not_mem_nil) rfl ck_thm150
theorem ck_zk151 {E : cz_E} (hE : cz_Eok E) : ck_Zok E ck_con151 := ck_ok1_ok hE (List.forall_mem_cons.mpr ⟨ck_zk42 hE, fun _ h => absurd h List.not_mem_nil⟩) rfl ck_thm151
theorem ck_zk152 {E : cz_E} (hE : cz_Eok E) : ck_Zok E ck_con152 := ck_ok1_ok hE (fun _ h => absurd h List.not_mem_nil) rfl ck_thm152
theorem ck_zk153 {E : cz_E} (hE : cz_Eok E) : ck_Zok E ck_con153 := ck_ok1_ok hE (fun _ h => absurd h List.not_mem_nil) rfl ck_thm153
theorem ck_zk154 {E : cz_E} (hE : cz_Eok E) : ck_Zok E ck_con154 := ck_ok1_ok hE (List.forall_mem_cons.mpr ⟨ck_zk51 hE, List.forall_mem_cons.mpr ⟨ck_zk81 hE, fun _ h => absurd h List.not_mem_nil⟩⟩) rfl ck_thm154
theorem ck_zk155 {E : cz_E} (hE : cz_Eok E) : ck_Zok E ck_con155 := ck_ok1_ok hE (fun _ h => absurd h List.not_mem_nil) rfl ck_thm155
theorem ck_zk156 {E : cz_E} (hE : cz_Eok E) : ck_Zok E ck_con156 := ck_ok1_ok hE (List.forall_mem_cons.mpr ⟨ck_zk3 hE, List.forall_mem_cons.mpr ⟨ck_zk16 hE, List.forall_mem_cons.mpr ⟨ck_zk44 hE, List.forall_mem_cons.mpr ⟨ck_zk49 hE, List.forall_mem_cons.mpr ⟨ck_zk83 hE, fun _ h => absurd h List.not_mem_nil⟩⟩⟩⟩⟩) rfl ck_thm156
theorem ck_zk157 {E : cz_E} (hE : cz_Eok E) : ck_Zok E ck_con157 := ck_ok1_ok hE (List.forall_mem_cons.mpr ⟨ck_zk3 hE, List.forall_mem_cons.mpr ⟨ck_zk16 hE, List.forall_mem_cons.mpr ⟨ck_zk44 hE, List.forall_mem_cons.mpr ⟨ck_zk49 hE, fun _ h => absurd h List.not_mem_nil⟩⟩⟩⟩) rfl ck_thm157
theorem ck_zk158 {E : cz_E} (hE : cz_Eok E) : ck_Zok E ck_con158 := ck_ok1_ok hE (List.forall_mem_cons.mpr ⟨ck_zk82 hE, fun _ h => absurd h List.not_mem_nil⟩) rfl ck_thm158
theorem ck_zk159 {E : cz_E} (hE : cz_Eok E) : ck_Zok E ck_con159 := ck_ok1_ok hE (fun _ h => absurd h List.not_mem_nil) rfl ck_thm159
theorem ck_zk160 {E : cz_E} (hE : cz_Eok E) : ck_Zok E ck_con160 := ck_ok1_ok hE (fun _ h => absurd h List.not_mem_nil) rfl ck_thm160
theorem ck_zk161 {E : cz_E} (hE : cz_Eok E) : ck_Zok E ck_con161 := ck_ok1_ok hE (fun _ h => absurd h List.not_mem_nil) rfl ck_thm161
theorem ck_zk162 {E : cz_E} (hE : cz_Eok E) : ck_Zok E ck_con162 := ck_ok1_ok hE (fun _ h => absurd h List.not_mem_nil) rfl ck_thm162
theorem ck_zk163 {E : cz_E} (hE : cz_Eok E) : ck_Zok E ck_con163 := ck_ok1_ok hE (fun _ h => absurd h List.not_mem_nil) rfl ck_thm163
theorem ck_zk164 {E : cz_E} (hE : cz_Eok E) : ck_Zok E ck_con164 := ck_ok1_ok hE (fun _ h => absurd h List.not_mem_nil) rfl ck_thm164
theorem ck_zk165 {E : cz_E} (hE : cz_Eok E) : ck_Zok E ck_con165 := ck_ok1_ok hE (fun _ h => absurd h List.not_mem_nil) rfl ck_thm165
theorem ck_zk166 {E : cz_E} (hE : cz_Eok E) : ck_Zok E ck_con166 := ck_ok1_ok hE (fun _ h => absurd h List.not_mem_nil) rfl ck_thm166
theorem ck_zk167 {E : cz_E} (hE : cz_Eok E) : ck_Zok E ck_con167 := ck_ok1_ok hE (fun _ h => absurd h List.not_mem_nil) rfl ck_thm167
theorem ck_zk168 {E : cz_E} (hE : cz_Eok E) : ck_Zok E ck_con168 := ck_ok1_ok hE (fun _ h => absurd h List.not_mem_nil) rfl ck_thm168
theorem ck_zk169 {E : cz_E} (hE : cz_Eok E) : ck_Zok E ck_con169 := ck_ok1_ok hE (fun _ h => absurd h List.not_mem_nil) rfl ck_thm169
theorem ck_zk170 {E : cz_E} (hE : cz_Eok E) : ck_Zok E ck_con170 := ck_ok1_ok hE (fun _ h => absurd h List.not_mem_nil) rfl ck_thm170
theorem ck_zk171 {E : cz_E} (hE : cz_Eok E) : ck_Zok E ck_con171 := ck_ok1_ok hE (fun _ h => absurd h List.not_mem_nil) rfl ck_thm171
theorem ck_zk172 {E : cz_E} (hE : cz_Eok E) : ck_Zok E ck_con172 := ck_ok1_ok hE (List.forall_mem_cons.mpr ⟨ck_zk170 hE, List.forall_mem_cons.mpr ⟨ck_zk171 hE, fun _ h => absurd h List.not_mem_nil⟩⟩) rfl ck_thm172
theorem ck_zk173 {E : cz_E} (hE : cz_Eok E) : ck_Zok E ck_con173 := ck_ok1_ok hE (List.forall_mem_cons.mpr ⟨ck_zk170 hE, fun _ h => absurd h List.not_mem_nil⟩) rfl ck_thm173
theorem ck_zk174 {E : cz_E} (hE : cz_Eok E) : ck_Zok E ck_con174 := ck_ok1_ok hE (List.forall_mem_cons.mpr ⟨ck_zk170 hE, fun _ h => absurd h List.not_mem_nil⟩) rfl ck_thm174
theorem ck_zk175 {E : cz_E} (hE : cz_Eok E) : ck_Zok E ck_con175 := ck_ok1_ok hE (List.forall_mem_cons.mpr ⟨ck_zk170 hE, fun _ h => absurd h List.not_mem_nil⟩) rfl ck_thm175
theorem ck_zk176 {E : cz_E} (hE : cz_Eok E) : ck_Zok E ck_con176 := ck_ok1_ok hE (List.forall_mem_cons.mpr ⟨ck_zk170 hE, fun _ h => absurd h List.not_mem_nil⟩) rfl ck_thm176
theorem ck_zk177 {E : cz_E} (hE : cz_Eok E) : ck_Zok E ck_con177 := ck_ok1_ok hE (List.forall_mem_cons.mpr ⟨ck_zk171 hE, fun _ h => absurd h List.not_mem_nil⟩) rfl ck_thm177
theorem ck_zk178 {E : cz_E} (hE : cz_Eok E) : ck_Zok E ck_con178 := ck_ok1_ok hE (List.forall_mem_cons.mpr ⟨ck_zk171 hE, fun _ h => absurd h List.not_mem_nil⟩) rfl ck_thm178
theorem ck_zk179 {E : cz_E} (hE : cz_Eok E) : ck_Zok E ck_con179 := ck_ok1_ok hE (List.forall_mem_cons.mpr ⟨ck_zk171 hE, fun _ h => absurd h List.not_mem_nil⟩) rfl ck_thm179
theorem ck_zk180 {E : cz_E} (hE : cz_Eok E) : ck_Zok E ck_con180 := ck_ok1_ok hE (List.forall_mem_cons.mpr ⟨ck_zk170 hE, List.forall_mem_cons.mpr ⟨ck_zk171 hE, List.forall_mem_cons.mpr ⟨ck_zk172 hE, List.forall_mem_cons.mpr ⟨ck_zk175 hE, List.forall_mem_cons.mpr ⟨ck_zk176 hE, List.forall_mem_cons.mpr ⟨ck_zk179 hE, fun _ h => absurd h List.not_mem_nil⟩⟩⟩⟩⟩⟩) rfl ck_thm180
theorem ck_zk181 {E : cz_E} (hE : cz_Eok E) : ck_Zok E ck_con181 := ck_ok1_ok hE (List.forall_mem_cons.mpr ⟨ck_zk170 hE, List.forall_mem_cons.mpr ⟨ck_zk171 hE, List.forall_mem_cons.mpr ⟨ck_zk172 hE, List.forall_mem_cons.mpr ⟨ck_zk173 hE, List.forall_mem_cons.mpr ⟨ck_zk174 hE, List.forall_mem_cons.mpr ⟨ck_zk175 hE, List.forall_mem_cons.mpr ⟨ck_zk177 hE, List.forall_mem_cons.mpr ⟨ck_zk178 hE, List.forall_mem_cons.mpr ⟨ck_zk180 hE, fun _ h => absurd h List.not_mem_nil⟩⟩⟩⟩⟩⟩⟩⟩⟩) rfl ck_thm181
theorem ck_zk182 {E : cz_E} (hE : cz_Eok E) : ck_Zok E ck_con182 := ck_ok1_ok hE (fun _ h => absurd h List.not_mem_nil) rfl ck_thm182
theorem ck_zk183 {E : cz_E} (hE : cz_Eok E) : ck_Zok E ck_con183 := ck_ok1_ok hE (fun _ h => absurd h List.not_mem_nil) rfl ck_thm183
theorem ck_zk184 {E : cz_E} (hE : cz_Eok E) : ck_Zok E ck_con184 := ck_ok1_ok hE (List.forall_mem_cons.mpr ⟨ck_zk183 hE, fun _ h => absurd h List.not_mem_nil⟩) rfl ck_thm184
theorem ck_zk185 {E : cz_E} (hE : cz_Eok E) : ck_Zok E ck_con185 := ck_ok1_ok hE (fun _ h => absurd h List.not_mem_nil) rfl ck_thm185
theorem ck_zk186 {E : cz_E} (hE : cz_Eok E) : ck_Zok E ck_con186 := ck_ok1_ok hE (fun _ h => absurd h List.not_mem_nil) rfl ck_thm186
theorem ck_zk187 {E : cz_E} (hE : cz_Eok E) : ck_Zok E ck_con187 := ck_ok1_ok hE (fun _ h => absurd h List.not_mem_nil) rfl ck_thm187
theorem ck_zk188 {E : cz_E} (hE : cz_Eok E) : ck_Zok E ck_con188 := ck_ok1_ok hE (fun _ h => absurd h List.not_mem_nil) rfl ck_thm188
theorem ck_zk189 {E : cz_E} (hE : cz_Eok E) : ck_Zok E ck_con189 := ck_ok1_ok hE (fun _ h => absurd h List.not_mem_nil) rfl ck_thm189
theorem ck_zk190 {E : cz_E} (hE : cz_Eok E) : ck_Zok E ck_con190 := ck_ok1_ok hE (List.forall_mem_cons.mpr ⟨ck_zk189 hE, fun _ h => absurd h List.not_mem_nil⟩) rfl ck_thm190
theorem ck_zk191 {E : cz_E} (hE : cz_Eok E) : ck_Zok E ck_con191 := ck_ok1_ok hE (List.forall_mem_cons.mpr ⟨ck_zk169 hE, List.forall_mem_cons.mpr ⟨ck_zk183 hE, List.forall_mem_cons.mpr ⟨ck_zk189 hE, fun _ h => absurd h List.not_mem_nil⟩⟩⟩) rfl ck_thm191
theorem ck_zk192 {E : cz_E} (hE : cz_Eok E) : ck_Zok E ck_con192 := ck_ok1_ok hE (List.forall_mem_cons.mpr ⟨ck_zk169 hE, List.forall_mem_cons.mpr ⟨ck_zk183 hE, List.forall_mem_cons.mpr ⟨ck_zk190 hE, fun _ h => absurd h List.not_mem_nil⟩⟩⟩) rfl ck_thm192
theorem ck_zk193 {E : cz_E} (hE : cz_Eok E) : ck_Zok E ck_con193 := ck_ok1_ok hE (List.forall_mem_cons.mpr ⟨ck_zk169 hE, List.forall_mem_cons.mpr ⟨ck_zk183 hE, List.forall_mem_cons.mpr ⟨ck_zk190 hE, fun _ h => absurd h List.not_mem_nil⟩⟩⟩) rfl ck_thm193
theorem ck_zk194 {E : cz_E} (hE : cz_Eok E) : ck_Zok E ck_con194 := ck_ok1_ok hE (fun _ h => absurd h List.not_mem_nil) rfl ck_thm194
theorem ck_zk195 {E : cz_E} (hE : cz_Eok E) : ck_Zok E ck_con195 := ck_ok1_ok hE (fun _ h => absurd h List.not_mem_nil) rfl ck_thm195
theorem ck_zk196 {E : cz_E} (hE : cz_Eok E) : ck_Zok E ck_con196 := ck_ok1_ok hE (fun _ h => absurd h List.not_mem_nil) rfl ck_thm196
theorem ck_zk197 {E : cz_E} (hE : cz_Eok E) : ck_Zok E ck_con197 := ck_ok1_ok hE (List.forall_mem_cons.mpr ⟨ck_zk169 hE, List.forall_mem_cons.mpr ⟨ck_zk183 hE, List.forall_mem_cons.mpr ⟨ck_zk190 hE, fun _ h => absurd h List.not_mem_nil⟩⟩⟩) rfl ck_thm197
theorem ck_zk198 {E : cz_E} (hE : cz_Eok E) : ck_Zok E ck_con198 := ck_ok1_ok hE (List.forall_mem_cons.mpr ⟨ck_zk197 hE, fun _ h => absurd h List.not_mem_nil⟩) rfl ck_thm198
theorem ck_zk199 {E : cz_E} (hE : cz_Eok E) : ck_Zok E ck_con199 := ck_ok1_ok hE (List.forall_mem_cons.mpr ⟨ck_zk197 hE, fun _ h => absurd h List.not_mem_nil⟩) rfl ck_thm199
theorem ck_zk200 {E : cz_E} (hE : cz_Eok E) : ck_Zok E ck_con200 := ck_ok1_ok hE (List.forall_mem_cons.mpr ⟨ck_zk197 hE, fun _ h => absurd h List.not_mem_nil⟩) rfl ck_thm200
theorem ck_zk201 {E : cz_E} (hE : cz_Eok E) : ck_Zok E ck_con201 := ck_ok1_ok hE (List.forall_mem_cons.mpr ⟨ck_zk169 hE, List.forall_mem_cons.mpr ⟨ck_zk190 hE, fun _ h => absurd h List.not_mem_nil⟩⟩) rfl ck_thm201
theorem ck_zk202 {E : cz_E} (hE : cz_Eok E) : ck_Zok E ck_con202 := ck_ok1_ok hE (List.forall_mem_cons.mpr ⟨ck_zk201 hE, fun _ h => absurd h List.not_mem_nil⟩) rfl ck_thm202
theorem ck_zk203 {E : cz_E} (hE : cz_Eok E) : ck_Zok E ck_con203 := ck_ok1_ok hE (List.forall_mem_cons.mpr ⟨ck_zk183 hE, List.forall_mem_cons.mpr ⟨ck_zk185 hE, fun _ h => absurd h List.not_mem_nil⟩⟩) rfl ck_thm203
theorem ck_zk204 {E : cz_E} (hE : cz_Eok E) : ck_Zok E ck_con204 := ck_ok1_ok hE (List.forall_mem_cons.mpr ⟨ck_zk203 hE, fun _ h => absurd h List.not_mem_nil⟩) rfl ck_thm204
theorem ck_zk205 {E : cz_E} (hE : cz_Eok E) : ck_Zok E ck_con205 := ck_ok1_ok hE (List.forall_mem_cons.mpr ⟨ck_zk197 hE, fun _ h => absurd h List.not_mem_nil⟩) rfl ck_thm205
theorem ck_zk206 {E : cz_E} (hE : cz_Eok E) : ck_Zok E ck_con206 := ck_ok1_ok hE (fun _ h => absurd h List.not_mem_nil) rfl ck_thm206
theorem ck_zk207 {E : cz_E} (hE : cz_Eok E) : ck_Zok E ck_con207 := ck_ok1_ok hE (List.forall_mem_cons.mpr ⟨ck_zk203 hE, fun _ h => absurd h List.not_mem_nil⟩) rfl ck_thm207
theorem ck_zk208 {E : cz_E} (hE : cz_Eok E) : ck_Zok E ck_con208 := ck_ok1_ok hE (List.forall_mem_cons.mpr ⟨ck_zk199 hE, fun _ h => absurd h List.not_mem_nil⟩) rfl ck_thm208
theorem ck_zk209 {E : cz_E} (hE : cz_Eok E) : ck_Zok E ck_con209 := ck_ok1_ok hE (fun _ h => absurd h List.not_mem_nil) rfl ck_thm209
theorem ck_zk210 {E : cz_E} (hE : cz_Eok E) : ck_Zok E ck_con210 := ck_ok1_ok hE (fun _ h => absurd h List.not_mem_nil) rfl ck_thm210
theorem ck_zk211 {E : cz_E} (hE : cz_Eok E) : ck_Zok E ck_con211 := ck_ok1_ok hE (fun _ h => absurd h List.not_mem_nil) rfl ck_thm211
theorem ck_zk212 {E : cz_E} (hE : cz_Eok E) : ck_Zok E ck_con212 := ck_ok1_ok hE (fun _ h => absurd h List.not_mem_nil) rfl ck_thm212
theorem ck_zk213 {E : cz_E} (hE : cz_Eok E) : ck_Zok E ck_con213 := ck_ok1_ok hE (List.forall_mem_cons.mpr ⟨ck_zk201 hE, fun _ h => absurd h List.not_mem_nil⟩) rfl ck_thm213
theorem ck_zk214 {E : cz_E} (hE : cz_Eok E) : ck_Zok E ck_con214 := ck_ok1_ok hE (fun _ h => absurd h List.not_mem_nil) rfl ck_thm214
theorem ck_zk215 {E : cz_E} (hE : cz_Eok E) : ck_Zok E ck_con215 := ck_ok1_ok hE (fun _ h => absurd h List.not_mem_nil) rfl ck_thm215
theorem ck_zk216 {E : cz_E} (hE : cz_Eok E) : ck_Zok E ck_con216 := ck_ok1_ok hE (List.forall_mem_cons.mpr ⟨ck_zk187 hE, fun _ h => absurd h List.not_mem_nil⟩) rfl ck_thm216
theorem ck_zk217 {E : cz_E} (hE : cz_Eok E) : ck_Zok E ck_con217 := ck_ok1_ok hE (List.forall_mem_cons.mpr ⟨ck_zk186 hE, List.forall_mem_cons.mpr ⟨ck_zk212 hE, List.forall_mem_cons.mpr ⟨ck_zk214 hE, List.forall_mem_cons.mpr ⟨ck_zk215 hE, List.forall_mem_cons.mpr ⟨ck_zk216 hE, fun _ h => absurd h List.not_mem_nil⟩⟩⟩⟩⟩) rfl ck_thm217
theorem ck_zk218 {E : cz_E} (hE : cz_Eok E) : ck_Zok E ck_con218 := ck_ok1_ok hE (List.forall_mem_cons.mpr ⟨ck_zk183 hE, List.forall_mem_cons.mpr ⟨ck_zk197 hE, List.forall_mem_cons.mpr ⟨ck_zk213 hE, List.forall_mem_cons.mpr ⟨ck_zk217 hE, fun _ h => absurd h List.not_mem_nil⟩⟩⟩⟩) rfl ck_thm218
theorem ck_zk219 {E : cz_E} (hE : cz_Eok E) : ck_Zok E ck_con219 := ck_ok1_ok hE (List.forall_mem_cons.mpr ⟨ck_zk212 hE, List.forall_mem_cons.mpr ⟨ck_zk213 hE, List.forall_mem_cons.mpr ⟨ck_zk214 hE, List.forall_mem_cons.mpr ⟨ck_zk216 hE, fun _ h => absurd h List.not_mem_nil⟩⟩⟩⟩) rfl ck_thm219
theorem ck_zk220 {E : cz_E} (hE : cz_Eok E) : ck_Zok E ck_con220 := ck_ok1_ok hE (List.forall_mem_cons.mpr ⟨ck_zk213 hE, List.forall_mem_cons.mpr ⟨ck_zk217 hE, fun _ h => absurd h List.not_mem_nil⟩⟩) rfl ck_thm220
theorem ck_zk221 {E : cz_E} (hE : cz_Eok E) : ck_Zok E ck_con221 := ck_ok1_ok hE (fun _ h => absurd h List.not_mem_nil) rfl ck_thm221
theorem ck_zk222 {E : cz_E} (hE : cz_Eok E) : ck_Zok E ck_con222 := ck_ok1_ok hE (List.forall_mem_cons.mpr ⟨ck_zk221 hE, fun _ h => absurd h List.not_mem_nil⟩) rfl ck_thm222
theorem ck_zk223 {E : cz_E} (hE : cz_Eok E) : ck_Zok E ck_con223 := ck_ok1_ok hE (List.forall_mem_cons.mpr ⟨ck_zk186 hE, List.forall_mem_cons.mpr ⟨ck_zk212 hE, List.forall_mem_cons.mpr ⟨ck_zk213 hE, List.forall_mem_cons.mpr ⟨ck_zk216 hE, List.forall_mem_cons.mpr ⟨ck_zk222 hE, fun _ h => absurd h List.not_mem_nil⟩⟩⟩⟩⟩) rfl ck_thm223
theorem ck_zk224 {E : cz_E} (hE : cz_Eok E) : ck_Zok E ck_con224 := ck_ok1_ok hE (fun _ h => absurd h List.not_mem_nil) rfl ck_thm224
theorem ck_zk225 {E : cz_E} (hE : cz_Eok E) : ck_Zok E ck_con225 := ck_ok1_ok hE (List.forall_mem_cons.mpr ⟨ck_zk224 hE, fun _ h => absurd h List.not_mem_nil⟩) rfl ck_thm225
theorem ck_zk226 {E : cz_E} (hE : cz_Eok E) : ck_Zok E ck_con226 := ck_ok1_ok hE (List.forall_mem_cons.mpr ⟨ck_zk197 hE, fun _ h => absurd h List.not_mem_nil⟩) rfl ck_thm226
theorem ck_zk227 {E : cz_E} (hE : cz_Eok E) : ck_Zok E ck_con227 := ck_ok1_ok hE (List.forall_mem_cons.mpr ⟨ck_zk183 hE, List.forall_mem_cons.mpr ⟨ck_zk188 hE, fun _ h => absurd h List.not_mem_nil⟩⟩) rfl ck_thm227
theorem ck_zk228 {E : cz_E} (hE : cz_Eok E) : ck_Zok E ck_con228 := ck_ok1_ok hE (List.forall_mem_cons.mpr ⟨ck_zk226 hE, List.forall_mem_cons.mpr ⟨ck_zk227 hE, fun _ h => absurd h List.not_mem_nil⟩⟩) rfl ck_thm228
theorem ck_zk229 {E : cz_E} (hE : cz_Eok E) : ck_Zok E ck_con229 := ck_ok1_ok hE (List.forall_mem_cons.mpr ⟨ck_zk226 hE, List.forall_mem_cons.mpr ⟨ck_zk227 hE, fun _ h => absurd h List.not_mem_nil⟩⟩) rfl ck_thm229
theorem ck_zk230 {E : cz_E} (hE : cz_Eok E) : ck_Zok E ck_con230 := ck_ok1_ok hE (fun _ h => absurd h List.not_mem_nil) rfl ck_thm230
theorem ck_zk231 {E : cz_E} (hE : cz_Eok E) : ck_Zok E ck_con231 := ck_ok1_ok hE (fun _ h => absurd h List.not_mem_nil) rfl ck_thm231
theorem ck_zk232 {E : cz_E} (hE : cz_Eok E) : ck_Zok E ck_con232 := ck_ok1_ok hE (List.forall_mem_cons.mpr ⟨ck_zk231 hE, fun _ h => absurd h List.not_mem_nil⟩) rfl ck_thm232
theorem ck_zk233 {E : cz_E} (hE : cz_Eok E) : ck_Zok E ck_con233 := ck_ok1_ok hE (fun _ h => absurd h List.not_mem_nil) rfl ck_thm233
theorem ck_zk234 {E : cz_E} (hE : cz_Eok E) : ck_Zok E ck_con234 := ck_ok1_ok hE (fun _ h => absurd h List.not_mem_nil) rfl ck_thm234
theorem ck_zk235 {E : cz_E} (hE : cz_Eok E) : ck_Zok E ck_con235 := ck_ok1_ok hE (List.forall_mem_cons.mpr ⟨ck_zk234 hE, fun _ h => absurd h List.not_mem_nil⟩) rfl ck_thm235
theorem ck_zk236 {E : cz_E} (hE : cz_Eok E) : ck_Zok E ck_con236 := ck_ok1_ok hE (fun _ h => absurd h List.not_mem_nil) rfl ck_thm236
theorem ck_zk237 {E : cz_E} (hE : cz_Eok E) : ck_Zok E ck_con237 := ck_ok1_ok hE (fun _ h => absurd h List.not_mem_nil) rfl ck_thm237
theorem ck_zk238 {E : cz_E} (hE : cz_Eok E) : ck_Zok E ck_con238 := ck_ok1_ok hE (fun _ h => absurd h List.not_mem_nil) rfl ck_thm238
theorem ck_zk239 {E : cz_E} (hE : cz_Eok E) : ck_Zok E ck_con239 := ck_ok1_ok hE (fun _ h => absurd h List.not_mem_nil) rfl ck_thm239
theorem ck_zk240 {E : cz_E} (hE : cz_Eok E) : ck_Zok E ck_con240 := ck_ok1_ok hE (List.forall_mem_cons.mpr ⟨ck_zk238 hE, List.forall_mem_cons.mpr ⟨ck_zk239 hE, fun _ h => absurd h List.not_mem_nil⟩⟩) rfl ck_thm240
theorem ck_zk241 {E : cz_E} (hE : cz_Eok E) : ck_Zok E ck_con241 := ck_ok1_ok hE (List.forall_mem_cons.mpr ⟨ck_zk238 hE, List.forall_mem_cons.mpr ⟨ck_zk239 hE, fun _ h => absurd h List.not_mem_nil⟩⟩) rfl ck_thm241
theorem ck_zk242 {E : cz_E} (hE : cz_Eok E) : ck_Zok E ck_con242 := ck_ok1_ok hE (List.forall_mem_cons.mpr ⟨ck_zk238 hE, fun _ h => absurd h List.not_mem_nil⟩) rfl ck_thm242
theorem ck_zk243 {E : cz_E} (hE : cz_Eok E) : ck_Zok E ck_con243 := ck_ok1_ok hE (fun _ h => absurd h List.not_mem_nil) rfl ck_thm243
theorem ck_zk244 {E : cz_E} (hE : cz_Eok E) : ck_Zok E ck_con244 := ck_ok1_ok hE (fun _ h => absurd h List.not_mem_nil) rfl ck_thm244
theorem ck_zk245 {E : cz_E} (hE : cz_Eok E) : ck_Zok E ck_con245 := ck_ok1_ok hE (fun _ h => absurd h List.not_mem_nil) rfl ck_thm245
theorem ck_zk246 {E : cz_E} (hE : cz_Eok E) : ck_Zok E ck_con246 := ck_ok1_ok hE (fun _ h => absurd h List.not_mem_nil) rfl ck_thm246
theorem ck_zk247 {E : cz_E} (hE : cz_Eok E) : ck_Zok E ck_con247 := ck_ok1_ok hE (List.forall_mem_cons.mpr ⟨ck_zk245 hE, List.forall_mem_cons.mpr ⟨ck_zk246 hE, fun _ h => absurd h List.not_mem_nil⟩⟩) rfl ck_thm247
theorem ck_zk248 {E : cz_E} (hE : cz_Eok E) : ck_Zok E ck_con248 := ck_ok1_ok hE (List.forall_mem_cons.mpr ⟨ck_zk245 hE, List.forall_mem_cons.mpr ⟨ck_zk247 hE, fun _ h => absurd h List.not_mem_nil⟩⟩) rfl ck_thm248
theorem ck_zk249 {E : cz_E} (hE : cz_Eok E) : ck_Zok E ck_con249 := ck_ok1_ok hE (List.forall_mem_cons.mpr ⟨ck_zk245 hE, List.forall_mem_cons.mpr ⟨ck_zk248 hE, fun _ h => absurd h List.not_mem_nil⟩⟩) rfl ck_thm249
theorem ck_zk250 {E : cz_E} (hE : cz_Eok E) : ck_Zok E ck_con250 := ck_ok1_ok hE (List.forall_mem_cons.mpr ⟨ck_zk245 hE, List.forall_mem_cons.mpr ⟨ck_zk249 hE, fun _ h => absurd h List.not_mem_nil⟩⟩) rfl ck_thm250
theorem ck_zk251 {E : cz_E} (hE : cz_Eok E) : ck_Zok E ck_con251 := ck_ok1_ok hE (List.forall_mem_cons.mpr ⟨ck_zk245 hE, List.forall_mem_cons.mpr ⟨ck_zk250 hE, fun _ h => absurd h List.not_mem_nil⟩⟩) rfl ck_thm251
theorem ck_zk252 {E : cz_E} (hE : cz_Eok E) : ck_Zok E ck_con252 := ck_ok1_ok hE (List.forall_mem_cons.mpr ⟨ck_zk245 hE, List.forall_mem_cons.mpr ⟨ck_zk251 hE, fun _ h => absurd h List.not_mem_nil⟩⟩) rfl ck_thm252
theorem ck_zk253 {E : cz_E} (hE : cz_Eok E) : ck_Zok E ck_con253 := ck_ok1_ok hE (List.forall_mem_cons.mpr ⟨ck_zk245 hE, List.forall_mem_cons.mpr ⟨ck_zk252 hE, fun _ h => absurd h List.not_mem_nil⟩⟩) rfl ck_thm253
theorem ck_zk254 {E : cz_E} (hE : cz_Eok E) : ck_Zok E ck_con254 := ck_ok1_ok hE (List.forall_mem_cons.mpr ⟨ck_zk253 hE, fun _ h => absurd h List.not_mem_nil⟩) rfl ck_thm254
theorem ck_zk255 {E : cz_E} (hE : cz_Eok E) : ck_Zok E ck_con255 := ck_ok1_ok hE (fun _ h => absurd h List.not_mem_nil) rfl ck_thm255
theorem ck_zk256 {E : cz_E} (hE : cz_Eok E) : ck_Zok E ck_con256 := ck_ok1_ok hE (fun _ h => absurd h List.not_mem_nil) rfl ck_thm256
theorem ck_zk257 {E : cz_E} (hE : cz_Eok E) : ck_Zok E ck_con257 := ck_ok1_ok hE (fun _ h => absurd h List.not_mem_nil) rfl ck_thm257
theorem ck_zk258 {E : cz_E} (hE : cz_Eok E) : ck_Zok E ck_con258 := ck_ok1_ok hE (fun _ h => absurd h List.not_mem_nil) rfl ck_thm258
theorem ck_zk259 {E : cz_E} (hE : cz_Eok E) : ck_Zok E ck_con259 := ck_ok1_ok hE (fun _ h => absurd h List.not_mem_nil) rfl ck_thm259
theorem ck_zk260 {E : cz_E} (hE : cz_Eok E) : ck_Zok E ck_con260 := ck_ok1_ok hE (fun _ h => absurd h List.not_mem_nil) rfl ck_thm260
theorem ck_zk261 {E : cz_E} (hE : cz_Eok E) : ck_Zok E ck_con261 := ck_ok1_ok hE (fun _ h => absurd h List.not_mem_nil) rfl ck_thm261
theorem ck_zk262 {E : cz_E} (hE : cz_Eok E) : ck_Zok E ck_con262 := ck_ok1_ok hE (List.forall_mem_cons.mpr ⟨ck_zk194 hE, fun _ h => absurd h List.not_mem_nil⟩) rfl ck_thm262
theorem ck_zk263 {E : cz_E} (hE : cz_Eok E) : ck_Zok E ck_con263 := ck_ok1_ok hE (List.forall_mem_cons.mpr ⟨ck_zk88 hE, List.forall_mem_cons.mpr ⟨ck_zk89 hE, List.forall_mem_cons.mpr ⟨ck_zk90 hE, List.forall_mem_cons.mpr ⟨ck_zk91 hE, List.forall_mem_cons.mpr ⟨ck_zk92 hE, List.forall_mem_cons.mpr ⟨ck_zk93 hE, List.forall_mem_cons.mpr ⟨ck_zk95 hE, List.forall_mem_cons.mpr ⟨ck_zk96 hE, List.forall_mem_cons.mpr ⟨ck_zk97 hE, List.forall_mem_cons.mpr ⟨ck_zk98 hE, List.forall_mem_cons.mpr ⟨ck_zk99 hE, List.forall_mem_cons.mpr ⟨ck_zk100 hE, List.forall_mem_cons.mpr ⟨ck_zk101 hE, List.forall_mem_cons.mpr ⟨ck_zk102 hE, List.forall_mem_cons.mpr ⟨ck_zk103 hE, List.forall_mem_cons.mpr ⟨ck_zk104 hE, List.forall_mem_cons.mpr ⟨ck_zk105 hE, List.forall_mem_cons.mpr ⟨ck_zk106 hE, List.forall_mem_cons.mpr ⟨ck_zk107 hE, List.forall_mem_cons.mpr ⟨ck_zk108 hE, List.forall_mem_cons.mpr ⟨ck_zk109 hE, List.forall_mem_cons.mpr ⟨ck_zk110 hE, List.forall_mem_cons.mpr ⟨ck_zk111 hE, List.forall_mem_cons.mpr ⟨ck_zk113 hE, List.forall_mem_cons.mpr ⟨ck_zk114 hE, List.forall_mem_cons.mpr ⟨ck_zk115 hE, List.forall_mem_cons.mpr ⟨ck_zk116 hE, List.forall_mem_cons.mpr ⟨ck_zk118 hE, List.forall_mem_cons.mpr ⟨ck_zk119 hE, List.forall_mem_cons.mpr ⟨ck_zk121 hE, List.forall_mem_cons.mpr ⟨ck_zk122 hE, List.forall_mem_cons.mpr ⟨ck_zk125 hE, List.forall_mem_cons.mpr ⟨ck_zk129 hE, List.forall_mem_cons.mpr ⟨ck_zk130 hE, List.forall_mem_cons.mpr ⟨ck_zk131 hE, List.forall_mem_cons.mpr ⟨ck_zk132 hE, List.forall_mem_cons.mpr ⟨ck_zk133 hE, List.forall_mem_cons.mpr ⟨ck_zk134 hE, List.forall_mem_cons.mpr ⟨ck_zk137 hE, List.forall_mem_cons.mpr ⟨ck_zk138 hE, List.forall_mem_cons.mpr ⟨ck_zk139 hE, List.forall_mem_cons.mpr ⟨ck_zk146 hE, List.forall_mem_cons.mpr ⟨ck_zk147 hE, List.forall_mem_cons.mpr ⟨ck_zk148 hE, List.forall_mem_cons.mpr ⟨ck_zk149 hE, List.forall_mem_cons.mpr ⟨ck_zk150 hE, List.forall_mem_cons.mpr ⟨ck_zk151 hE, List.forall_mem_cons.mpr ⟨ck_zk152 hE, List.forall_mem_cons.mpr ⟨ck_zk153 hE, List.forall_mem_cons.mpr ⟨ck_zk154 hE, List.forall_mem_cons.mpr ⟨ck_zk155 hE, List.forall_mem_cons.mpr ⟨ck_zk156 hE, List.forall_mem_cons.mpr ⟨ck_zk157 hE, List.forall_mem_cons.mpr ⟨ck_zk158 hE, List.forall_mem_cons.mpr ⟨ck_zk159 hE, List.forall_mem_cons.mpr ⟨ck_zk160 hE, List.forall_mem_cons.mpr ⟨ck_zk161 hE, List.forall_mem_cons.mpr ⟨ck_zk162 hE, List.forall_mem_cons.mpr ⟨ck_zk163 hE, List.forall_mem_cons.mpr ⟨ck_zk164 hE, List.forall_mem_cons.mpr ⟨ck_zk165 hE, List.forall_mem_cons.mpr ⟨ck_zk166 hE, List.forall_mem_cons.mpr ⟨ck_zk167 hE, List.forall_mem_cons.mpr ⟨ck_zk168 hE, List.forall_mem_cons.mpr ⟨ck_zk181 hE, List.forall_mem_cons.mpr ⟨ck_zk182 hE, List.forall_mem_cons.mpr ⟨ck_zk184 hE, List.forall_mem_cons.mpr ⟨ck_zk191 hE, List.forall_mem_cons.mpr ⟨ck_zk192 hE, List.forall_mem_cons.mpr ⟨ck_zk193 hE, List.forall_mem_cons.mpr ⟨ck_zk194 hE, List.forall_mem_cons.mpr ⟨ck_zk195 hE, List.forall_mem_cons.mpr ⟨ck_zk196 hE, List.forall_mem_cons.mpr ⟨ck_zk198 hE, List.forall_mem_cons.mpr ⟨ck_zk200 hE, List.forall_mem_cons.mpr ⟨ck_zk202 hE, List.forall_mem_cons.mpr ⟨ck_zk204 hE, List.forall_mem_cons.mpr ⟨ck_zk205 hE, List.forall_mem_cons.mpr ⟨ck_zk206 hE, List.forall_mem_cons.mpr ⟨ck_zk207 hE, List.forall_mem_cons.mpr ⟨ck_zk208 hE, List.forall_mem_cons.mpr ⟨ck_zk209 hE, List.forall_mem_cons.mpr ⟨ck_zk210 hE, List.forall_mem_cons.mpr ⟨ck_zk211 hE, List.forall_mem_cons.mpr ⟨ck_zk218 hE, List.forall_mem_cons.mpr ⟨ck_zk219 hE, List.forall_mem_cons.mpr ⟨ck_zk220 hE, List.forall_mem_cons.mpr ⟨ck_zk223 hE, List.forall_mem_cons.mpr ⟨ck_zk225 hE, List.forall_mem_cons.mpr ⟨ck_zk228 hE, List.forall_mem_cons.mpr ⟨ck_zk229 hE, List.forall_mem_cons.mpr ⟨ck_zk230 hE, List.forall_mem_cons.mpr ⟨ck_zk231 hE, List.forall_mem_cons.mpr ⟨ck_zk232 hE, List.forall_mem_cons.mpr ⟨ck_zk233 hE, List.forall_mem_cons.mpr ⟨ck_zk235 hE, List.forall_mem_cons.mpr ⟨ck_zk236 hE, List.forall_mem_cons.mpr ⟨ck_zk237 hE, List.forall_mem_cons.mpr ⟨ck_zk240 hE, List.forall_mem_cons.mpr ⟨ck_zk241 hE, List.forall_mem_cons.mpr ⟨ck_zk242 hE, List.forall_mem_cons.mpr ⟨ck_zk243 hE, List.forall_mem_cons.mpr ⟨ck_zk244 hE, List.forall_mem_cons.mpr ⟨ck_zk254 hE, List.forall_mem_cons.mpr ⟨ck_zk255 hE, List.forall_mem_cons.mpr ⟨ck_zk256 hE, List.forall_mem_cons.mpr ⟨ck_zk257 hE, List.forall_mem_cons.mpr ⟨ck_zk258 hE, List.forall_mem_cons.mpr ⟨ck_zk259 hE, List.forall_mem_cons.mpr ⟨ck_zk260 hE, List.forall_mem_cons.mpr ⟨ck_zk261 hE, List.forall_mem_cons.mpr ⟨ck_zk262 hE, fun _ h => absurd h List.not_mem_nil⟩⟩⟩⟩⟩⟩⟩⟩⟩⟩⟩⟩⟩⟩⟩⟩⟩⟩⟩⟩⟩⟩⟩⟩⟩⟩⟩⟩⟩⟩⟩⟩⟩⟩⟩⟩⟩⟩⟩⟩⟩⟩⟩⟩⟩⟩⟩⟩⟩⟩⟩⟩⟩⟩⟩⟩⟩⟩⟩⟩⟩⟩⟩⟩⟩⟩⟩⟩⟩⟩⟩⟩⟩⟩⟩⟩⟩⟩⟩⟩⟩⟩⟩⟩⟩⟩⟩⟩⟩⟩⟩⟩⟩⟩⟩⟩⟩⟩⟩⟩⟩⟩⟩⟩⟩⟩⟩⟩⟩⟩⟩⟩) rfl ck_thm263
