/-! the methods' words -/
theorem mt_a : ∀ k, k < 233 → (mt k).2.1.cls = kN (mt k).1 ∧ (mt k).1 < 12 ∧ (mt k).2.2.2.1 < 100 ∧ (mt k).2.2.2.2.2.1 < 50 ∧ (mt k).2.2.2.2.2.2 < 3 := by decide +kernel
theorem mt_b : ∀ k, k < 233 → (parseMethodDescriptor (mt k).2.1.desc).map (fun d => d.parameters.length) = some (mt k).2.2.2.2.2.1 := by decide +kernel
theorem mt_c : ∀ k, k < 233 → (k < 229 ∨ k = 232) → plainName (mt k).2.1.cls = true ∧ (mt k).2.1.cls ≠ "java/lang/invoke/MethodHandle" ∧ (mt k).2.1.cls ≠ "java/lang/invoke/VarHandle" := by decide +kernel
theorem mt_d : ∀ k, k < 233 → wk (mp k).2.1 (.initialized (kN (mt k).1)) := by decide +kernel
theorem mt_e : ∀ k, k < 233 → (mt k).2.2.2.2.2.2 = 1 → wk (mp k).2.2.1 (.static (mt k).2.1) := by decide +kernel
theorem mt_f : ∀ k, k < 233 → (mt k).2.2.2.2.2.2 ≠ 1 → wk (mp k).2.2.1 (.instanceMethod (mt k).2.1) := by decide +kernel
theorem mt_g : ∀ k, k < 233 → (mt k).2.2.2.2.2.2 = 0 → wk (mp k).2.2.2 (.selects (kN (mt k).1) (mt k).2.1 (mt k).2.1) ∧ (mt k).1 < 10 := by decide +kernel
theorem mt_h : ∀ k, k < 233 → (mt k).2.2.2.2.2.2 = 2 → (mt k).2.1.name = "<init>" ∧ (mt k).2.2.2.2.1 = none ∧ (mt k).1 < 10 := by decide +kernel
set_option maxRecDepth 50000 in
theorem mc_0 : lw_tbl[(mp 0).1]? = some (.code (mt 0).2.1 (mt 0).2.2.1 (mt 0).2.2.2.1 (mt 0).2.2.2.2.1) := by rfl
set_option maxRecDepth 50000 in
theorem mc_1 : lw_tbl[(mp 1).1]? = some (.code (mt 1).2.1 (mt 1).2.2.1 (mt 1).2.2.2.1 (mt 1).2.2.2.2.1) := by rfl
set_option maxRecDepth 50000 in
theorem mc_2 : lw_tbl[(mp 2).1]? = some (.code (mt 2).2.1 (mt 2).2.2.1 (mt 2).2.2.2.1 (mt 2).2.2.2.2.1) := by rfl
set_option maxRecDepth 50000 in
theorem mc_3 : lw_tbl[(mp 3).1]? = some (.code (mt 3).2.1 (mt 3).2.2.1 (mt 3).2.2.2.1 (mt 3).2.2.2.2.1) := by rfl
set_option maxRecDepth 50000 in
theorem mc_4 : lw_tbl[(mp 4).1]? = some (.code (mt 4).2.1 (mt 4).2.2.1 (mt 4).2.2.2.1 (mt 4).2.2.2.2.1) := by rfl
set_option maxRecDepth 50000 in
theorem mc_5 : lw_tbl[(mp 5).1]? = some (.code (mt 5).2.1 (mt 5).2.2.1 (mt 5).2.2.2.1 (mt 5).2.2.2.2.1) := by rfl
set_option maxRecDepth 50000 in
theorem mc_6 : lw_tbl[(mp 6).1]? = some (.code (mt 6).2.1 (mt 6).2.2.1 (mt 6).2.2.2.1 (mt 6).2.2.2.2.1) := by rfl
set_option maxRecDepth 50000 in
theorem mc_7 : lw_tbl[(mp 7).1]? = some (.code (mt 7).2.1 (mt 7).2.2.1 (mt 7).2.2.2.1 (mt 7).2.2.2.2.1) := by rfl
set_option maxRecDepth 50000 in
theorem mc_8 : lw_tbl[(mp 8).1]? = some (.code (mt 8).2.1 (mt 8).2.2.1 (mt 8).2.2.2.1 (mt 8).2.2.2.2.1) := by rfl
set_option maxRecDepth 50000 in
theorem mc_9 : lw_tbl[(mp 9).1]? = some (.code (mt 9).2.1 (mt 9).2.2.1 (mt 9).2.2.2.1 (mt 9).2.2.2.2.1) := by rfl
set_option maxRecDepth 50000 in
theorem mc_10 : lw_tbl[(mp 10).1]? = some (.code (mt 10).2.1 (mt 10).2.2.1 (mt 10).2.2.2.1 (mt 10).2.2.2.2.1) := by rfl
set_option maxRecDepth 50000 in
theorem mc_11 : lw_tbl[(mp 11).1]? = some (.code (mt 11).2.1 (mt 11).2.2.1 (mt 11).2.2.2.1 (mt 11).2.2.2.2.1) := by rfl
set_option maxRecDepth 50000 in
theorem mc_12 : lw_tbl[(mp 12).1]? = some (.code (mt 12).2.1 (mt 12).2.2.1 (mt 12).2.2.2.1 (mt 12).2.2.2.2.1) := by rfl
set_option maxRecDepth 50000 in
theorem mc_13 : lw_tbl[(mp 13).1]? = some (.code (mt 13).2.1 (mt 13).2.2.1 (mt 13).2.2.2.1 (mt 13).2.2.2.2.1) := by rfl
set_option maxRecDepth 50000 in
theorem mc_14 : lw_tbl[(mp 14).1]? = some (.code (mt 14).2.1 (mt 14).2.2.1 (mt 14).2.2.2.1 (mt 14).2.2.2.2.1) := by rfl
set_option maxRecDepth 50000 in
theorem mc_15 : lw_tbl[(mp 15).1]? = some (.code (mt 15).2.1 (mt 15).2.2.1 (mt 15).2.2.2.1 (mt 15).2.2.2.2.1) := by rfl
set_option maxRecDepth 50000 in
theorem mc_16 : lw_tbl[(mp 16).1]? = some (.code (mt 16).2.1 (mt 16).2.2.1 (mt 16).2.2.2.1 (mt 16).2.2.2.2.1) := by rfl
set_option maxRecDepth 50000 in
theorem mc_17 : lw_tbl[(mp 17).1]? = some (.code (mt 17).2.1 (mt 17).2.2.1 (mt 17).2.2.2.1 (mt 17).2.2.2.2.1) := by rfl
set_option maxRecDepth 50000 in
theorem mc_18 : lw_tbl[(mp 18).1]? = some (.code (mt 18).2.1 (mt 18).2.2.1 (mt 18).2.2.2.1 (mt 18).2.2.2.2.1) := by rfl
set_option maxRecDepth 50000 in
theorem mc_19 : lw_tbl[(mp 19).1]? = some (.code (mt 19).2.1 (mt 19).2.2.1 (mt 19).2.2.2.1 (mt 19).2.2.2.2.1) := by rfl
set_option maxRecDepth 50000 in
theorem mc_20 : lw_tbl[(mp 20).1]? = some (.code (mt 20).2.1 (mt 20).2.2.1 (mt 20).2.2.2.1 (mt 20).2.2.2.2.1) := by rfl
set_option maxRecDepth 50000 in
theorem mc_21 : lw_tbl[(mp 21).1]? = some (.code (mt 21).2.1 (mt 21).2.2.1 (mt 21).2.2.2.1 (mt 21).2.2.2.2.1) := by rfl
set_option maxRecDepth 50000 in
theorem mc_22 : lw_tbl[(mp 22).1]? = some (.code (mt 22).2.1 (mt 22).2.2.1 (mt 22).2.2.2.1 (mt 22).2.2.2.2.1) := by rfl
set_option maxRecDepth 50000 in
theorem mc_23 : lw_tbl[(mp 23).1]? = some (.code (mt 23).2.1 (mt 23).2.2.1 (mt 23).2.2.2.1 (mt 23).2.2.2.2.1) := by rfl
set_option maxRecDepth 50000 in
theorem mc_24 : lw_tbl[(mp 24).1]? = some (.code (mt 24).2.1 (mt 24).2.2.1 (mt 24).2.2.2.1 (mt 24).2.2.2.2.1) := by rfl
set_option maxRecDepth 50000 in
theorem mc_25 : lw_tbl[(mp 25).1]? = some (.code (mt 25).2.1 (mt 25).2.2.1 (mt 25).2.2.2.1 (mt 25).2.2.2.2.1) := by rfl
set_option maxRecDepth 50000 in
theorem mc_26 : lw_tbl[(mp 26).1]? = some (.code (mt 26).2.1 (mt 26).2.2.1 (mt 26).2.2.2.1 (mt 26).2.2.2.2.1) := by rfl
set_option maxRecDepth 50000 in
theorem mc_27 : lw_tbl[(mp 27).1]? = some (.code (mt 27).2.1 (mt 27).2.2.1 (mt 27).2.2.2.1 (mt 27).2.2.2.2.1) := by rfl
set_option maxRecDepth 50000 in
theorem mc_28 : lw_tbl[(mp 28).1]? = some (.code (mt 28).2.1 (mt 28).2.2.1 (mt 28).2.2.2.1 (mt 28).2.2.2.2.1) := by rfl
set_option maxRecDepth 50000 in
theorem mc_29 : lw_tbl[(mp 29).1]? = some (.code (mt 29).2.1 (mt 29).2.2.1 (mt 29).2.2.2.1 (mt 29).2.2.2.2.1) := by rfl
set_option maxRecDepth 50000 in
theorem mc_30 : lw_tbl[(mp 30).1]? = some (.code (mt 30).2.1 (mt 30).2.2.1 (mt 30).2.2.2.1 (mt 30).2.2.2.2.1) := by rfl
set_option maxRecDepth 50000 in
theorem mc_31 : lw_tbl[(mp 31).1]? = some (.code (mt 31).2.1 (mt 31).2.2.1 (mt 31).2.2.2.1 (mt 31).2.2.2.2.1) := by rfl
set_option maxRecDepth 50000 in
theorem mc_32 : lw_tbl[(mp 32).1]? = some (.code (mt 32).2.1 (mt 32).2.2.1 (mt 32).2.2.2.1 (mt 32).2.2.2.2.1) := by rfl
set_option maxRecDepth 50000 in
theorem mc_33 : lw_tbl[(mp 33).1]? = some (.code (mt 33).2.1 (mt 33).2.2.1 (mt 33).2.2.2.1 (mt 33).2.2.2.2.1) := by rfl
set_option maxRecDepth 50000 in
theorem mc_34 : lw_tbl[(mp 34).1]? = some (.code (mt 34).2.1 (mt 34).2.2.1 (mt 34).2.2.2.1 (mt 34).2.2.2.2.1) := by rfl
set_option maxRecDepth 50000 in
theorem mc_35 : lw_tbl[(mp 35).1]? = some (.code (mt 35).2.1 (mt 35).2.2.1 (mt 35).2.2.2.1 (mt 35).2.2.2.2.1) := by rfl
set_option maxRecDepth 50000 in
theorem mc_36 : lw_tbl[(mp 36).1]? = some (.code (mt 36).2.1 (mt 36).2.2.1 (mt 36).2.2.2.1 (mt 36).2.2.2.2.1) := by rfl
set_option maxRecDepth 50000 in
theorem mc_37 : lw_tbl[(mp 37).1]? = some (.code (mt 37).2.1 (mt 37).2.2.1 (mt 37).2.2.2.1 (mt 37).2.2.2.2.1) := by rfl
set_option maxRecDepth 50000 in
theorem mc_38 : lw_tbl[(mp 38).1]? = some (.code (mt 38).2.1 (mt 38).2.2.1 (mt 38).2.2.2.1 (mt 38).2.2.2.2.1) := by rfl
set_option maxRecDepth 50000 in
theorem mc_39 : lw_tbl[(mp 39).1]? = some (.code (mt 39).2.1 (mt 39).2.2.1 (mt 39).2.2.2.1 (mt 39).2.2.2.2.1) := by rfl
set_option maxRecDepth 50000 in
theorem mc_40 : lw_tbl[(mp 40).1]? = some (.code (mt 40).2.1 (mt 40).2.2.1 (mt 40).2.2.2.1 (mt 40).2.2.2.2.1) := by rfl
set_option maxRecDepth 50000 in
theorem mc_41 : lw_tbl[(mp 41).1]? = some (.code (mt 41).2.1 (mt 41).2.2.1 (mt 41).2.2.2.1 (mt 41).2.2.2.2.1) := by rfl
set_option maxRecDepth 50000 in
theorem mc_42 : lw_tbl[(mp 42).1]? = some (.code (mt 42).2.1 (mt 42).2.2.1 (mt 42).2.2.2.1 (mt 42).2.2.2.2.1) := by rfl
set_option maxRecDepth 50000 in
theorem mc_43 : lw_tbl[(mp 43).1]? = some (.code (mt 43).2.1 (mt 43).2.2.1 (mt 43).2.2.2.1 (mt 43).2.2.2.2.1) := by rfl
set_option maxRecDepth 50000 in
theorem mc_44 : lw_tbl[(mp 44).1]? = some (.code (mt 44).2.1 (mt 44).2.2.1 (mt 44).2.2.2.1 (mt 44).2.2.2.2.1) := by rfl
set_option maxRecDepth 50000 in
theorem mc_45 : lw_tbl[(mp 45).1]? = some (.code (mt 45).2.1 (mt 45).2.2.1 (mt 45).2.2.2.1 (mt 45).2.2.2.2.1) := by rfl
set_option maxRecDepth 50000 in
theorem mc_46 : lw_tbl[(mp 46).1]? = some (.code (mt 46).2.1 (mt 46).2.2.1 (mt 46).2.2.2.1 (mt 46).2.2.2.2.1) := by rfl
set_option maxRecDepth 50000 in
theorem mc_47 : lw_tbl[(mp 47).1]? = some (.code (mt 47).2.1 (mt 47).2.2.1 (mt 47).2.2.2.1 (mt 47).2.2.2.2.1) := by rfl
set_option maxRecDepth 50000 in
theorem mc_48 : lw_tbl[(mp 48).1]? = some (.code (mt 48).2.1 (mt 48).2.2.1 (mt 48).2.2.2.1 (mt 48).2.2.2.2.1) := by rfl
set_option maxRecDepth 50000 in
theorem mc_49 : lw_tbl[(mp 49).1]? = some (.code (mt 49).2.1 (mt 49).2.2.1 (mt 49).2.2.2.1 (mt 49).2.2.2.2.1) := by rfl
set_option maxRecDepth 50000 in
theorem mc_50 : lw_tbl[(mp 50).1]? = some (.code (mt 50).2.1 (mt 50).2.2.1 (mt 50).2.2.2.1 (mt 50).2.2.2.2.1) := by rfl
set_option maxRecDepth 50000 in
theorem mc_51 : lw_tbl[(mp 51).1]? = some (.code (mt 51).2.1 (mt 51).2.2.1 (mt 51).2.2.2.1 (mt 51).2.2.2.2.1) := by rfl
set_option maxRecDepth 50000 in
theorem mc_52 : lw_tbl[(mp 52).1]? = some (.code (mt 52).2.1 (mt 52).2.2.1 (mt 52).2.2.2.1 (mt 52).2.2.2.2.1) := by rfl
set_option maxRecDepth 50000 in
theorem mc_53 : lw_tbl[(mp 53).1]? = some (.code (mt 53).2.1 (mt 53).2.2.1 (mt 53).2.2.2.1 (mt 53).2.2.2.2.1) := by rfl
set_option maxRecDepth 50000 in
theorem mc_54 : lw_tbl[(mp 54).1]? = some (.code (mt 54).2.1 (mt 54).2.2.1 (mt 54).2.2.2.1 (mt 54).2.2.2.2.1) := by rfl
set_option maxRecDepth 50000 in
theorem mc_55 : lw_tbl[(mp 55).1]? = some (.code (mt 55).2.1 (mt 55).2.2.1 (mt 55).2.2.2.1 (mt 55).2.2.2.2.1) := by rfl
set_option maxRecDepth 50000 in
theorem mc_56 : lw_tbl[(mp 56).1]? = some (.code (mt 56).2.1 (mt 56).2.2.1 (mt 56).2.2.2.1 (mt 56).2.2.2.2.1) := by rfl
set_option maxRecDepth 50000 in
theorem mc_57 : lw_tbl[(mp 57).1]? = some (.code (mt 57).2.1 (mt 57).2.2.1 (mt 57).2.2.2.1 (mt 57).2.2.2.2.1) := by rfl
set_option maxRecDepth 50000 in
theorem mc_58 : lw_tbl[(mp 58).1]? = some (.code (mt 58).2.1 (mt 58).2.2.1 (mt 58).2.2.2.1 (mt 58).2.2.2.2.1) := by rfl
set_option maxRecDepth 50000 in
theorem mc_59 : lw_tbl[(mp 59).1]? = some (.code (mt 59).2.1 (mt 59).2.2.1 (mt 59).2.2.2.1 (mt 59).2.2.2.2.1) := by rfl
set_option maxRecDepth 50000 in
theorem mc_60 : lw_tbl[(mp 60).1]? = some (.code (mt 60).2.1 (mt 60).2.2.1 (mt 60).2.2.2.1 (mt 60).2.2.2.2.1) := by rfl
set_option maxRecDepth 50000 in
theorem mc_61 : lw_tbl[(mp 61).1]? = some (.code (mt 61).2.1 (mt 61).2.2.1 (mt 61).2.2.2.1 (mt 61).2.2.2.2.1) := by rfl
set_option maxRecDepth 50000 in
theorem mc_62 : lw_tbl[(mp 62).1]? = some (.code (mt 62).2.1 (mt 62).2.2.1 (mt 62).2.2.2.1 (mt 62).2.2.2.2.1) := by rfl
set_option maxRecDepth 50000 in
theorem mc_63 : lw_tbl[(mp 63).1]? = some (.code (mt 63).2.1 (mt 63).2.2.1 (mt 63).2.2.2.1 (mt 63).2.2.2.2.1) := by rfl
set_option maxRecDepth 50000 in
theorem mc_64 : lw_tbl[(mp 64).1]? = some (.code (mt 64).2.1 (mt 64).2.2.1 (mt 64).2.2.2.1 (mt 64).2.2.2.2.1) := by rfl
set_option maxRecDepth 50000 in
theorem mc_65 : lw_tbl[(mp 65).1]? = some (.code (mt 65).2.1 (mt 65).2.2.1 (mt 65).2.2.2.1 (mt 65).2.2.2.2.1) := by rfl
set_option maxRecDepth 50000 in
theorem mc_66 : lw_tbl[(mp 66).1]? = some (.code (mt 66).2.1 (mt 66).2.2.1 (mt 66).2.2.2.1 (mt 66).2.2.2.2.1) := by rfl
set_option maxRecDepth 50000 in
theorem mc_67 : lw_tbl[(mp 67).1]? = some (.code (mt 67).2.1 (mt 67).2.2.1 (mt 67).2.2.2.1 (mt 67).2.2.2.2.1) := by rfl
set_option maxRecDepth 50000 in
theorem mc_68 : lw_tbl[(mp 68).1]? = some (.code (mt 68).2.1 (mt 68).2.2.1 (mt 68).2.2.2.1 (mt 68).2.2.2.2.1) := by rfl
set_option maxRecDepth 50000 in
theorem mc_69 : lw_tbl[(mp 69).1]? = some (.code (mt 69).2.1 (mt 69).2.2.1 (mt 69).2.2.2.1 (mt 69).2.2.2.2.1) := by rfl
set_option maxRecDepth 50000 in
theorem mc_70 : lw_tbl[(mp 70).1]? = some (.code (mt 70).2.1 (mt 70).2.2.1 (mt 70).2.2.2.1 (mt 70).2.2.2.2.1) := by rfl
set_option maxRecDepth 50000 in
theorem mc_71 : lw_tbl[(mp 71).1]? = some (.code (mt 71).2.1 (mt 71).2.2.1 (mt 71).2.2.2.1 (mt 71).2.2.2.2.1) := by rfl
set_option maxRecDepth 50000 in
theorem mc_72 : lw_tbl[(mp 72).1]? = some (.code (mt 72).2.1 (mt 72).2.2.1 (mt 72).2.2.2.1 (mt 72).2.2.2.2.1) := by rfl
set_option maxRecDepth 50000 in
theorem mc_73 : lw_tbl[(mp 73).1]? = some (.code (mt 73).2.1 (mt 73).2.2.1 (mt 73).2.2.2.1 (mt 73).2.2.2.2.1) := by rfl
set_option maxRecDepth 50000 in
theorem mc_74 : lw_tbl[(mp 74).1]? = some (.code (mt 74).2.1 (mt 74).2.2.1 (mt 74).2.2.2.1 (mt 74).2.2.2.2.1) := by rfl
set_option maxRecDepth 50000 in
theorem mc_75 : lw_tbl[(mp 75).1]? = some (.code (mt 75).2.1 (mt 75).2.2.1 (mt 75).2.2.2.1 (mt 75).2.2.2.2.1) := by rfl
set_option maxRecDepth 50000 in
theorem mc_76 : lw_tbl[(mp 76).1]? = some (.code (mt 76).2.1 (mt 76).2.2.1 (mt 76).2.2.2.1 (mt 76).2.2.2.2.1) := by rfl
set_option maxRecDepth 50000 in
theorem mc_77 : lw_tbl[(mp 77).1]? = some (.code (mt 77).2.1 (mt 77).2.2.1 (mt 77).2.2.2.1 (mt 77).2.2.2.2.1) := by rfl
set_option maxRecDepth 50000 in
theorem mc_78 : lw_tbl[(mp 78).1]? = some (.code (mt 78).2.1 (mt 78).2.2.1 (mt 78).2.2.2.1 (mt 78).2.2.2.2.1) := by rfl
set_option maxRecDepth 50000 in
theorem mc_79 : lw_tbl[(mp 79).1]? = some (.code (mt 79).2.1 (mt 79).2.2.1 (mt 79).2.2.2.1 (mt 79).2.2.2.2.1) := by rfl
set_option maxRecDepth 50000 in
theorem mc_80 : lw_tbl[(mp 80).1]? = some (.code (mt 80).2.1 (mt 80).2.2.1 (mt 80).2.2.2.1 (mt 80).2.2.2.2.1) := by rfl
set_option maxRecDepth 50000 in
theorem mc_81 : lw_tbl[(mp 81).1]? = some (.code (mt 81).2.1 (mt 81).2.2.1 (mt 81).2.2.2.1 (mt 81).2.2.2.2.1) := by rfl
set_option maxRecDepth 50000 in
theorem mc_82 : lw_tbl[(mp 82).1]? = some (.code (mt 82).2.1 (mt 82).2.2.1 (mt 82).2.2.2.1 (mt 82).2.2.2.2.1) := by rfl
set_option maxRecDepth 50000 in
theorem mc_83 : lw_tbl[(mp 83).1]? = some (.code (mt 83).2.1 (mt 83).2.2.1 (mt 83).2.2.2.1 (mt 83).2.2.2.2.1) := by rfl
set_option maxRecDepth 50000 in
theorem mc_84 : lw_tbl[(mp 84).1]? = some (.code (mt 84).2.1 (mt 84).2.2.1 (mt 84).2.2.2.1 (mt 84).2.2.2.2.1) := by rfl
set_option maxRecDepth 50000 in
theorem mc_85 : lw_tbl[(mp 85).1]? = some (.code (mt 85).2.1 (mt 85).2.2.1 (mt 85).2.2.2.1 (mt 85).2.2.2.2.1) := by rfl
set_option maxRecDepth 50000 in
theorem mc_86 : lw_tbl[(mp 86).1]? = some (.code (mt 86).2.1 (mt 86).2.2.1 (mt 86).2.2.2.1 (mt 86).2.2.2.2.1) := by rfl
set_option maxRecDepth 50000 in
theorem mc_87 : lw_tbl[(mp 87).1]? = some (.code (mt 87).2.1 (mt 87).2.2.1 (mt 87).2.2.2.1 (mt 87).2.2.2.2.1) := by rfl
set_option maxRecDepth 50000 in
theorem mc_88 : lw_tbl[(mp 88).1]? = some (.code (mt 88).2.1 (mt 88).2.2.1 (mt 88).2.2.2.1 (mt 88).2.2.2.2.1) := by rfl
set_option maxRecDepth 50000 in
theorem mc_89 : lw_tbl[(mp 89).1]? = some (.code (mt 89).2.1 (mt 89).2.2.1 (mt 89).2.2.2.1 (mt 89).2.2.2.2.1) := by rfl
set_option maxRecDepth 50000 in
theorem mc_90 : lw_tbl[(mp 90).1]? = some (.code (mt 90).2.1 (mt 90).2.2.1 (mt 90).2.2.2.1 (mt 90).2.2.2.2.1) := by rfl
set_option maxRecDepth 50000 in
theorem mc_91 : lw_tbl[(mp 91).1]? = some (.code (mt 91).2.1 (mt 91).2.2.1 (mt 91).2.2.2.1 (mt 91).2.2.2.2.1) := by rfl
set_option maxRecDepth 50000 in
theorem mc_92 : lw_tbl[(mp 92).1]? = some (.code (mt 92).2.1 (mt 92).2.2.1 (mt 92).2.2.2.1 (mt 92).2.2.2.2.1) := by rfl
set_option maxRecDepth 50000 in
theorem mc_93 : lw_tbl[(mp 93).1]? = some (.code (mt 93).2.1 (mt 93).2.2.1 (mt 93).2.2.2.1 (mt 93).2.2.2.2.1) := by rfl
set_option maxRecDepth 50000 in
theorem mc_94 : lw_tbl[(mp 94).1]? = some (.code (mt 94).2.1 (mt 94).2.2.1 (mt 94).2.2.2.1 (mt 94).2.2.2.2.1) := by rfl
set_option maxRecDepth 50000 in
theorem mc_95 : lw_tbl[(mp 95).1]? = some (.code (mt 95).2.1 (mt 95).2.2.1 (mt 95).2.2.2.1 (mt 95).2.2.2.2.1) := by rfl
set_option maxRecDepth 50000 in
theorem mc_96 : lw_tbl[(mp 96).1]? = some (.code (mt 96).2.1 (mt 96).2.2.1 (mt 96).2.2.2.1 (mt 96).2.2.2.2.1) := by rfl
set_option maxRecDepth 50000 in
theorem mc_97 : lw_tbl[(mp 97).1]? = some (.code (mt 97).2.1 (mt 97).2.2.1 (mt 97).2.2.2.1 (mt 97).2.2.2.2.1) := by rfl
set_option maxRecDepth 50000 in
theorem mc_98 : lw_tbl[(mp 98).1]? = some (.code (mt 98).2.1 (mt 98).2.2.1 (mt 98).2.2.2.1 (mt 98).2.2.2.2.1) := by rfl
set_option maxRecDepth 50000 in
theorem mc_99 : lw_tbl[(mp 99).1]? = some (.code (mt 99).2.1 (mt 99).2.2.1 (mt 99).2.2.2.1 (mt 99).2.2.2.2.1) := by rfl
set_option maxRecDepth 50000 in
theorem mc_100 : lw_tbl[(mp 100).1]? = some (.code (mt 100).2.1 (mt 100).2.2.1 (mt 100).2.2.2.1 (mt 100).2.2.2.2.1) := by rfl
set_option maxRecDepth 50000 in
theorem mc_101 : lw_tbl[(mp 101).1]? = some (.code (mt 101).2.1 (mt 101).2.2.1 (mt 101).2.2.2.1 (mt 101).2.2.2.2.1) := by rfl
set_option maxRecDepth 50000 in
theorem mc_102 : lw_tbl[(mp 102).1]? = some (.code (mt 102).2.1 (mt 102).2.2.1 (mt 102).2.2.2.1 (mt 102).2.2.2.2.1) := by rfl
set_option maxRecDepth 50000 in
theorem mc_103 : lw_tbl[(mp 103).1]? = some (.code (mt 103).2.1 (mt 103).2.2.1 (mt 103).2.2.2.1 (mt 103).2.2.2.2.1) := by rfl
set_option maxRecDepth 50000 in
theorem mc_104 : lw_tbl[(mp 104).1]? = some (.code (mt 104).2.1 (mt 104).2.2.1 (mt 104).2.2.2.1 (mt 104).2.2.2.2.1) := by rfl
set_option maxRecDepth 50000 in
theorem mc_105 : lw_tbl[(mp 105).1]? = some (.code (mt 105).2.1 (mt 105).2.2.1 (mt 105).2.2.2.1 (mt 105).2.2.2.2.1) := by rfl
set_option maxRecDepth 50000 in
theorem mc_106 : lw_tbl[(mp 106).1]? = some (.code (mt 106).2.1 (mt 106).2.2.1 (mt 106).2.2.2.1 (mt 106).2.2.2.2.1) := by rfl
set_option maxRecDepth 50000 in
theorem mc_107 : lw_tbl[(mp 107).1]? = some (.code (mt 107).2.1 (mt 107).2.2.1 (mt 107).2.2.2.1 (mt 107).2.2.2.2.1) := by rfl
set_option maxRecDepth 50000 in
theorem mc_108 : lw_tbl[(mp 108).1]? = some (.code (mt 108).2.1 (mt 108).2.2.1 (mt 108).2.2.2.1 (mt 108).2.2.2.2.1) := by rfl
set_option maxRecDepth 50000 in
theorem mc_109 : lw_tbl[(mp 109).1]? = some (.code (mt 109).2.1 (mt 109).2.2.1 (mt 109).2.2.2.1 (mt 109).2.2.2.2.1) := by rfl
set_option maxRecDepth 50000 in
theorem mc_110 : lw_tbl[(mp 110).1]? = some (.code (mt 110).2.1 (mt 110).2.2.1 (mt 110).2.2.2.1 (mt 110).2.2.2.2.1) := by rfl
set_option maxRecDepth 50000 in
theorem mc_111 : lw_tbl[(mp 111).1]? = some (.code (mt 111).2.1 (mt 111).2.2.1 (mt 111).2.2.2.1 (mt 111).2.2.2.2.1) := by rfl
set_option maxRecDepth 50000 in
theorem mc_112 : lw_tbl[(mp 112).1]? = some (.code (mt 112).2.1 (mt 112).2.2.1 (mt 112).2.2.2.1 (mt 112).2.2.2.2.1) := by rfl
set_option maxRecDepth 50000 in
theorem mc_113 : lw_tbl[(mp 113).1]? = some (.code (mt 113).2.1 (mt 113).2.2.1 (mt 113).2.2.2.1 (mt 113).2.2.2.2.1) := by rfl
set_option maxRecDepth 50000 in
theorem mc_114 : lw_tbl[(mp 114).1]? = some (.code (mt 114).2.1 (mt 114).2.2.1 (mt 114).2.2.2.1 (mt 114).2.2.2.2.1) := by rfl
set_option maxRecDepth 50000 in
theorem mc_115 : lw_tbl[(mp 115).1]? = some (.code (mt 115).2.1 (mt 115).2.2.1 (mt 115).2.2.2.1 (mt 115).2.2.2.2.1) := by rfl
set_option maxRecDepth 50000 in
theorem mc_116 : lw_tbl[(mp 116).1]? = some (.code (mt 116).2.1 (mt 116).2.2.1 (mt 116).2.2.2.1 (mt 116).2.2.2.2.1) := by rfl
set_option maxRecDepth 50000 in
theorem mc_117 : lw_tbl[(mp 117).1]? = some (.code (mt 117).2.1 (mt 117).2.2.1 (mt 117).2.2.2.1 (mt 117).2.2.2.2.1) := by rfl
set_option maxRecDepth 50000 in
theorem mc_118 : lw_tbl[(mp 118).1]? = some (.code (mt 118).2.1 (mt 118).2.2.1 (mt 118).2.2.2.1 (mt 118).2.2.2.2.1) := by rfl
set_option maxRecDepth 50000 in
theorem mc_119 : lw_tbl[(mp 119).1]? = some (.code (mt 119).2.1 (mt 119).2.2.1 (mt 119).2.2.2.1 (mt 119).2.2.2.2.1) := by rfl
set_option maxRecDepth 50000 in
theorem mc_120 : lw_tbl[(mp 120).1]? = some (.code (mt 120).2.1 (mt 120).2.2.1 (mt 120).2.2.2.1 (mt 120).2.2.2.2.1) := by rfl
set_option maxRecDepth 50000 in
theorem mc_121 : lw_tbl[(mp 121).1]? = some (.code (mt 121).2.1 (mt 121).2.2.1 (mt 121).2.2.2.1 (mt 121).2.2.2.2.1) := by rfl
set_option maxRecDepth 50000 in
theorem mc_122 : lw_tbl[(mp 122).1]? = some (.code (mt 122).2.1 (mt 122).2.2.1 (mt 122).2.2.2.1 (mt 122).2.2.2.2.1) := by rfl
set_option maxRecDepth 50000 in
theorem mc_123 : lw_tbl[(mp 123).1]? = some (.code (mt 123).2.1 (mt 123).2.2.1 (mt 123).2.2.2.1 (mt 123).2.2.2.2.1) := by rfl
set_option maxRecDepth 50000 in
theorem mc_124 : lw_tbl[(mp 124).1]? = some (.code (mt 124).2.1 (mt 124).2.2.1 (mt 124).2.2.2.1 (mt 124).2.2.2.2.1) := by rfl
set_option maxRecDepth 50000 in
theorem mc_125 : lw_tbl[(mp 125).1]? = some (.code (mt 125).2.1 (mt 125).2.2.1 (mt 125).2.2.2.1 (mt 125).2.2.2.2.1) := by rfl
set_option maxRecDepth 50000 in
theorem mc_126 : lw_tbl[(mp 126).1]? = some (.code (mt 126).2.1 (mt 126).2.2.1 (mt 126).2.2.2.1 (mt 126).2.2.2.2.1) := by rfl
set_option maxRecDepth 50000 in
theorem mc_127 : lw_tbl[(mp 127).1]? = some (.code (mt 127).2.1 (mt 127).2.2.1 (mt 127).2.2.2.1 (mt 127).2.2.2.2.1) := by rfl
set_option maxRecDepth 50000 in
theorem mc_128 : lw_tbl[(mp 128).1]? = some (.code (mt 128).2.1 (mt 128).2.2.1 (mt 128).2.2.2.1 (mt 128).2.2.2.2.1) := by rfl
set_option maxRecDepth 50000 in
theorem mc_129 : lw_tbl[(mp 129).1]? = some (.code (mt 129).2.1 (mt 129).2.2.1 (mt 129).2.2.2.1 (mt 129).2.2.2.2.1) := by rfl
set_option maxRecDepth 50000 in
theorem mc_130 : lw_tbl[(mp 130).1]? = some (.code (mt 130).2.1 (mt 130).2.2.1 (mt 130).2.2.2.1 (mt 130).2.2.2.2.1) := by rfl
set_option maxRecDepth 50000 in
theorem mc_131 : lw_tbl[(mp 131).1]? = some (.code (mt 131).2.1 (mt 131).2.2.1 (mt 131).2.2.2.1 (mt 131).2.2.2.2.1) := by rfl
set_option maxRecDepth 50000 in
theorem mc_132 : lw_tbl[(mp 132).1]? = some (.code (mt 132).2.1 (mt 132).2.2.1 (mt 132).2.2.2.1 (mt 132).2.2.2.2.1) := by rfl
set_option maxRecDepth 50000 in
theorem mc_133 : lw_tbl[(mp 133).1]? = some (.code (mt 133).2.1 (mt 133).2.2.1 (mt 133).2.2.2.1 (mt 133).2.2.2.2.1) := by rfl
set_option maxRecDepth 50000 in
theorem mc_134 : lw_tbl[(mp 134).1]? = some (.code (mt 134).2.1 (mt 134).2.2.1 (mt 134).2.2.2.1 (mt 134).2.2.2.2.1) := by rfl
set_option maxRecDepth 50000 in
theorem mc_135 : lw_tbl[(mp 135).1]? = some (.code (mt 135).2.1 (mt 135).2.2.1 (mt 135).2.2.2.1 (mt 135).2.2.2.2.1) := by rfl
set_option maxRecDepth 50000 in
theorem mc_136 : lw_tbl[(mp 136).1]? = some (.code (mt 136).2.1 (mt 136).2.2.1 (mt 136).2.2.2.1 (mt 136).2.2.2.2.1) := by rfl
set_option maxRecDepth 50000 in
theorem mc_137 : lw_tbl[(mp 137).1]? = some (.code (mt 137).2.1 (mt 137).2.2.1 (mt 137).2.2.2.1 (mt 137).2.2.2.2.1) := by rfl
set_option maxRecDepth 50000 in
theorem mc_138 : lw_tbl[(mp 138).1]? = some (.code (mt 138).2.1 (mt 138).2.2.1 (mt 138).2.2.2.1 (mt 138).2.2.2.2.1) := by rfl
set_option maxRecDepth 50000 in
theorem mc_139 : lw_tbl[(mp 139).1]? = some (.code (mt 139).2.1 (mt 139).2.2.1 (mt 139).2.2.2.1 (mt 139).2.2.2.2.1) := by rfl
set_option maxRecDepth 50000 in
theorem mc_140 : lw_tbl[(mp 140).1]? = some (.code (mt 140).2.1 (mt 140).2.2.1 (mt 140).2.2.2.1 (mt 140).2.2.2.2.1) := by rfl
set_option maxRecDepth 50000 in
theorem mc_141 : lw_tbl[(mp 141).1]? = some (.code (mt 141).2.1 (mt 141).2.2.1 (mt 141).2.2.2.1 (mt 141).2.2.2.2.1) := by rfl
set_option maxRecDepth 50000 in
theorem mc_142 : lw_tbl[(mp 142).1]? = some (.code (mt 142).2.1 (mt 142).2.2.1 (mt 142).2.2.2.1 (mt 142).2.2.2.2.1) := by rfl
set_option maxRecDepth 50000 in
theorem mc_143 : lw_tbl[(mp 143).1]? = some (.code (mt 143).2.1 (mt 143).2.2.1 (mt 143).2.2.2.1 (mt 143).2.2.2.2.1) := by rfl
set_option maxRecDepth 50000 in
theorem mc_144 : lw_tbl[(mp 144).1]? = some (.code (mt 144).2.1 (mt 144).2.2.1 (mt 144).2.2.2.1 (mt 144).2.2.2.2.1) := by rfl
set_option maxRecDepth 50000 in
theorem mc_145 : lw_tbl[(mp 145).1]? = some (.code (mt 145).2.1 (mt 145).2.2.1 (mt 145).2.2.2.1 (mt 145).2.2.2.2.1) := by rfl
set_option maxRecDepth 50000 in
theorem mc_146 : lw_tbl[(mp 146).1]? = some (.code (mt 146).2.1 (mt 146).2.2.1 (mt 146).2.2.2.1 (mt 146).2.2.2.2.1) := by rfl
set_option maxRecDepth 50000 in
theorem mc_147 : lw_tbl[(mp 147).1]? = some (.code (mt 147).2.1 (mt 147).2.2.1 (mt 147).2.2.2.1 (mt 147).2.2.2.2.1) := by rfl
set_option maxRecDepth 50000 in
theorem mc_148 : lw_tbl[(mp 148).1]? = some (.code (mt 148).2.1 (mt 148).2.2.1 (mt 148).2.2.2.1 (mt 148).2.2.2.2.1) := by rfl
set_option maxRecDepth 50000 in
theorem mc_149 : lw_tbl[(mp 149).1]? = some (.code (mt 149).2.1 (mt 149).2.2.1 (mt 149).2.2.2.1 (mt 149).2.2.2.2.1) := by rfl
set_option maxRecDepth 50000 in
theorem mc_150 : lw_tbl[(mp 150).1]? = some (.code (mt 150).2.1 (mt 150).2.2.1 (mt 150).2.2.2.1 (mt 150).2.2.2.2.1) := by rfl
set_option maxRecDepth 50000 in
theorem mc_151 : lw_tbl[(mp 151).1]? = some (.code (mt 151).2.1 (mt 151).2.2.1 (mt 151).2.2.2.1 (mt 151).2.2.2.2.1) := by rfl
set_option maxRecDepth 50000 in
theorem mc_152 : lw_tbl[(mp 152).1]? = some (.code (mt 152).2.1 (mt 152).2.2.1 (mt 152).2.2.2.1 (mt 152).2.2.2.2.1) := by rfl
set_option maxRecDepth 50000 in
theorem mc_153 : lw_tbl[(mp 153).1]? = some (.code (mt 153).2.1 (mt 153).2.2.1 (mt 153).2.2.2.1 (mt 153).2.2.2.2.1) := by rfl
set_option maxRecDepth 50000 in
theorem mc_154 : lw_tbl[(mp 154).1]? = some (.code (mt 154).2.1 (mt 154).2.2.1 (mt 154).2.2.2.1 (mt 154).2.2.2.2.1) := by rfl
set_option maxRecDepth 50000 in
theorem mc_155 : lw_tbl[(mp 155).1]? = some (.code (mt 155).2.1 (mt 155).2.2.1 (mt 155).2.2.2.1 (mt 155).2.2.2.2.1) := by rfl
set_option maxRecDepth 50000 in
theorem mc_156 : lw_tbl[(mp 156).1]? = some (.code (mt 156).2.1 (mt 156).2.2.1 (mt 156).2.2.2.1 (mt 156).2.2.2.2.1) := by rfl
set_option maxRecDepth 50000 in
theorem mc_157 : lw_tbl[(mp 157).1]? = some (.code (mt 157).2.1 (mt 157).2.2.1 (mt 157).2.2.2.1 (mt 157).2.2.2.2.1) := by rfl
set_option maxRecDepth 50000 in
theorem mc_158 : lw_tbl[(mp 158).1]? = some (.code (mt 158).2.1 (mt 158).2.2.1 (mt 158).2.2.2.1 (mt 158).2.2.2.2.1) := by rfl
set_option maxRecDepth 50000 in
theorem mc_159 : lw_tbl[(mp 159).1]? = some (.code (mt 159).2.1 (mt 159).2.2.1 (mt 159).2.2.2.1 (mt 159).2.2.2.2.1) := by rfl
set_option maxRecDepth 50000 in
theorem mc_160 : lw_tbl[(mp 160).1]? = some (.code (mt 160).2.1 (mt 160).2.2.1 (mt 160).2.2.2.1 (mt 160).2.2.2.2.1) := by rfl
set_option maxRecDepth 50000 in
theorem mc_161 : lw_tbl[(mp 161).1]? = some (.code (mt 161).2.1 (mt 161).2.2.1 (mt 161).2.2.2.1 (mt 161).2.2.2.2.1) := by rfl
set_option maxRecDepth 50000 in
theorem mc_162 : lw_tbl[(mp 162).1]? = some (.code (mt 162).2.1 (mt 162).2.2.1 (mt 162).2.2.2.1 (mt 162).2.2.2.2.1) := by rfl
set_option maxRecDepth 50000 in
theorem mc_163 : lw_tbl[(mp 163).1]? = some (.code (mt 163).2.1 (mt 163).2.2.1 (mt 163).2.2.2.1 (mt 163).2.2.2.2.1) := by rfl
set_option maxRecDepth 50000 in
theorem mc_164 : lw_tbl[(mp 164).1]? = some (.code (mt 164).2.1 (mt 164).2.2.1 (mt 164).2.2.2.1 (mt 164).2.2.2.2.1) := by rfl
set_option maxRecDepth 50000 in
theorem mc_165 : lw_tbl[(mp 165).1]? = some (.code (mt 165).2.1 (mt 165).2.2.1 (mt 165).2.2.2.1 (mt 165).2.2.2.2.1) := by rfl
set_option maxRecDepth 50000 in
theorem mc_166 : lw_tbl[(mp 166).1]? = some (.code (mt 166).2.1 (mt 166).2.2.1 (mt 166).2.2.2.1 (mt 166).2.2.2.2.1) := by rfl
set_option maxRecDepth 50000 in
theorem mc_167 : lw_tbl[(mp 167).1]? = some (.code (mt 167).2.1 (mt 167).2.2.1 (mt 167).2.2.2.1 (mt 167).2.2.2.2.1) := by rfl
set_option maxRecDepth 50000 in
theorem mc_168 : lw_tbl[(mp 168).1]? = some (.code (mt 168).2.1 (mt 168).2.2.1 (mt 168).2.2.2.1 (mt 168).2.2.2.2.1) := by rfl
set_option maxRecDepth 50000 in
theorem mc_169 : lw_tbl[(mp 169).1]? = some (.code (mt 169).2.1 (mt 169).2.2.1 (mt 169).2.2.2.1 (mt 169).2.2.2.2.1) := by rfl
set_option maxRecDepth 50000 in
theorem mc_170 : lw_tbl[(mp 170).1]? = some (.code (mt 170).2.1 (mt 170).2.2.1 (mt 170).2.2.2.1 (mt 170).2.2.2.2.1) := by rfl
set_option maxRecDepth 50000 in
theorem mc_171 : lw_tbl[(mp 171).1]? = some (.code (mt 171).2.1 (mt 171).2.2.1 (mt 171).2.2.2.1 (mt 171).2.2.2.2.1) := by rfl
set_option maxRecDepth 50000 in
theorem mc_172 : lw_tbl[(mp 172).1]? = some (.code (mt 172).2.1 (mt 172).2.2.1 (mt 172).2.2.2.1 (mt 172).2.2.2.2.1) := by rfl
set_option maxRecDepth 50000 in
theorem mc_173 : lw_tbl[(mp 173).1]? = some (.code (mt 173).2.1 (mt 173).2.2.1 (mt 173).2.2.2.1 (mt 173).2.2.2.2.1) := by rfl
set_option maxRecDepth 50000 in
theorem mc_174 : lw_tbl[(mp 174).1]? = some (.code (mt 174).2.1 (mt 174).2.2.1 (mt 174).2.2.2.1 (mt 174).2.2.2.2.1) := by rfl
set_option maxRecDepth 50000 in
theorem mc_175 : lw_tbl[(mp 175).1]? = some (.code (mt 175).2.1 (mt 175).2.2.1 (mt 175).2.2.2.1 (mt 175).2.2.2.2.1) := by rfl
set_option maxRecDepth 50000 in
theorem mc_176 : lw_tbl[(mp 176).1]? = some (.code (mt 176).2.1 (mt 176).2.2.1 (mt 176).2.2.2.1 (mt 176).2.2.2.2.1) := by rfl
set_option maxRecDepth 50000 in
theorem mc_177 : lw_tbl[(mp 177).1]? = some (.code (mt 177).2.1 (mt 177).2.2.1 (mt 177).2.2.2.1 (mt 177).2.2.2.2.1) := by rfl
set_option maxRecDepth 50000 in
theorem mc_178 : lw_tbl[(mp 178).1]? = some (.code (mt 178).2.1 (mt 178).2.2.1 (mt 178).2.2.2.1 (mt 178).2.2.2.2.1) := by rfl
set_option maxRecDepth 50000 in
theorem mc_179 : lw_tbl[(mp 179).1]? = some (.code (mt 179).2.1 (mt 179).2.2.1 (mt 179).2.2.2.1 (mt 179).2.2.2.2.1) := by rfl
set_option maxRecDepth 50000 in
theorem mc_180 : lw_tbl[(mp 180).1]? = some (.code (mt 180).2.1 (mt 180).2.2.1 (mt 180).2.2.2.1 (mt 180).2.2.2.2.1) := by rfl
set_option maxRecDepth 50000 in
theorem mc_181 : lw_tbl[(mp 181).1]? = some (.code (mt 181).2.1 (mt 181).2.2.1 (mt 181).2.2.2.1 (mt 181).2.2.2.2.1) := by rfl
set_option maxRecDepth 50000 in
theorem mc_182 : lw_tbl[(mp 182).1]? = some (.code (mt 182).2.1 (mt 182).2.2.1 (mt 182).2.2.2.1 (mt 182).2.2.2.2.1) := by rfl
set_option maxRecDepth 50000 in
theorem mc_183 : lw_tbl[(mp 183).1]? = some (.code (mt 183).2.1 (mt 183).2.2.1 (mt 183).2.2.2.1 (mt 183).2.2.2.2.1) := by rfl
set_option maxRecDepth 50000 in
theorem mc_184 : lw_tbl[(mp 184).1]? = some (.code (mt 184).2.1 (mt 184).2.2.1 (mt 184).2.2.2.1 (mt 184).2.2.2.2.1) := by rfl
set_option maxRecDepth 50000 in
theorem mc_185 : lw_tbl[(mp 185).1]? = some (.code (mt 185).2.1 (mt 185).2.2.1 (mt 185).2.2.2.1 (mt 185).2.2.2.2.1) := by rfl
set_option maxRecDepth 50000 in
theorem mc_186 : lw_tbl[(mp 186).1]? = some (.code (mt 186).2.1 (mt 186).2.2.1 (mt 186).2.2.2.1 (mt 186).2.2.2.2.1) := by rfl
set_option maxRecDepth 50000 in
theorem mc_187 : lw_tbl[(mp 187).1]? = some (.code (mt 187).2.1 (mt 187).2.2.1 (mt 187).2.2.2.1 (mt 187).2.2.2.2.1) := by rfl
set_option maxRecDepth 50000 in
theorem mc_188 : lw_tbl[(mp 188).1]? = some (.code (mt 188).2.1 (mt 188).2.2.1 (mt 188).2.2.2.1 (mt 188).2.2.2.2.1) := by rfl
set_option maxRecDepth 50000 in
theorem mc_189 : lw_tbl[(mp 189).1]? = some (.code (mt 189).2.1 (mt 189).2.2.1 (mt 189).2.2.2.1 (mt 189).2.2.2.2.1) := by rfl
set_option maxRecDepth 50000 in
theorem mc_190 : lw_tbl[(mp 190).1]? = some (.code (mt 190).2.1 (mt 190).2.2.1 (mt 190).2.2.2.1 (mt 190).2.2.2.2.1) := by rfl
set_option maxRecDepth 50000 in
theorem mc_191 : lw_tbl[(mp 191).1]? = some (.code (mt 191).2.1 (mt 191).2.2.1 (mt 191).2.2.2.1 (mt 191).2.2.2.2.1) := by rfl
set_option maxRecDepth 50000 in
theorem mc_192 : lw_tbl[(mp 192).1]? = some (.code (mt 192).2.1 (mt 192).2.2.1 (mt 192).2.2.2.1 (mt 192).2.2.2.2.1) := by rfl
set_option maxRecDepth 50000 in
theorem mc_193 : lw_tbl[(mp 193).1]? = some (.code (mt 193).2.1 (mt 193).2.2.1 (mt 193).2.2.2.1 (mt 193).2.2.2.2.1) := by rfl
set_option maxRecDepth 50000 in
theorem mc_194 : lw_tbl[(mp 194).1]? = some (.code (mt 194).2.1 (mt 194).2.2.1 (mt 194).2.2.2.1 (mt 194).2.2.2.2.1) := by rfl
set_option maxRecDepth 50000 in
theorem mc_195 : lw_tbl[(mp 195).1]? = some (.code (mt 195).2.1 (mt 195).2.2.1 (mt 195).2.2.2.1 (mt 195).2.2.2.2.1) := by rfl
set_option maxRecDepth 50000 in
theorem mc_196 : lw_tbl[(mp 196).1]? = some (.code (mt 196).2.1 (mt 196).2.2.1 (mt 196).2.2.2.1 (mt 196).2.2.2.2.1) := by rfl
set_option maxRecDepth 50000 in
theorem mc_197 : lw_tbl[(mp 197).1]? = some (.code (mt 197).2.1 (mt 197).2.2.1 (mt 197).2.2.2.1 (mt 197).2.2.2.2.1) := by rfl
set_option maxRecDepth 50000 in
theorem mc_198 : lw_tbl[(mp 198).1]? = some (.code (mt 198).2.1 (mt 198).2.2.1 (mt 198).2.2.2.1 (mt 198).2.2.2.2.1) := by rfl
set_option maxRecDepth 50000 in
theorem mc_199 : lw_tbl[(mp 199).1]? = some (.code (mt 199).2.1 (mt 199).2.2.1 (mt 199).2.2.2.1 (mt 199).2.2.2.2.1) := by rfl
set_option maxRecDepth 50000 in
theorem mc_200 : lw_tbl[(mp 200).1]? = some (.code (mt 200).2.1 (mt 200).2.2.1 (mt 200).2.2.2.1 (mt 200).2.2.2.2.1) := by rfl
set_option maxRecDepth 50000 in
theorem mc_201 : lw_tbl[(mp 201).1]? = some (.code (mt 201).2.1 (mt 201).2.2.1 (mt 201).2.2.2.1 (mt 201).2.2.2.2.1) := by rfl
set_option maxRecDepth 50000 in
theorem mc_202 : lw_tbl[(mp 202).1]? = some (.code (mt 202).2.1 (mt 202).2.2.1 (mt 202).2.2.2.1 (mt 202).2.2.2.2.1) := by rfl
set_option maxRecDepth 50000 in
theorem mc_203 : lw_tbl[(mp 203).1]? = some (.code (mt 203).2.1 (mt 203).2.2.1 (mt 203).2.2.2.1 (mt 203).2.2.2.2.1) := by rfl
set_option maxRecDepth 50000 in
theorem mc_204 : lw_tbl[(mp 204).1]? = some (.code (mt 204).2.1 (mt 204).2.2.1 (mt 204).2.2.2.1 (mt 204).2.2.2.2.1) := by rfl
set_option maxRecDepth 50000 in
theorem mc_205 : lw_tbl[(mp 205).1]? = some (.code (mt 205).2.1 (mt 205).2.2.1 (mt 205).2.2.2.1 (mt 205).2.2.2.2.1) := by rfl
set_option maxRecDepth 50000 in
theorem mc_206 : lw_tbl[(mp 206).1]? = some (.code (mt 206).2.1 (mt 206).2.2.1 (mt 206).2.2.2.1 (mt 206).2.2.2.2.1) := by rfl
set_option maxRecDepth 50000 in
theorem mc_207 : lw_tbl[(mp 207).1]? = some (.code (mt 207).2.1 (mt 207).2.2.1 (mt 207).2.2.2.1 (mt 207).2.2.2.2.1) := by rfl
set_option maxRecDepth 50000 in
theorem mc_208 : lw_tbl[(mp 208).1]? = some (.code (mt 208).2.1 (mt 208).2.2.1 (mt 208).2.2.2.1 (mt 208).2.2.2.2.1) := by rfl
set_option maxRecDepth 50000 in
theorem mc_209 : lw_tbl[(mp 209).1]? = some (.code (mt 209).2.1 (mt 209).2.2.1 (mt 209).2.2.2.1 (mt 209).2.2.2.2.1) := by rfl
set_option maxRecDepth 50000 in
theorem mc_210 : lw_tbl[(mp 210).1]? = some (.code (mt 210).2.1 (mt 210).2.2.1 (mt 210).2.2.2.1 (mt 210).2.2.2.2.1) := by rfl
set_option maxRecDepth 50000 in
theorem mc_211 : lw_tbl[(mp 211).1]? = some (.code (mt 211).2.1 (mt 211).2.2.1 (mt 211).2.2.2.1 (mt 211).2.2.2.2.1) := by rfl
set_option maxRecDepth 50000 in
theorem mc_212 : lw_tbl[(mp 212).1]? = some (.code (mt 212).2.1 (mt 212).2.2.1 (mt 212).2.2.2.1 (mt 212).2.2.2.2.1) := by rfl
set_option maxRecDepth 50000 in
theorem mc_213 : lw_tbl[(mp 213).1]? = some (.code (mt 213).2.1 (mt 213).2.2.1 (mt 213).2.2.2.1 (mt 213).2.2.2.2.1) := by rfl
set_option maxRecDepth 50000 in
theorem mc_214 : lw_tbl[(mp 214).1]? = some (.code (mt 214).2.1 (mt 214).2.2.1 (mt 214).2.2.2.1 (mt 214).2.2.2.2.1) := by rfl
set_option maxRecDepth 50000 in
theorem mc_215 : lw_tbl[(mp 215).1]? = some (.code (mt 215).2.1 (mt 215).2.2.1 (mt 215).2.2.2.1 (mt 215).2.2.2.2.1) := by rfl
set_option maxRecDepth 50000 in
theorem mc_216 : lw_tbl[(mp 216).1]? = some (.code (mt 216).2.1 (mt 216).2.2.1 (mt 216).2.2.2.1 (mt 216).2.2.2.2.1) := by rfl
set_option maxRecDepth 50000 in
theorem mc_217 : lw_tbl[(mp 217).1]? = some (.code (mt 217).2.1 (mt 217).2.2.1 (mt 217).2.2.2.1 (mt 217).2.2.2.2.1) := by rfl
set_option maxRecDepth 50000 in
theorem mc_218 : lw_tbl[(mp 218).1]? = some (.code (mt 218).2.1 (mt 218).2.2.1 (mt 218).2.2.2.1 (mt 218).2.2.2.2.1) := by rfl
set_option maxRecDepth 50000 in
theorem mc_219 : lw_tbl[(mp 219).1]? = some (.code (mt 219).2.1 (mt 219).2.2.1 (mt 219).2.2.2.1 (mt 219).2.2.2.2.1) := by rfl
set_option maxRecDepth 50000 in
theorem mc_220 : lw_tbl[(mp 220).1]? = some (.code (mt 220).2.1 (mt 220).2.2.1 (mt 220).2.2.2.1 (mt 220).2.2.2.2.1) := by rfl
set_option maxRecDepth 50000 in
theorem mc_221 : lw_tbl[(mp 221).1]? = some (.code (mt 221).2.1 (mt 221).2.2.1 (mt 221).2.2.2.1 (mt 221).2.2.2.2.1) := by rfl
set_option maxRecDepth 50000 in
theorem mc_222 : lw_tbl[(mp 222).1]? = some (.code (mt 222).2.1 (mt 222).2.2.1 (mt 222).2.2.2.1 (mt 222).2.2.2.2.1) := by rfl
set_option maxRecDepth 50000 in
theorem mc_223 : lw_tbl[(mp 223).1]? = some (.code (mt 223).2.1 (mt 223).2.2.1 (mt 223).2.2.2.1 (mt 223).2.2.2.2.1) := by rfl
set_option maxRecDepth 50000 in
theorem mc_224 : lw_tbl[(mp 224).1]? = some (.code (mt 224).2.1 (mt 224).2.2.1 (mt 224).2.2.2.1 (mt 224).2.2.2.2.1) := by rfl
set_option maxRecDepth 50000 in
theorem mc_225 : lw_tbl[(mp 225).1]? = some (.code (mt 225).2.1 (mt 225).2.2.1 (mt 225).2.2.2.1 (mt 225).2.2.2.2.1) := by rfl
set_option maxRecDepth 50000 in
theorem mc_226 : lw_tbl[(mp 226).1]? = some (.code (mt 226).2.1 (mt 226).2.2.1 (mt 226).2.2.2.1 (mt 226).2.2.2.2.1) := by rfl
set_option maxRecDepth 50000 in
theorem mc_227 : lw_tbl[(mp 227).1]? = some (.code (mt 227).2.1 (mt 227).2.2.1 (mt 227).2.2.2.1 (mt 227).2.2.2.2.1) := by rfl
set_option maxRecDepth 50000 in
theorem mc_228 : lw_tbl[(mp 228).1]? = some (.code (mt 228).2.1 (mt 228).2.2.1 (mt 228).2.2.2.1 (mt 228).2.2.2.2.1) := by rfl
set_option maxRecDepth 50000 in
theorem mc_229 : lw_tbl[(mp 229).1]? = some (.code (mt 229).2.1 (mt 229).2.2.1 (mt 229).2.2.2.1 (mt 229).2.2.2.2.1) := by rfl
set_option maxRecDepth 50000 in
theorem mc_230 : lw_tbl[(mp 230).1]? = some (.code (mt 230).2.1 (mt 230).2.2.1 (mt 230).2.2.2.1 (mt 230).2.2.2.2.1) := by rfl
set_option maxRecDepth 50000 in
theorem mc_231 : lw_tbl[(mp 231).1]? = some (.code (mt 231).2.1 (mt 231).2.2.1 (mt 231).2.2.2.1 (mt 231).2.2.2.2.1) := by rfl
set_option maxRecDepth 50000 in
theorem mc_232 : lw_tbl[(mp 232).1]? = some (.code (mt 232).2.1 (mt 232).2.2.1 (mt 232).2.2.2.1 (mt 232).2.2.2.2.1) := by rfl
theorem mt_w : ∀ k, k < 233 → lw_tbl[(mp k).1]? = some (.code (mt k).2.1 (mt k).2.2.1 (mt k).2.2.2.1 (mt k).2.2.2.2.1) := by
  intro k hk
  match k, hk with
  | 0, _ => exact mc_0
  | 1, _ => exact mc_1
  | 2, _ => exact mc_2
  | 3, _ => exact mc_3
  | 4, _ => exact mc_4
  | 5, _ => exact mc_5
  | 6, _ => exact mc_6
  | 7, _ => exact mc_7
  | 8, _ => exact mc_8
  | 9, _ => exact mc_9
  | 10, _ => exact mc_10
  | 11, _ => exact mc_11
  | 12, _ => exact mc_12
  | 13, _ => exact mc_13
  | 14, _ => exact mc_14
  | 15, _ => exact mc_15
  | 16, _ => exact mc_16
  | 17, _ => exact mc_17
  | 18, _ => exact mc_18
  | 19, _ => exact mc_19
  | 20, _ => exact mc_20
  | 21, _ => exact mc_21
  | 22, _ => exact mc_22
  | 23, _ => exact mc_23
  | 24, _ => exact mc_24
  | 25, _ => exact mc_25
  | 26, _ => exact mc_26
  | 27, _ => exact mc_27
  | 28, _ => exact mc_28
  | 29, _ => exact mc_29
  | 30, _ => exact mc_30
  | 31, _ => exact mc_31
  | 32, _ => exact mc_32
  | 33, _ => exact mc_33
  | 34, _ => exact mc_34
  | 35, _ => exact mc_35
  | 36, _ => exact mc_36
  | 37, _ => exact mc_37
  | 38, _ => exact mc_38
  | 39, _ => exact mc_39
  | 40, _ => exact mc_40
  | 41, _ => exact mc_41
  | 42, _ => exact mc_42
  | 43, _ => exact mc_43
  | 44, _ => exact mc_44
  | 45, _ => exact mc_45
  | 46, _ => exact mc_46
  | 47, _ => exact mc_47
  | 48, _ => exact mc_48
  | 49, _ => exact mc_49
  | 50, _ => exact mc_50
  | 51, _ => exact mc_51
  | 52, _ => exact mc_52
  | 53, _ => exact mc_53
  | 54, _ => exact mc_54
  | 55, _ => exact mc_55
  | 56, _ => exact mc_56
  | 57, _ => exact mc_57
  | 58, _ => exact mc_58
  | 59, _ => exact mc_59
  | 60, _ => exact mc_60
  | 61, _ => exact mc_61
  | 62, _ => exact mc_62
  | 63, _ => exact mc_63
  | 64, _ => exact mc_64
  | 65, _ => exact mc_65
  | 66, _ => exact mc_66
  | 67, _ => exact mc_67
  | 68, _ => exact mc_68
  | 69, _ => exact mc_69
  | 70, _ => exact mc_70
  | 71, _ => exact mc_71
  | 72, _ => exact mc_72
  | 73, _ => exact mc_73
  | 74, _ => exact mc_74
  | 75, _ => exact mc_75
  | 76, _ => exact mc_76
  | 77, _ => exact mc_77
  | 78, _ => exact mc_78
  | 79, _ => exact mc_79
  | 80, _ => exact mc_80
  | 81, _ => exact mc_81
  | 82, _ => exact mc_82
  | 83, _ => exact mc_83
  | 84, _ => exact mc_84
  | 85, _ => exact mc_85
  | 86, _ => exact mc_86
  | 87, _ => exact mc_87
  | 88, _ => exact mc_88
  | 89, _ => exact mc_89
  | 90, _ => exact mc_90
  | 91, _ => exact mc_91
  | 92, _ => exact mc_92
  | 93, _ => exact mc_93
  | 94, _ => exact mc_94
  | 95, _ => exact mc_95
  | 96, _ => exact mc_96
  | 97, _ => exact mc_97
  | 98, _ => exact mc_98
  | 99, _ => exact mc_99
  | 100, _ => exact mc_100
  | 101, _ => exact mc_101
  | 102, _ => exact mc_102
  | 103, _ => exact mc_103
  | 104, _ => exact mc_104
  | 105, _ => exact mc_105
  | 106, _ => exact mc_106
  | 107, _ => exact mc_107
  | 108, _ => exact mc_108
  | 109, _ => exact mc_109
  | 110, _ => exact mc_110
  | 111, _ => exact mc_111
  | 112, _ => exact mc_112
  | 113, _ => exact mc_113
  | 114, _ => exact mc_114
  | 115, _ => exact mc_115
  | 116, _ => exact mc_116
  | 117, _ => exact mc_117
  | 118, _ => exact mc_118
  | 119, _ => exact mc_119
  | 120, _ => exact mc_120
  | 121, _ => exact mc_121
  | 122, _ => exact mc_122
  | 123, _ => exact mc_123
  | 124, _ => exact mc_124
  | 125, _ => exact mc_125
  | 126, _ => exact mc_126
  | 127, _ => exact mc_127
  | 128, _ => exact mc_128
  | 129, _ => exact mc_129
  | 130, _ => exact mc_130
  | 131, _ => exact mc_131
  | 132, _ => exact mc_132
  | 133, _ => exact mc_133
  | 134, _ => exact mc_134
  | 135, _ => exact mc_135
  | 136, _ => exact mc_136
  | 137, _ => exact mc_137
  | 138, _ => exact mc_138
  | 139, _ => exact mc_139
  | 140, _ => exact mc_140
  | 141, _ => exact mc_141
  | 142, _ => exact mc_142
  | 143, _ => exact mc_143
  | 144, _ => exact mc_144
  | 145, _ => exact mc_145
  | 146, _ => exact mc_146
  | 147, _ => exact mc_147
  | 148, _ => exact mc_148
  | 149, _ => exact mc_149
  | 150, _ => exact mc_150
  | 151, _ => exact mc_151
  | 152, _ => exact mc_152
  | 153, _ => exact mc_153
  | 154, _ => exact mc_154
  | 155, _ => exact mc_155
  | 156, _ => exact mc_156
  | 157, _ => exact mc_157
  | 158, _ => exact mc_158
  | 159, _ => exact mc_159
  | 160, _ => exact mc_160
  | 161, _ => exact mc_161
  | 162, _ => exact mc_162
  | 163, _ => exact mc_163
  | 164, _ => exact mc_164
  | 165, _ => exact mc_165
  | 166, _ => exact mc_166
  | 167, _ => exact mc_167
  | 168, _ => exact mc_168
  | 169, _ => exact mc_169
  | 170, _ => exact mc_170
  | 171, _ => exact mc_171
  | 172, _ => exact mc_172
  | 173, _ => exact mc_173
  | 174, _ => exact mc_174
  | 175, _ => exact mc_175
  | 176, _ => exact mc_176
  | 177, _ => exact mc_177
  | 178, _ => exact mc_178
  | 179, _ => exact mc_179
  | 180, _ => exact mc_180
  | 181, _ => exact mc_181
  | 182, _ => exact mc_182
  | 183, _ => exact mc_183
  | 184, _ => exact mc_184
  | 185, _ => exact mc_185
  | 186, _ => exact mc_186
  | 187, _ => exact mc_187
  | 188, _ => exact mc_188
  | 189, _ => exact mc_189
  | 190, _ => exact mc_190
  | 191, _ => exact mc_191
  | 192, _ => exact mc_192
  | 193, _ => exact mc_193
  | 194, _ => exact mc_194
  | 195, _ => exact mc_195
  | 196, _ => exact mc_196
  | 197, _ => exact mc_197
  | 198, _ => exact mc_198
  | 199, _ => exact mc_199
  | 200, _ => exact mc_200
  | 201, _ => exact mc_201
  | 202, _ => exact mc_202
  | 203, _ => exact mc_203
  | 204, _ => exact mc_204
  | 205, _ => exact mc_205
  | 206, _ => exact mc_206
  | 207, _ => exact mc_207
  | 208, _ => exact mc_208
  | 209, _ => exact mc_209
  | 210, _ => exact mc_210
  | 211, _ => exact mc_211
  | 212, _ => exact mc_212
  | 213, _ => exact mc_213
  | 214, _ => exact mc_214
  | 215, _ => exact mc_215
  | 216, _ => exact mc_216
  | 217, _ => exact mc_217
  | 218, _ => exact mc_218
  | 219, _ => exact mc_219
  | 220, _ => exact mc_220
  | 221, _ => exact mc_221
  | 222, _ => exact mc_222
  | 223, _ => exact mc_223
  | 224, _ => exact mc_224
  | 225, _ => exact mc_225
  | 226, _ => exact mc_226
  | 227, _ => exact mc_227
  | 228, _ => exact mc_228
  | 229, _ => exact mc_229
  | 230, _ => exact mc_230
  | 231, _ => exact mc_231
  | 232, _ => exact mc_232
  | k + 233, h => exact absurd h (by omega)
theorem mm_1 : lw_tbl[(mp 229).1]? = some (.code Lib.Math.abs.name Lib.Math.abs.code 1 (some .int)) ∧ (mt 229).2.1 = Lib.Math.abs.name := by decide +kernel
theorem mm_2 : lw_tbl[(mp 230).1]? = some (.code Lib.Math.max.name Lib.Math.max.code 2 (some .int)) ∧ (mt 230).2.1 = Lib.Math.max.name := by decide +kernel
theorem mm_3 : lw_tbl[(mp 231).1]? = some (.code Lib.Math.min.name Lib.Math.min.code 2 (some .int)) ∧ (mt 231).2.1 = Lib.Math.min.name := by decide +kernel
theorem mm_4 : wk (mp 229).2.1 (.initialized "java/lang/Math") ∧ wk (mp 229).2.2.1 (.static Lib.Math.abs.name) ∧ wk (mp 230).2.2.1 (.static Lib.Math.max.name) ∧ wk (mp 231).2.2.1 (.static Lib.Math.min.name) := by decide +kernel
