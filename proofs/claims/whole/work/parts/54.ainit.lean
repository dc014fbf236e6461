theorem cl_Lw_7 : Cond.classLink "WindowPlanLaw" 7 "WindowPlan" ∈ GG := (gm 43 (by decide +kernel) (by decide +kernel))
theorem cl_A_7 : Cond.classLink "WindowPlan" 7 "WindowPlan$WindowRow" ∈ GG := (gm 51 (by decide +kernel) (by decide +kernel))
theorem cl_A_16 : Cond.classLink "WindowPlan" 16 "WindowPlan$Partition" ∈ GG := (gm 69 (by decide +kernel) (by decide +kernel))
theorem cl_A_23 : Cond.classLink "WindowPlan" 23 "WindowPlan$Task" ∈ GG := (gm 85 (by decide +kernel) (by decide +kernel))
theorem cl_K_9 : Cond.classLink "WindowPlan$Task" 9 "WindowPlan$Program" ∈ GG := (gm 92 (by decide +kernel) (by decide +kernel))
theorem cl_A_32 : Cond.classLink "WindowPlan" 32 "WindowPlan$Port" ∈ GG := (gm 178 (by decide +kernel) (by decide +kernel))
theorem cl_Lw_10 : Cond.classLink "WindowPlanLaw" 10 "WindowPlanModel" ∈ GG := (gm 432 (by decide +kernel) (by decide +kernel))
def mA_0 : zM := (fun _ _ => 0, fun _ _ => 0)
theorem mAz_0 (c : Nat) (h : 0 ≤ c) (k : Nat) : mA_0.1 c k = 0 := rfl
theorem mAz_02 (c k : Nat) : mA_0.2 c k = 0 := rfl
def mA_1 : zM := tI 9 0 mA_0
theorem mAz_1 (c : Nat) (h : 10 ≤ c) (k : Nat) : mA_1.1 c k = 0 := by
  unfold mA_1 tI
  rw [z_si_other _ _ (by omega), z_si_other _ _ (by omega), z_si_other _ _ (by omega)]
  exact mAz_0 c (by omega) k
theorem mAz_12 (c k : Nat) : mA_1.2 c k = 0 := rfl
def mA_2 : zM := tI 13 1 mA_1
theorem mAz_2 (c : Nat) (h : 14 ≤ c) (k : Nat) : mA_2.1 c k = 0 := by
  unfold mA_2 tI
  rw [z_si_other _ _ (by omega), z_si_other _ _ (by omega), z_si_other _ _ (by omega)]
  exact mAz_1 c (by omega) k
theorem mAz_22 (c k : Nat) : mA_2.2 c k = 0 := rfl
def mA_3 : zM := tI 17 2 mA_2
theorem mAz_3 (c : Nat) (h : 18 ≤ c) (k : Nat) : mA_3.1 c k = 0 := by
  unfold mA_3 tI
  rw [z_si_other _ _ (by omega), z_si_other _ _ (by omega), z_si_other _ _ (by omega)]
  exact mAz_2 c (by omega) k
theorem mAz_32 (c k : Nat) : mA_3.2 c k = 0 := rfl
def mA_4 : zM := tI 21 3 mA_3
theorem mAz_4 (c : Nat) (h : 22 ≤ c) (k : Nat) : mA_4.1 c k = 0 := by
  unfold mA_4 tI
  rw [z_si_other _ _ (by omega), z_si_other _ _ (by omega), z_si_other _ _ (by omega)]
  exact mAz_3 c (by omega) k
theorem mAz_42 (c k : Nat) : mA_4.2 c k = 0 := rfl
def mA_5 : zM := tI 25 4 mA_4
theorem mAz_5 (c : Nat) (h : 26 ≤ c) (k : Nat) : mA_5.1 c k = 0 := by
  unfold mA_5 tI
  rw [z_si_other _ _ (by omega), z_si_other _ _ (by omega), z_si_other _ _ (by omega)]
  exact mAz_4 c (by omega) k
theorem mAz_52 (c k : Nat) : mA_5.2 c k = 0 := rfl
def mA_6 : zM := tI 29 5 mA_5
theorem mAz_6 (c : Nat) (h : 30 ≤ c) (k : Nat) : mA_6.1 c k = 0 := by
  unfold mA_6 tI
  rw [z_si_other _ _ (by omega), z_si_other _ _ (by omega), z_si_other _ _ (by omega)]
  exact mAz_5 c (by omega) k
theorem mAz_62 (c k : Nat) : mA_6.2 c k = 0 := rfl
def mA_7 : zM := tI 33 6 mA_6
theorem mAz_7 (c : Nat) (h : 34 ≤ c) (k : Nat) : mA_7.1 c k = 0 := by
  unfold mA_7 tI
  rw [z_si_other _ _ (by omega), z_si_other _ _ (by omega), z_si_other _ _ (by omega)]
  exact mAz_6 c (by omega) k
theorem mAz_72 (c k : Nat) : mA_7.2 c k = 0 := rfl
def mA_8 : zM := tI 37 7 mA_7
theorem mAz_8 (c : Nat) (h : 38 ≤ c) (k : Nat) : mA_8.1 c k = 0 := by
  unfold mA_8 tI
  rw [z_si_other _ _ (by omega), z_si_other _ _ (by omega), z_si_other _ _ (by omega)]
  exact mAz_7 c (by omega) k
theorem mAz_82 (c k : Nat) : mA_8.2 c k = 0 := rfl
def eA_0 : List zC := [ob 5 [kn, kn, kn, kn, kn, ki, ki, ki, ki, kj]]
def eA_1 : List zC := [ob 5 [kn, kn, kn, kn, kn, ki, ki, ki, ki, kj], ob 4 [kn, kn, ki]]
def eA_2 : List zC := [ob 5 [kn, kn, kn, kn, kn, ki, ki, ki, ki, kj], ob 4 [kr 2, kr 3, ki], ia 8, ia 8]
def eA_3 : List zC := [ob 5 [kr 1, kn, kn, kn, kn, ki, ki, ki, ki, kj], ob 4 [kr 2, kr 3, ki], ia 8, ia 8]
def eA_4 : List zC := [ob 5 [kr 1, kn, kn, kn, kn, ki, ki, ki, ki, kj], ob 4 [kr 2, kr 3, ki], ia 8, ia 8, .inr (.inr (1, [none, none, none]))]
def eA_5 : List zC := [ob 5 [kr 1, kr 4, kn, kn, kn, ki, ki, ki, ki, kj], ob 4 [kr 2, kr 3, ki], ia 8, ia 8, .inr (.inr (1, [none, none, none]))]
def eA_6 : List zC := [ob 5 [kr 1, kr 4, kn, kn, kn, ki, ki, ki, ki, kj], ob 4 [kr 2, kr 3, ki], ia 8, ia 8, .inr (.inr (1, [none, none, none])), ob 0 [ki, ki]]
def eA_7 : List zC := [ob 5 [kr 1, kr 4, kn, kn, kn, ki, ki, ki, ki, kj], ob 4 [kr 2, kr 3, ki], ia 8, ia 8, .inr (.inr (1, [none, none, none])), ob 0 [ki, ki]]
def eA_8 : List zC := [ob 5 [kr 1, kr 4, kn, kn, kn, ki, ki, ki, ki, kj], ob 4 [kr 2, kr 3, ki], ia 8, ia 8, .inr (.inr (1, [some 5, none, none])), ob 0 [ki, ki]]
def eA_9 : List zC := [ob 5 [kr 1, kr 4, kn, kn, kn, ki, ki, ki, ki, kj], ob 4 [kr 2, kr 3, ki], ia 8, ia 8, .inr (.inr (1, [some 5, none, none])), ob 0 [ki, ki], ob 0 [ki, ki]]
def eA_10 : List zC := [ob 5 [kr 1, kr 4, kn, kn, kn, ki, ki, ki, ki, kj], ob 4 [kr 2, kr 3, ki], ia 8, ia 8, .inr (.inr (1, [some 5, none, none])), ob 0 [ki, ki], ob 0 [ki, ki]]
def eA_11 : List zC := [ob 5 [kr 1, kr 4, kn, kn, kn, ki, ki, ki, ki, kj], ob 4 [kr 2, kr 3, ki], ia 8, ia 8, .inr (.inr (1, [some 5, some 6, none])), ob 0 [ki, ki], ob 0 [ki, ki]]
def eA_12 : List zC := [ob 5 [kr 1, kr 4, kn, kn, kn, ki, ki, ki, ki, kj], ob 4 [kr 2, kr 3, ki], ia 8, ia 8, .inr (.inr (1, [some 5, some 6, none])), ob 0 [ki, ki], ob 0 [ki, ki], ob 0 [ki, ki]]
def eA_13 : List zC := [ob 5 [kr 1, kr 4, kn, kn, kn, ki, ki, ki, ki, kj], ob 4 [kr 2, kr 3, ki], ia 8, ia 8, .inr (.inr (1, [some 5, some 6, none])), ob 0 [ki, ki], ob 0 [ki, ki], ob 0 [ki, ki]]
def eA_14 : List zC := [ob 5 [kr 1, kr 4, kn, kn, kn, ki, ki, ki, ki, kj], ob 4 [kr 2, kr 3, ki], ia 8, ia 8, .inr (.inr (1, [some 5, some 6, some 7])), ob 0 [ki, ki], ob 0 [ki, ki], ob 0 [ki, ki]]
def eA_15 : List zC := [ob 5 [kr 1, kr 4, kn, kn, kn, ki, ki, ki, ki, kj], ob 4 [kr 2, kr 3, ki], ia 8, ia 8, .inr (.inr (1, [some 5, some 6, some 7])), ob 0 [ki, ki], ob 0 [ki, ki], ob 0 [ki, ki], .inr (.inr (2, [none, none, none, none, none, none, none, none]))]
def eA_16 : List zC := [ob 5 [kr 1, kr 4, kr 8, kn, kn, ki, ki, ki, ki, kj], ob 4 [kr 2, kr 3, ki], ia 8, ia 8, .inr (.inr (1, [some 5, some 6, some 7])), ob 0 [ki, ki], ob 0 [ki, ki], ob 0 [ki, ki], .inr (.inr (2, [none, none, none, none, none, none, none, none]))]
def eA_17 : List zC := [ob 5 [kr 1, kr 4, kr 8, kn, kn, ki, ki, ki, ki, kj], ob 4 [kr 2, kr 3, ki], ia 8, ia 8, .inr (.inr (1, [some 5, some 6, some 7])), ob 0 [ki, ki], ob 0 [ki, ki], ob 0 [ki, ki], .inr (.inr (2, [none, none, none, none, none, none, none, none])), ob 3 [ki, kn, ki, ki, ki, ki, ki, ki, ki, kj, ki, ki, ki, ki, ki, ki, ki]]
def eA_18 : List zC := [ob 5 [kr 1, kr 4, kr 8, kn, kn, ki, ki, ki, ki, kj], ob 4 [kr 2, kr 3, ki], ia 8, ia 8, .inr (.inr (1, [some 5, some 6, some 7])), ob 0 [ki, ki], ob 0 [ki, ki], ob 0 [ki, ki], .inr (.inr (2, [none, none, none, none, none, none, none, none])), ob 3 [ki, kr 10, ki, ki, ki, ki, ki, ki, ki, kj, ki, ki, ki, ki, ki, ki, ki], ob 2 [kr 11, kr 12, ki], ia 8, ia 8]
def eA_19 : List zC := [ob 5 [kr 1, kr 4, kr 8, kn, kn, ki, ki, ki, ki, kj], ob 4 [kr 2, kr 3, ki], ia 8, ia 8, .inr (.inr (1, [some 5, some 6, some 7])), ob 0 [ki, ki], ob 0 [ki, ki], ob 0 [ki, ki], .inr (.inr (2, [some 9, none, none, none, none, none, none, none])), ob 3 [ki, kr 10, ki, ki, ki, ki, ki, ki, ki, kj, ki, ki, ki, ki, ki, ki, ki], ob 2 [kr 11, kr 12, ki], ia 8, ia 8]
def eA_20 : List zC := [ob 5 [kr 1, kr 4, kr 8, kn, kn, ki, ki, ki, ki, kj], ob 4 [kr 2, kr 3, ki], ia 8, ia 8, .inr (.inr (1, [some 5, some 6, some 7])), ob 0 [ki, ki], ob 0 [ki, ki], ob 0 [ki, ki], .inr (.inr (2, [some 9, none, none, none, none, none, none, none])), ob 3 [ki, kr 10, ki, ki, ki, ki, ki, ki, ki, kj, ki, ki, ki, ki, ki, ki, ki], ob 2 [kr 11, kr 12, ki], ia 8, ia 8, ob 3 [ki, kn, ki, ki, ki, ki, ki, ki, ki, kj, ki, ki, ki, ki, ki, ki, ki]]
def eA_21 : List zC := [ob 5 [kr 1, kr 4, kr 8, kn, kn, ki, ki, ki, ki, kj], ob 4 [kr 2, kr 3, ki], ia 8, ia 8, .inr (.inr (1, [some 5, some 6, some 7])), ob 0 [ki, ki], ob 0 [ki, ki], ob 0 [ki, ki], .inr (.inr (2, [some 9, none, none, none, none, none, none, none])), ob 3 [ki, kr 10, ki, ki, ki, ki, ki, ki, ki, kj, ki, ki, ki, ki, ki, ki, ki], ob 2 [kr 11, kr 12, ki], ia 8, ia 8, ob 3 [ki, kr 14, ki, ki, ki, ki, ki, ki, ki, kj, ki, ki, ki, ki, ki, ki, ki], ob 2 [kr 15, kr 16, ki], ia 8, ia 8]
def eA_22 : List zC := [ob 5 [kr 1, kr 4, kr 8, kn, kn, ki, ki, ki, ki, kj], ob 4 [kr 2, kr 3, ki], ia 8, ia 8, .inr (.inr (1, [some 5, some 6, some 7])), ob 0 [ki, ki], ob 0 [ki, ki], ob 0 [ki, ki], .inr (.inr (2, [some 9, some 13, none, none, none, none, none, none])), ob 3 [ki, kr 10, ki, ki, ki, ki, ki, ki, ki, kj, ki, ki, ki, ki, ki, ki, ki], ob 2 [kr 11, kr 12, ki], ia 8, ia 8, ob 3 [ki, kr 14, ki, ki, ki, ki, ki, ki, ki, kj, ki, ki, ki, ki, ki, ki, ki], ob 2 [kr 15, kr 16, ki], ia 8, ia 8]
def eA_23 : List zC := [ob 5 [kr 1, kr 4, kr 8, kn, kn, ki, ki, ki, ki, kj], ob 4 [kr 2, kr 3, ki], ia 8, ia 8, .inr (.inr (1, [some 5, some 6, some 7])), ob 0 [ki, ki], ob 0 [ki, ki], ob 0 [ki, ki], .inr (.inr (2, [some 9, some 13, none, none, none, none, none, none])), ob 3 [ki, kr 10, ki, ki, ki, ki, ki, ki, ki, kj, ki, ki, ki, ki, ki, ki, ki], ob 2 [kr 11, kr 12, ki], ia 8, ia 8, ob 3 [ki, kr 14, ki, ki, ki, ki, ki, ki, ki, kj, ki, ki, ki, ki, ki, ki, ki], ob 2 [kr 15, kr 16, ki], ia 8, ia 8, ob 3 [ki, kn, ki, ki, ki, ki, ki, ki, ki, kj, ki, ki, ki, ki, ki, ki, ki]]
def eA_24 : List zC := [ob 5 [kr 1, kr 4, kr 8, kn, kn, ki, ki, ki, ki, kj], ob 4 [kr 2, kr 3, ki], ia 8, ia 8, .inr (.inr (1, [some 5, some 6, some 7])), ob 0 [ki, ki], ob 0 [ki, ki], ob 0 [ki, ki], .inr (.inr (2, [some 9, some 13, none, none, none, none, none, none])), ob 3 [ki, kr 10, ki, ki, ki, ki, ki, ki, ki, kj, ki, ki, ki, ki, ki, ki, ki], ob 2 [kr 11, kr 12, ki], ia 8, ia 8, ob 3 [ki, kr 14, ki, ki, ki, ki, ki, ki, ki, kj, ki, ki, ki, ki, ki, ki, ki], ob 2 [kr 15, kr 16, ki], ia 8, ia 8, ob 3 [ki, kr 18, ki, ki, ki, ki, ki, ki, ki, kj, ki, ki, ki, ki, ki, ki, ki], ob 2 [kr 19, kr 20, ki], ia 8, ia 8]
def eA_25 : List zC := [ob 5 [kr 1, kr 4, kr 8, kn, kn, ki, ki, ki, ki, kj], ob 4 [kr 2, kr 3, ki], ia 8, ia 8, .inr (.inr (1, [some 5, some 6, some 7])), ob 0 [ki, ki], ob 0 [ki, ki], ob 0 [ki, ki], .inr (.inr (2, [some 9, some 13, some 17, none, none, none, none, none])), ob 3 [ki, kr 10, ki, ki, ki, ki, ki, ki, ki, kj, ki, ki, ki, ki, ki, ki, ki], ob 2 [kr 11, kr 12, ki], ia 8, ia 8, ob 3 [ki, kr 14, ki, ki, ki, ki, ki, ki, ki, kj, ki, ki, ki, ki, ki, ki, ki], ob 2 [kr 15, kr 16, ki], ia 8, ia 8, ob 3 [ki, kr 18, ki, ki, ki, ki, ki, ki, ki, kj, ki, ki, ki, ki, ki, ki, ki], ob 2 [kr 19, kr 20, ki], ia 8, ia 8]
def eA_26 : List zC := [ob 5 [kr 1, kr 4, kr 8, kn, kn, ki, ki, ki, ki, kj], ob 4 [kr 2, kr 3, ki], ia 8, ia 8, .inr (.inr (1, [some 5, some 6, some 7])), ob 0 [ki, ki], ob 0 [ki, ki], ob 0 [ki, ki], .inr (.inr (2, [some 9, some 13, some 17, none, none, none, none, none])), ob 3 [ki, kr 10, ki, ki, ki, ki, ki, ki, ki, kj, ki, ki, ki, ki, ki, ki, ki], ob 2 [kr 11, kr 12, ki], ia 8, ia 8, ob 3 [ki, kr 14, ki, ki, ki, ki, ki, ki, ki, kj, ki, ki, ki, ki, ki, ki, ki], ob 2 [kr 15, kr 16, ki], ia 8, ia 8, ob 3 [ki, kr 18, ki, ki, ki, ki, ki, ki, ki, kj, ki, ki, ki, ki, ki, ki, ki], ob 2 [kr 19, kr 20, ki], ia 8, ia 8, ob 3 [ki, kn, ki, ki, ki, ki, ki, ki, ki, kj, ki, ki, ki, ki, ki, ki, ki]]
def eA_27 : List zC := [ob 5 [kr 1, kr 4, kr 8, kn, kn, ki, ki, ki, ki, kj], ob 4 [kr 2, kr 3, ki], ia 8, ia 8, .inr (.inr (1, [some 5, some 6, some 7])), ob 0 [ki, ki], ob 0 [ki, ki], ob 0 [ki, ki], .inr (.inr (2, [some 9, some 13, some 17, none, none, none, none, none])), ob 3 [ki, kr 10, ki, ki, ki, ki, ki, ki, ki, kj, ki, ki, ki, ki, ki, ki, ki], ob 2 [kr 11, kr 12, ki], ia 8, ia 8, ob 3 [ki, kr 14, ki, ki, ki, ki, ki, ki, ki, kj, ki, ki, ki, ki, ki, ki, ki], ob 2 [kr 15, kr 16, ki], ia 8, ia 8, ob 3 [ki, kr 18, ki, ki, ki, ki, ki, ki, ki, kj, ki, ki, ki, ki, ki, ki, ki], ob 2 [kr 19, kr 20, ki], ia 8, ia 8, ob 3 [ki, kr 22, ki, ki, ki, ki, ki, ki, ki, kj, ki, ki, ki, ki, ki, ki, ki], ob 2 [kr 23, kr 24, ki], ia 8, ia 8]
def eA_28 : List zC := [ob 5 [kr 1, kr 4, kr 8, kn, kn, ki, ki, ki, ki, kj], ob 4 [kr 2, kr 3, ki], ia 8, ia 8, .inr (.inr (1, [some 5, some 6, some 7])), ob 0 [ki, ki], ob 0 [ki, ki], ob 0 [ki, ki], .inr (.inr (2, [some 9, some 13, some 17, some 21, none, none, none, none])), ob 3 [ki, kr 10, ki, ki, ki, ki, ki, ki, ki, kj, ki, ki, ki, ki, ki, ki, ki], ob 2 [kr 11, kr 12, ki], ia 8, ia 8, ob 3 [ki, kr 14, ki, ki, ki, ki, ki, ki, ki, kj, ki, ki, ki, ki, ki, ki, ki], ob 2 [kr 15, kr 16, ki], ia 8, ia 8, ob 3 [ki, kr 18, ki, ki, ki, ki, ki, ki, ki, kj, ki, ki, ki, ki, ki, ki, ki], ob 2 [kr 19, kr 20, ki], ia 8, ia 8, ob 3 [ki, kr 22, ki, ki, ki, ki, ki, ki, ki, kj, ki, ki, ki, ki, ki, ki, ki], ob 2 [kr 23, kr 24, ki], ia 8, ia 8]
def eA_29 : List zC := [ob 5 [kr 1, kr 4, kr 8, kn, kn, ki, ki, ki, ki, kj], ob 4 [kr 2, kr 3, ki], ia 8, ia 8, .inr (.inr (1, [some 5, some 6, some 7])), ob 0 [ki, ki], ob 0 [ki, ki], ob 0 [ki, ki], .inr (.inr (2, [some 9, some 13, some 17, some 21, none, none, none, none])), ob 3 [ki, kr 10, ki, ki, ki, ki, ki, ki, ki, kj, ki, ki, ki, ki, ki, ki, ki], ob 2 [kr 11, kr 12, ki], ia 8, ia 8, ob 3 [ki, kr 14, ki, ki, ki, ki, ki, ki, ki, kj, ki, ki, ki, ki, ki, ki, ki], ob 2 [kr 15, kr 16, ki], ia 8, ia 8, ob 3 [ki, kr 18, ki, ki, ki, ki, ki, ki, ki, kj, ki, ki, ki, ki, ki, ki, ki], ob 2 [kr 19, kr 20, ki], ia 8, ia 8, ob 3 [ki, kr 22, ki, ki, ki, ki, ki, ki, ki, kj, ki, ki, ki, ki, ki, ki, ki], ob 2 [kr 23, kr 24, ki], ia 8, ia 8, ob 3 [ki, kn, ki, ki, ki, ki, ki, ki, ki, kj, ki, ki, ki, ki, ki, ki, ki]]
def eA_30 : List zC := [ob 5 [kr 1, kr 4, kr 8, kn, kn, ki, ki, ki, ki, kj], ob 4 [kr 2, kr 3, ki], ia 8, ia 8, .inr (.inr (1, [some 5, some 6, some 7])), ob 0 [ki, ki], ob 0 [ki, ki], ob 0 [ki, ki], .inr (.inr (2, [some 9, some 13, some 17, some 21, none, none, none, none])), ob 3 [ki, kr 10, ki, ki, ki, ki, ki, ki, ki, kj, ki, ki, ki, ki, ki, ki, ki], ob 2 [kr 11, kr 12, ki], ia 8, ia 8, ob 3 [ki, kr 14, ki, ki, ki, ki, ki, ki, ki, kj, ki, ki, ki, ki, ki, ki, ki], ob 2 [kr 15, kr 16, ki], ia 8, ia 8, ob 3 [ki, kr 18, ki, ki, ki, ki, ki, ki, ki, kj, ki, ki, ki, ki, ki, ki, ki], ob 2 [kr 19, kr 20, ki], ia 8, ia 8, ob 3 [ki, kr 22, ki, ki, ki, ki, ki, ki, ki, kj, ki, ki, ki, ki, ki, ki, ki], ob 2 [kr 23, kr 24, ki], ia 8, ia 8, ob 3 [ki, kr 26, ki, ki, ki, ki, ki, ki, ki, kj, ki, ki, ki, ki, ki, ki, ki], ob 2 [kr 27, kr 28, ki], ia 8, ia 8]
def eA_31 : List zC := [ob 5 [kr 1, kr 4, kr 8, kn, kn, ki, ki, ki, ki, kj], ob 4 [kr 2, kr 3, ki], ia 8, ia 8, .inr (.inr (1, [some 5, some 6, some 7])), ob 0 [ki, ki], ob 0 [ki, ki], ob 0 [ki, ki], .inr (.inr (2, [some 9, some 13, some 17, some 21, some 25, none, none, none])), ob 3 [ki, kr 10, ki, ki, ki, ki, ki, ki, ki, kj, ki, ki, ki, ki, ki, ki, ki], ob 2 [kr 11, kr 12, ki], ia 8, ia 8, ob 3 [ki, kr 14, ki, ki, ki, ki, ki, ki, ki, kj, ki, ki, ki, ki, ki, ki, ki], ob 2 [kr 15, kr 16, ki], ia 8, ia 8, ob 3 [ki, kr 18, ki, ki, ki, ki, ki, ki, ki, kj, ki, ki, ki, ki, ki, ki, ki], ob 2 [kr 19, kr 20, ki], ia 8, ia 8, ob 3 [ki, kr 22, ki, ki, ki, ki, ki, ki, ki, kj, ki, ki, ki, ki, ki, ki, ki], ob 2 [kr 23, kr 24, ki], ia 8, ia 8, ob 3 [ki, kr 26, ki, ki, ki, ki, ki, ki, ki, kj, ki, ki, ki, ki, ki, ki, ki], ob 2 [kr 27, kr 28, ki], ia 8, ia 8]
def eA_32 : List zC := [ob 5 [kr 1, kr 4, kr 8, kn, kn, ki, ki, ki, ki, kj], ob 4 [kr 2, kr 3, ki], ia 8, ia 8, .inr (.inr (1, [some 5, some 6, some 7])), ob 0 [ki, ki], ob 0 [ki, ki], ob 0 [ki, ki], .inr (.inr (2, [some 9, some 13, some 17, some 21, some 25, none, none, none])), ob 3 [ki, kr 10, ki, ki, ki, ki, ki, ki, ki, kj, ki, ki, ki, ki, ki, ki, ki], ob 2 [kr 11, kr 12, ki], ia 8, ia 8, ob 3 [ki, kr 14, ki, ki, ki, ki, ki, ki, ki, kj, ki, ki, ki, ki, ki, ki, ki], ob 2 [kr 15, kr 16, ki], ia 8, ia 8, ob 3 [ki, kr 18, ki, ki, ki, ki, ki, ki, ki, kj, ki, ki, ki, ki, ki, ki, ki], ob 2 [kr 19, kr 20, ki], ia 8, ia 8, ob 3 [ki, kr 22, ki, ki, ki, ki, ki, ki, ki, kj, ki, ki, ki, ki, ki, ki, ki], ob 2 [kr 23, kr 24, ki], ia 8, ia 8, ob 3 [ki, kr 26, ki, ki, ki, ki, ki, ki, ki, kj, ki, ki, ki, ki, ki, ki, ki], ob 2 [kr 27, kr 28, ki], ia 8, ia 8, ob 3 [ki, kn, ki, ki, ki, ki, ki, ki, ki, kj, ki, ki, ki, ki, ki, ki, ki]]
def eA_33 : List zC := [ob 5 [kr 1, kr 4, kr 8, kn, kn, ki, ki, ki, ki, kj], ob 4 [kr 2, kr 3, ki], ia 8, ia 8, .inr (.inr (1, [some 5, some 6, some 7])), ob 0 [ki, ki], ob 0 [ki, ki], ob 0 [ki, ki], .inr (.inr (2, [some 9, some 13, some 17, some 21, some 25, none, none, none])), ob 3 [ki, kr 10, ki, ki, ki, ki, ki, ki, ki, kj, ki, ki, ki, ki, ki, ki, ki], ob 2 [kr 11, kr 12, ki], ia 8, ia 8, ob 3 [ki, kr 14, ki, ki, ki, ki, ki, ki, ki, kj, ki, ki, ki, ki, ki, ki, ki], ob 2 [kr 15, kr 16, ki], ia 8, ia 8, ob 3 [ki, kr 18, ki, ki, ki, ki, ki, ki, ki, kj, ki, ki, ki, ki, ki, ki, ki], ob 2 [kr 19, kr 20, ki], ia 8, ia 8, ob 3 [ki, kr 22, ki, ki, ki, ki, ki, ki, ki, kj, ki, ki, ki, ki, ki, ki, ki], ob 2 [kr 23, kr 24, ki], ia 8, ia 8, ob 3 [ki, kr 26, ki, ki, ki, ki, ki, ki, ki, kj, ki, ki, ki, ki, ki, ki, ki], ob 2 [kr 27, kr 28, ki], ia 8, ia 8, ob 3 [ki, kr 30, ki, ki, ki, ki, ki, ki, ki, kj, ki, ki, ki, ki, ki, ki, ki], ob 2 [kr 31, kr 32, ki], ia 8, ia 8]
def eA_34 : List zC := [ob 5 [kr 1, kr 4, kr 8, kn, kn, ki, ki, ki, ki, kj], ob 4 [kr 2, kr 3, ki], ia 8, ia 8, .inr (.inr (1, [some 5, some 6, some 7])), ob 0 [ki, ki], ob 0 [ki, ki], ob 0 [ki, ki], .inr (.inr (2, [some 9, some 13, some 17, some 21, some 25, some 29, none, none])), ob 3 [ki, kr 10, ki, ki, ki, ki, ki, ki, ki, kj, ki, ki, ki, ki, ki, ki, ki], ob 2 [kr 11, kr 12, ki], ia 8, ia 8, ob 3 [ki, kr 14, ki, ki, ki, ki, ki, ki, ki, kj, ki, ki, ki, ki, ki, ki, ki], ob 2 [kr 15, kr 16, ki], ia 8, ia 8, ob 3 [ki, kr 18, ki, ki, ki, ki, ki, ki, ki, kj, ki, ki, ki, ki, ki, ki, ki], ob 2 [kr 19, kr 20, ki], ia 8, ia 8, ob 3 [ki, kr 22, ki, ki, ki, ki, ki, ki, ki, kj, ki, ki, ki, ki, ki, ki, ki], ob 2 [kr 23, kr 24, ki], ia 8, ia 8, ob 3 [ki, kr 26, ki, ki, ki, ki, ki, ki, ki, kj, ki, ki, ki, ki, ki, ki, ki], ob 2 [kr 27, kr 28, ki], ia 8, ia 8, ob 3 [ki, kr 30, ki, ki, ki, ki, ki, ki, ki, kj, ki, ki, ki, ki, ki, ki, ki], ob 2 [kr 31, kr 32, ki], ia 8, ia 8]
def eA_35 : List zC := [ob 5 [kr 1, kr 4, kr 8, kn, kn, ki, ki, ki, ki, kj], ob 4 [kr 2, kr 3, ki], ia 8, ia 8, .inr (.inr (1, [some 5, some 6, some 7])), ob 0 [ki, ki], ob 0 [ki, ki], ob 0 [ki, ki], .inr (.inr (2, [some 9, some 13, some 17, some 21, some 25, some 29, none, none])), ob 3 [ki, kr 10, ki, ki, ki, ki, ki, ki, ki, kj, ki, ki, ki, ki, ki, ki, ki], ob 2 [kr 11, kr 12, ki], ia 8, ia 8, ob 3 [ki, kr 14, ki, ki, ki, ki, ki, ki, ki, kj, ki, ki, ki, ki, ki, ki, ki], ob 2 [kr 15, kr 16, ki], ia 8, ia 8, ob 3 [ki, kr 18, ki, ki, ki, ki, ki, ki, ki, kj, ki, ki, ki, ki, ki, ki, ki], ob 2 [kr 19, kr 20, ki], ia 8, ia 8, ob 3 [ki, kr 22, ki, ki, ki, ki, ki, ki, ki, kj, ki, ki, ki, ki, ki, ki, ki], ob 2 [kr 23, kr 24, ki], ia 8, ia 8, ob 3 [ki, kr 26, ki, ki, ki, ki, ki, ki, ki, kj, ki, ki, ki, ki, ki, ki, ki], ob 2 [kr 27, kr 28, ki], ia 8, ia 8, ob 3 [ki, kr 30, ki, ki, ki, ki, ki, ki, ki, kj, ki, ki, ki, ki, ki, ki, ki], ob 2 [kr 31, kr 32, ki], ia 8, ia 8, ob 3 [ki, kn, ki, ki, ki, ki, ki, ki, ki, kj, ki, ki, ki, ki, ki, ki, ki]]
def eA_36 : List zC := [ob 5 [kr 1, kr 4, kr 8, kn, kn, ki, ki, ki, ki, kj], ob 4 [kr 2, kr 3, ki], ia 8, ia 8, .inr (.inr (1, [some 5, some 6, some 7])), ob 0 [ki, ki], ob 0 [ki, ki], ob 0 [ki, ki], .inr (.inr (2, [some 9, some 13, some 17, some 21, some 25, some 29, none, none])), ob 3 [ki, kr 10, ki, ki, ki, ki, ki, ki, ki, kj, ki, ki, ki, ki, ki, ki, ki], ob 2 [kr 11, kr 12, ki], ia 8, ia 8, ob 3 [ki, kr 14, ki, ki, ki, ki, ki, ki, ki, kj, ki, ki, ki, ki, ki, ki, ki], ob 2 [kr 15, kr 16, ki], ia 8, ia 8, ob 3 [ki, kr 18, ki, ki, ki, ki, ki, ki, ki, kj, ki, ki, ki, ki, ki, ki, ki], ob 2 [kr 19, kr 20, ki], ia 8, ia 8, ob 3 [ki, kr 22, ki, ki, ki, ki, ki, ki, ki, kj, ki, ki, ki, ki, ki, ki, ki], ob 2 [kr 23, kr 24, ki], ia 8, ia 8, ob 3 [ki, kr 26, ki, ki, ki, ki, ki, ki, ki, kj, ki, ki, ki, ki, ki, ki, ki], ob 2 [kr 27, kr 28, ki], ia 8, ia 8, ob 3 [ki, kr 30, ki, ki, ki, ki, ki, ki, ki, kj, ki, ki, ki, ki, ki, ki, ki], ob 2 [kr 31, kr 32, ki], ia 8, ia 8, ob 3 [ki, kr 34, ki, ki, ki, ki, ki, ki, ki, kj, ki, ki, ki, ki, ki, ki, ki], ob 2 [kr 35, kr 36, ki], ia 8, ia 8]
def eA_37 : List zC := [ob 5 [kr 1, kr 4, kr 8, kn, kn, ki, ki, ki, ki, kj], ob 4 [kr 2, kr 3, ki], ia 8, ia 8, .inr (.inr (1, [some 5, some 6, some 7])), ob 0 [ki, ki], ob 0 [ki, ki], ob 0 [ki, ki], .inr (.inr (2, [some 9, some 13, some 17, some 21, some 25, some 29, some 33, none])), ob 3 [ki, kr 10, ki, ki, ki, ki, ki, ki, ki, kj, ki, ki, ki, ki, ki, ki, ki], ob 2 [kr 11, kr 12, ki], ia 8, ia 8, ob 3 [ki, kr 14, ki, ki, ki, ki, ki, ki, ki, kj, ki, ki, ki, ki, ki, ki, ki], ob 2 [kr 15, kr 16, ki], ia 8, ia 8, ob 3 [ki, kr 18, ki, ki, ki, ki, ki, ki, ki, kj, ki, ki, ki, ki, ki, ki, ki], ob 2 [kr 19, kr 20, ki], ia 8, ia 8, ob 3 [ki, kr 22, ki, ki, ki, ki, ki, ki, ki, kj, ki, ki, ki, ki, ki, ki, ki], ob 2 [kr 23, kr 24, ki], ia 8, ia 8, ob 3 [ki, kr 26, ki, ki, ki, ki, ki, ki, ki, kj, ki, ki, ki, ki, ki, ki, ki], ob 2 [kr 27, kr 28, ki], ia 8, ia 8, ob 3 [ki, kr 30, ki, ki, ki, ki, ki, ki, ki, kj, ki, ki, ki, ki, ki, ki, ki], ob 2 [kr 31, kr 32, ki], ia 8, ia 8, ob 3 [ki, kr 34, ki, ki, ki, ki, ki, ki, ki, kj, ki, ki, ki, ki, ki, ki, ki], ob 2 [kr 35, kr 36, ki], ia 8, ia 8]
def eA_38 : List zC := [ob 5 [kr 1, kr 4, kr 8, kn, kn, ki, ki, ki, ki, kj], ob 4 [kr 2, kr 3, ki], ia 8, ia 8, .inr (.inr (1, [some 5, some 6, some 7])), ob 0 [ki, ki], ob 0 [ki, ki], ob 0 [ki, ki], .inr (.inr (2, [some 9, some 13, some 17, some 21, some 25, some 29, some 33, none])), ob 3 [ki, kr 10, ki, ki, ki, ki, ki, ki, ki, kj, ki, ki, ki, ki, ki, ki, ki], ob 2 [kr 11, kr 12, ki], ia 8, ia 8, ob 3 [ki, kr 14, ki, ki, ki, ki, ki, ki, ki, kj, ki, ki, ki, ki, ki, ki, ki], ob 2 [kr 15, kr 16, ki], ia 8, ia 8, ob 3 [ki, kr 18, ki, ki, ki, ki, ki, ki, ki, kj, ki, ki, ki, ki, ki, ki, ki], ob 2 [kr 19, kr 20, ki], ia 8, ia 8, ob 3 [ki, kr 22, ki, ki, ki, ki, ki, ki, ki, kj, ki, ki, ki, ki, ki, ki, ki], ob 2 [kr 23, kr 24, ki], ia 8, ia 8, ob 3 [ki, kr 26, ki, ki, ki, ki, ki, ki, ki, kj, ki, ki, ki, ki, ki, ki, ki], ob 2 [kr 27, kr 28, ki], ia 8, ia 8, ob 3 [ki, kr 30, ki, ki, ki, ki, ki, ki, ki, kj, ki, ki, ki, ki, ki, ki, ki], ob 2 [kr 31, kr 32, ki], ia 8, ia 8, ob 3 [ki, kr 34, ki, ki, ki, ki, ki, ki, ki, kj, ki, ki, ki, ki, ki, ki, ki], ob 2 [kr 35, kr 36, ki], ia 8, ia 8, ob 3 [ki, kn, ki, ki, ki, ki, ki, ki, ki, kj, ki, ki, ki, ki, ki, ki, ki]]
def eA_39 : List zC := [ob 5 [kr 1, kr 4, kr 8, kn, kn, ki, ki, ki, ki, kj], ob 4 [kr 2, kr 3, ki], ia 8, ia 8, .inr (.inr (1, [some 5, some 6, some 7])), ob 0 [ki, ki], ob 0 [ki, ki], ob 0 [ki, ki], .inr (.inr (2, [some 9, some 13, some 17, some 21, some 25, some 29, some 33, none])), ob 3 [ki, kr 10, ki, ki, ki, ki, ki, ki, ki, kj, ki, ki, ki, ki, ki, ki, ki], ob 2 [kr 11, kr 12, ki], ia 8, ia 8, ob 3 [ki, kr 14, ki, ki, ki, ki, ki, ki, ki, kj, ki, ki, ki, ki, ki, ki, ki], ob 2 [kr 15, kr 16, ki], ia 8, ia 8, ob 3 [ki, kr 18, ki, ki, ki, ki, ki, ki, ki, kj, ki, ki, ki, ki, ki, ki, ki], ob 2 [kr 19, kr 20, ki], ia 8, ia 8, ob 3 [ki, kr 22, ki, ki, ki, ki, ki, ki, ki, kj, ki, ki, ki, ki, ki, ki, ki], ob 2 [kr 23, kr 24, ki], ia 8, ia 8, ob 3 [ki, kr 26, ki, ki, ki, ki, ki, ki, ki, kj, ki, ki, ki, ki, ki, ki, ki], ob 2 [kr 27, kr 28, ki], ia 8, ia 8, ob 3 [ki, kr 30, ki, ki, ki, ki, ki, ki, ki, kj, ki, ki, ki, ki, ki, ki, ki], ob 2 [kr 31, kr 32, ki], ia 8, ia 8, ob 3 [ki, kr 34, ki, ki, ki, ki, ki, ki, ki, kj, ki, ki, ki, ki, ki, ki, ki], ob 2 [kr 35, kr 36, ki], ia 8, ia 8, ob 3 [ki, kr 38, ki, ki, ki, ki, ki, ki, ki, kj, ki, ki, ki, ki, ki, ki, ki], ob 2 [kr 39, kr 40, ki], ia 8, ia 8]
def eA_40 : List zC := [ob 5 [kr 1, kr 4, kr 8, kn, kn, ki, ki, ki, ki, kj], ob 4 [kr 2, kr 3, ki], ia 8, ia 8, .inr (.inr (1, [some 5, some 6, some 7])), ob 0 [ki, ki], ob 0 [ki, ki], ob 0 [ki, ki], .inr (.inr (2, [some 9, some 13, some 17, some 21, some 25, some 29, some 33, some 37])), ob 3 [ki, kr 10, ki, ki, ki, ki, ki, ki, ki, kj, ki, ki, ki, ki, ki, ki, ki], ob 2 [kr 11, kr 12, ki], ia 8, ia 8, ob 3 [ki, kr 14, ki, ki, ki, ki, ki, ki, ki, kj, ki, ki, ki, ki, ki, ki, ki], ob 2 [kr 15, kr 16, ki], ia 8, ia 8, ob 3 [ki, kr 18, ki, ki, ki, ki, ki, ki, ki, kj, ki, ki, ki, ki, ki, ki, ki], ob 2 [kr 19, kr 20, ki], ia 8, ia 8, ob 3 [ki, kr 22, ki, ki, ki, ki, ki, ki, ki, kj, ki, ki, ki, ki, ki, ki, ki], ob 2 [kr 23, kr 24, ki], ia 8, ia 8, ob 3 [ki, kr 26, ki, ki, ki, ki, ki, ki, ki, kj, ki, ki, ki, ki, ki, ki, ki], ob 2 [kr 27, kr 28, ki], ia 8, ia 8, ob 3 [ki, kr 30, ki, ki, ki, ki, ki, ki, ki, kj, ki, ki, ki, ki, ki, ki, ki], ob 2 [kr 31, kr 32, ki], ia 8, ia 8, ob 3 [ki, kr 34, ki, ki, ki, ki, ki, ki, ki, kj, ki, ki, ki, ki, ki, ki, ki], ob 2 [kr 35, kr 36, ki], ia 8, ia 8, ob 3 [ki, kr 38, ki, ki, ki, ki, ki, ki, ki, kj, ki, ki, ki, ki, ki, ki, ki], ob 2 [kr 39, kr 40, ki], ia 8, ia 8]
def eA_41 : List zC := [ob 5 [kr 1, kr 4, kr 8, kn, kn, ki, ki, ki, ki, kj], ob 4 [kr 2, kr 3, ki], ia 8, ia 8, .inr (.inr (1, [some 5, some 6, some 7])), ob 0 [ki, ki], ob 0 [ki, ki], ob 0 [ki, ki], .inr (.inr (2, [some 9, some 13, some 17, some 21, some 25, some 29, some 33, some 37])), ob 3 [ki, kr 10, ki, ki, ki, ki, ki, ki, ki, kj, ki, ki, ki, ki, ki, ki, ki], ob 2 [kr 11, kr 12, ki], ia 8, ia 8, ob 3 [ki, kr 14, ki, ki, ki, ki, ki, ki, ki, kj, ki, ki, ki, ki, ki, ki, ki], ob 2 [kr 15, kr 16, ki], ia 8, ia 8, ob 3 [ki, kr 18, ki, ki, ki, ki, ki, ki, ki, kj, ki, ki, ki, ki, ki, ki, ki], ob 2 [kr 19, kr 20, ki], ia 8, ia 8, ob 3 [ki, kr 22, ki, ki, ki, ki, ki, ki, ki, kj, ki, ki, ki, ki, ki, ki, ki], ob 2 [kr 23, kr 24, ki], ia 8, ia 8, ob 3 [ki, kr 26, ki, ki, ki, ki, ki, ki, ki, kj, ki, ki, ki, ki, ki, ki, ki], ob 2 [kr 27, kr 28, ki], ia 8, ia 8, ob 3 [ki, kr 30, ki, ki, ki, ki, ki, ki, ki, kj, ki, ki, ki, ki, ki, ki, ki], ob 2 [kr 31, kr 32, ki], ia 8, ia 8, ob 3 [ki, kr 34, ki, ki, ki, ki, ki, ki, ki, kj, ki, ki, ki, ki, ki, ki, ki], ob 2 [kr 35, kr 36, ki], ia 8, ia 8, ob 3 [ki, kr 38, ki, ki, ki, ki, ki, ki, ki, kj, ki, ki, ki, ki, ki, ki, ki], ob 2 [kr 39, kr 40, ki], ia 8, ia 8, .inr (.inr (3, [none, none, none, none]))]
def eA_42 : List zC := [ob 5 [kr 1, kr 4, kr 8, kr 41, kn, ki, ki, ki, ki, kj], ob 4 [kr 2, kr 3, ki], ia 8, ia 8, .inr (.inr (1, [some 5, some 6, some 7])), ob 0 [ki, ki], ob 0 [ki, ki], ob 0 [ki, ki], .inr (.inr (2, [some 9, some 13, some 17, some 21, some 25, some 29, some 33, some 37])), ob 3 [ki, kr 10, ki, ki, ki, ki, ki, ki, ki, kj, ki, ki, ki, ki, ki, ki, ki], ob 2 [kr 11, kr 12, ki], ia 8, ia 8, ob 3 [ki, kr 14, ki, ki, ki, ki, ki, ki, ki, kj, ki, ki, ki, ki, ki, ki, ki], ob 2 [kr 15, kr 16, ki], ia 8, ia 8, ob 3 [ki, kr 18, ki, ki, ki, ki, ki, ki, ki, kj, ki, ki, ki, ki, ki, ki, ki], ob 2 [kr 19, kr 20, ki], ia 8, ia 8, ob 3 [ki, kr 22, ki, ki, ki, ki, ki, ki, ki, kj, ki, ki, ki, ki, ki, ki, ki], ob 2 [kr 23, kr 24, ki], ia 8, ia 8, ob 3 [ki, kr 26, ki, ki, ki, ki, ki, ki, ki, kj, ki, ki, ki, ki, ki, ki, ki], ob 2 [kr 27, kr 28, ki], ia 8, ia 8, ob 3 [ki, kr 30, ki, ki, ki, ki, ki, ki, ki, kj, ki, ki, ki, ki, ki, ki, ki], ob 2 [kr 31, kr 32, ki], ia 8, ia 8, ob 3 [ki, kr 34, ki, ki, ki, ki, ki, ki, ki, kj, ki, ki, ki, ki, ki, ki, ki], ob 2 [kr 35, kr 36, ki], ia 8, ia 8, ob 3 [ki, kr 38, ki, ki, ki, ki, ki, ki, ki, kj, ki, ki, ki, ki, ki, ki, ki], ob 2 [kr 39, kr 40, ki], ia 8, ia 8, .inr (.inr (3, [none, none, none, none]))]
def eA_43 : List zC := [ob 5 [kr 1, kr 4, kr 8, kr 41, kn, ki, ki, ki, ki, kj], ob 4 [kr 2, kr 3, ki], ia 8, ia 8, .inr (.inr (1, [some 5, some 6, some 7])), ob 0 [ki, ki], ob 0 [ki, ki], ob 0 [ki, ki], .inr (.inr (2, [some 9, some 13, some 17, some 21, some 25, some 29, some 33, some 37])), ob 3 [ki, kr 10, ki, ki, ki, ki, ki, ki, ki, kj, ki, ki, ki, ki, ki, ki, ki], ob 2 [kr 11, kr 12, ki], ia 8, ia 8, ob 3 [ki, kr 14, ki, ki, ki, ki, ki, ki, ki, kj, ki, ki, ki, ki, ki, ki, ki], ob 2 [kr 15, kr 16, ki], ia 8, ia 8, ob 3 [ki, kr 18, ki, ki, ki, ki, ki, ki, ki, kj, ki, ki, ki, ki, ki, ki, ki], ob 2 [kr 19, kr 20, ki], ia 8, ia 8, ob 3 [ki, kr 22, ki, ki, ki, ki, ki, ki, ki, kj, ki, ki, ki, ki, ki, ki, ki], ob 2 [kr 23, kr 24, ki], ia 8, ia 8, ob 3 [ki, kr 26, ki, ki, ki, ki, ki, ki, ki, kj, ki, ki, ki, ki, ki, ki, ki], ob 2 [kr 27, kr 28, ki], ia 8, ia 8, ob 3 [ki, kr 30, ki, ki, ki, ki, ki, ki, ki, kj, ki, ki, ki, ki, ki, ki, ki], ob 2 [kr 31, kr 32, ki], ia 8, ia 8, ob 3 [ki, kr 34, ki, ki, ki, ki, ki, ki, ki, kj, ki, ki, ki, ki, ki, ki, ki], ob 2 [kr 35, kr 36, ki], ia 8, ia 8, ob 3 [ki, kr 38, ki, ki, ki, ki, ki, ki, ki, kj, ki, ki, ki, ki, ki, ki, ki], ob 2 [kr 39, kr 40, ki], ia 8, ia 8, .inr (.inr (3, [none, none, none, none])), ob 1 [kn, ki]]
def eA_44 : List zC := [ob 5 [kr 1, kr 4, kr 8, kr 41, kn, ki, ki, ki, ki, kj], ob 4 [kr 2, kr 3, ki], ia 8, ia 8, .inr (.inr (1, [some 5, some 6, some 7])), ob 0 [ki, ki], ob 0 [ki, ki], ob 0 [ki, ki], .inr (.inr (2, [some 9, some 13, some 17, some 21, some 25, some 29, some 33, some 37])), ob 3 [ki, kr 10, ki, ki, ki, ki, ki, ki, ki, kj, ki, ki, ki, ki, ki, ki, ki], ob 2 [kr 11, kr 12, ki], ia 8, ia 8, ob 3 [ki, kr 14, ki, ki, ki, ki, ki, ki, ki, kj, ki, ki, ki, ki, ki, ki, ki], ob 2 [kr 15, kr 16, ki], ia 8, ia 8, ob 3 [ki, kr 18, ki, ki, ki, ki, ki, ki, ki, kj, ki, ki, ki, ki, ki, ki, ki], ob 2 [kr 19, kr 20, ki], ia 8, ia 8, ob 3 [ki, kr 22, ki, ki, ki, ki, ki, ki, ki, kj, ki, ki, ki, ki, ki, ki, ki], ob 2 [kr 23, kr 24, ki], ia 8, ia 8, ob 3 [ki, kr 26, ki, ki, ki, ki, ki, ki, ki, kj, ki, ki, ki, ki, ki, ki, ki], ob 2 [kr 27, kr 28, ki], ia 8, ia 8, ob 3 [ki, kr 30, ki, ki, ki, ki, ki, ki, ki, kj, ki, ki, ki, ki, ki, ki, ki], ob 2 [kr 31, kr 32, ki], ia 8, ia 8, ob 3 [ki, kr 34, ki, ki, ki, ki, ki, ki, ki, kj, ki, ki, ki, ki, ki, ki, ki], ob 2 [kr 35, kr 36, ki], ia 8, ia 8, ob 3 [ki, kr 38, ki, ki, ki, ki, ki, ki, ki, kj, ki, ki, ki, ki, ki, ki, ki], ob 2 [kr 39, kr 40, ki], ia 8, ia 8, .inr (.inr (3, [none, none, none, none])), ob 1 [kr 43, ki], ia 4]
def eA_45 : List zC := [ob 5 [kr 1, kr 4, kr 8, kr 41, kn, ki, ki, ki, ki, kj], ob 4 [kr 2, kr 3, ki], ia 8, ia 8, .inr (.inr (1, [some 5, some 6, some 7])), ob 0 [ki, ki], ob 0 [ki, ki], ob 0 [ki, ki], .inr (.inr (2, [some 9, some 13, some 17, some 21, some 25, some 29, some 33, some 37])), ob 3 [ki, kr 10, ki, ki, ki, ki, ki, ki, ki, kj, ki, ki, ki, ki, ki, ki, ki], ob 2 [kr 11, kr 12, ki], ia 8, ia 8, ob 3 [ki, kr 14, ki, ki, ki, ki, ki, ki, ki, kj, ki, ki, ki, ki, ki, ki, ki], ob 2 [kr 15, kr 16, ki], ia 8, ia 8, ob 3 [ki, kr 18, ki, ki, ki, ki, ki, ki, ki, kj, ki, ki, ki, ki, ki, ki, ki], ob 2 [kr 19, kr 20, ki], ia 8, ia 8, ob 3 [ki, kr 22, ki, ki, ki, ki, ki, ki, ki, kj, ki, ki, ki, ki, ki, ki, ki], ob 2 [kr 23, kr 24, ki], ia 8, ia 8, ob 3 [ki, kr 26, ki, ki, ki, ki, ki, ki, ki, kj, ki, ki, ki, ki, ki, ki, ki], ob 2 [kr 27, kr 28, ki], ia 8, ia 8, ob 3 [ki, kr 30, ki, ki, ki, ki, ki, ki, ki, kj, ki, ki, ki, ki, ki, ki, ki], ob 2 [kr 31, kr 32, ki], ia 8, ia 8, ob 3 [ki, kr 34, ki, ki, ki, ki, ki, ki, ki, kj, ki, ki, ki, ki, ki, ki, ki], ob 2 [kr 35, kr 36, ki], ia 8, ia 8, ob 3 [ki, kr 38, ki, ki, ki, ki, ki, ki, ki, kj, ki, ki, ki, ki, ki, ki, ki], ob 2 [kr 39, kr 40, ki], ia 8, ia 8, .inr (.inr (3, [some 42, none, none, none])), ob 1 [kr 43, ki], ia 4]
def eA_46 : List zC := [ob 5 [kr 1, kr 4, kr 8, kr 41, kn, ki, ki, ki, ki, kj], ob 4 [kr 2, kr 3, ki], ia 8, ia 8, .inr (.inr (1, [some 5, some 6, some 7])), ob 0 [ki, ki], ob 0 [ki, ki], ob 0 [ki, ki], .inr (.inr (2, [some 9, some 13, some 17, some 21, some 25, some 29, some 33, some 37])), ob 3 [ki, kr 10, ki, ki, ki, ki, ki, ki, ki, kj, ki, ki, ki, ki, ki, ki, ki], ob 2 [kr 11, kr 12, ki], ia 8, ia 8, ob 3 [ki, kr 14, ki, ki, ki, ki, ki, ki, ki, kj, ki, ki, ki, ki, ki, ki, ki], ob 2 [kr 15, kr 16, ki], ia 8, ia 8, ob 3 [ki, kr 18, ki, ki, ki, ki, ki, ki, ki, kj, ki, ki, ki, ki, ki, ki, ki], ob 2 [kr 19, kr 20, ki], ia 8, ia 8, ob 3 [ki, kr 22, ki, ki, ki, ki, ki, ki, ki, kj, ki, ki, ki, ki, ki, ki, ki], ob 2 [kr 23, kr 24, ki], ia 8, ia 8, ob 3 [ki, kr 26, ki, ki, ki, ki, ki, ki, ki, kj, ki, ki, ki, ki, ki, ki, ki], ob 2 [kr 27, kr 28, ki], ia 8, ia 8, ob 3 [ki, kr 30, ki, ki, ki, ki, ki, ki, ki, kj, ki, ki, ki, ki, ki, ki, ki], ob 2 [kr 31, kr 32, ki], ia 8, ia 8, ob 3 [ki, kr 34, ki, ki, ki, ki, ki, ki, ki, kj, ki, ki, ki, ki, ki, ki, ki], ob 2 [kr 35, kr 36, ki], ia 8, ia 8, ob 3 [ki, kr 38, ki, ki, ki, ki, ki, ki, ki, kj, ki, ki, ki, ki, ki, ki, ki], ob 2 [kr 39, kr 40, ki], ia 8, ia 8, .inr (.inr (3, [some 42, none, none, none])), ob 1 [kr 43, ki], ia 4, ob 1 [kn, ki]]
def eA_47 : List zC := [ob 5 [kr 1, kr 4, kr 8, kr 41, kn, ki, ki, ki, ki, kj], ob 4 [kr 2, kr 3, ki], ia 8, ia 8, .inr (.inr (1, [some 5, some 6, some 7])), ob 0 [ki, ki], ob 0 [ki, ki], ob 0 [ki, ki], .inr (.inr (2, [some 9, some 13, some 17, some 21, some 25, some 29, some 33, some 37])), ob 3 [ki, kr 10, ki, ki, ki, ki, ki, ki, ki, kj, ki, ki, ki, ki, ki, ki, ki], ob 2 [kr 11, kr 12, ki], ia 8, ia 8, ob 3 [ki, kr 14, ki, ki, ki, ki, ki, ki, ki, kj, ki, ki, ki, ki, ki, ki, ki], ob 2 [kr 15, kr 16, ki], ia 8, ia 8, ob 3 [ki, kr 18, ki, ki, ki, ki, ki, ki, ki, kj, ki, ki, ki, ki, ki, ki, ki], ob 2 [kr 19, kr 20, ki], ia 8, ia 8, ob 3 [ki, kr 22, ki, ki, ki, ki, ki, ki, ki, kj, ki, ki, ki, ki, ki, ki, ki], ob 2 [kr 23, kr 24, ki], ia 8, ia 8, ob 3 [ki, kr 26, ki, ki, ki, ki, ki, ki, ki, kj, ki, ki, ki, ki, ki, ki, ki], ob 2 [kr 27, kr 28, ki], ia 8, ia 8, ob 3 [ki, kr 30, ki, ki, ki, ki, ki, ki, ki, kj, ki, ki, ki, ki, ki, ki, ki], ob 2 [kr 31, kr 32, ki], ia 8, ia 8, ob 3 [ki, kr 34, ki, ki, ki, ki, ki, ki, ki, kj, ki, ki, ki, ki, ki, ki, ki], ob 2 [kr 35, kr 36, ki], ia 8, ia 8, ob 3 [ki, kr 38, ki, ki, ki, ki, ki, ki, ki, kj, ki, ki, ki, ki, ki, ki, ki], ob 2 [kr 39, kr 40, ki], ia 8, ia 8, .inr (.inr (3, [some 42, none, none, none])), ob 1 [kr 43, ki], ia 4, ob 1 [kr 45, ki], ia 4]
def eA_48 : List zC := [ob 5 [kr 1, kr 4, kr 8, kr 41, kn, ki, ki, ki, ki, kj], ob 4 [kr 2, kr 3, ki], ia 8, ia 8, .inr (.inr (1, [some 5, some 6, some 7])), ob 0 [ki, ki], ob 0 [ki, ki], ob 0 [ki, ki], .inr (.inr (2, [some 9, some 13, some 17, some 21, some 25, some 29, some 33, some 37])), ob 3 [ki, kr 10, ki, ki, ki, ki, ki, ki, ki, kj, ki, ki, ki, ki, ki, ki, ki], ob 2 [kr 11, kr 12, ki], ia 8, ia 8, ob 3 [ki, kr 14, ki, ki, ki, ki, ki, ki, ki, kj, ki, ki, ki, ki, ki, ki, ki], ob 2 [kr 15, kr 16, ki], ia 8, ia 8, ob 3 [ki, kr 18, ki, ki, ki, ki, ki, ki, ki, kj, ki, ki, ki, ki, ki, ki, ki], ob 2 [kr 19, kr 20, ki], ia 8, ia 8, ob 3 [ki, kr 22, ki, ki, ki, ki, ki, ki, ki, kj, ki, ki, ki, ki, ki, ki, ki], ob 2 [kr 23, kr 24, ki], ia 8, ia 8, ob 3 [ki, kr 26, ki, ki, ki, ki, ki, ki, ki, kj, ki, ki, ki, ki, ki, ki, ki], ob 2 [kr 27, kr 28, ki], ia 8, ia 8, ob 3 [ki, kr 30, ki, ki, ki, ki, ki, ki, ki, kj, ki, ki, ki, ki, ki, ki, ki], ob 2 [kr 31, kr 32, ki], ia 8, ia 8, ob 3 [ki, kr 34, ki, ki, ki, ki, ki, ki, ki, kj, ki, ki, ki, ki, ki, ki, ki], ob 2 [kr 35, kr 36, ki], ia 8, ia 8, ob 3 [ki, kr 38, ki, ki, ki, ki, ki, ki, ki, kj, ki, ki, ki, ki, ki, ki, ki], ob 2 [kr 39, kr 40, ki], ia 8, ia 8, .inr (.inr (3, [some 42, some 44, none, none])), ob 1 [kr 43, ki], ia 4, ob 1 [kr 45, ki], ia 4]
def eA_49 : List zC := [ob 5 [kr 1, kr 4, kr 8, kr 41, kn, ki, ki, ki, ki, kj], ob 4 [kr 2, kr 3, ki], ia 8, ia 8, .inr (.inr (1, [some 5, some 6, some 7])), ob 0 [ki, ki], ob 0 [ki, ki], ob 0 [ki, ki], .inr (.inr (2, [some 9, some 13, some 17, some 21, some 25, some 29, some 33, some 37])), ob 3 [ki, kr 10, ki, ki, ki, ki, ki, ki, ki, kj, ki, ki, ki, ki, ki, ki, ki], ob 2 [kr 11, kr 12, ki], ia 8, ia 8, ob 3 [ki, kr 14, ki, ki, ki, ki, ki, ki, ki, kj, ki, ki, ki, ki, ki, ki, ki], ob 2 [kr 15, kr 16, ki], ia 8, ia 8, ob 3 [ki, kr 18, ki, ki, ki, ki, ki, ki, ki, kj, ki, ki, ki, ki, ki, ki, ki], ob 2 [kr 19, kr 20, ki], ia 8, ia 8, ob 3 [ki, kr 22, ki, ki, ki, ki, ki, ki, ki, kj, ki, ki, ki, ki, ki, ki, ki], ob 2 [kr 23, kr 24, ki], ia 8, ia 8, ob 3 [ki, kr 26, ki, ki, ki, ki, ki, ki, ki, kj, ki, ki, ki, ki, ki, ki, ki], ob 2 [kr 27, kr 28, ki], ia 8, ia 8, ob 3 [ki, kr 30, ki, ki, ki, ki, ki, ki, ki, kj, ki, ki, ki, ki, ki, ki, ki], ob 2 [kr 31, kr 32, ki], ia 8, ia 8, ob 3 [ki, kr 34, ki, ki, ki, ki, ki, ki, ki, kj, ki, ki, ki, ki, ki, ki, ki], ob 2 [kr 35, kr 36, ki], ia 8, ia 8, ob 3 [ki, kr 38, ki, ki, ki, ki, ki, ki, ki, kj, ki, ki, ki, ki, ki, ki, ki], ob 2 [kr 39, kr 40, ki], ia 8, ia 8, .inr (.inr (3, [some 42, some 44, none, none])), ob 1 [kr 43, ki], ia 4, ob 1 [kr 45, ki], ia 4, ob 1 [kn, ki]]
def eA_50 : List zC := [ob 5 [kr 1, kr 4, kr 8, kr 41, kn, ki, ki, ki, ki, kj], ob 4 [kr 2, kr 3, ki], ia 8, ia 8, .inr (.inr (1, [some 5, some 6, some 7])), ob 0 [ki, ki], ob 0 [ki, ki], ob 0 [ki, ki], .inr (.inr (2, [some 9, some 13, some 17, some 21, some 25, some 29, some 33, some 37])), ob 3 [ki, kr 10, ki, ki, ki, ki, ki, ki, ki, kj, ki, ki, ki, ki, ki, ki, ki], ob 2 [kr 11, kr 12, ki], ia 8, ia 8, ob 3 [ki, kr 14, ki, ki, ki, ki, ki, ki, ki, kj, ki, ki, ki, ki, ki, ki, ki], ob 2 [kr 15, kr 16, ki], ia 8, ia 8, ob 3 [ki, kr 18, ki, ki, ki, ki, ki, ki, ki, kj, ki, ki, ki, ki, ki, ki, ki], ob 2 [kr 19, kr 20, ki], ia 8, ia 8, ob 3 [ki, kr 22, ki, ki, ki, ki, ki, ki, ki, kj, ki, ki, ki, ki, ki, ki, ki], ob 2 [kr 23, kr 24, ki], ia 8, ia 8, ob 3 [ki, kr 26, ki, ki, ki, ki, ki, ki, ki, kj, ki, ki, ki, ki, ki, ki, ki], ob 2 [kr 27, kr 28, ki], ia 8, ia 8, ob 3 [ki, kr 30, ki, ki, ki, ki, ki, ki, ki, kj, ki, ki, ki, ki, ki, ki, ki], ob 2 [kr 31, kr 32, ki], ia 8, ia 8, ob 3 [ki, kr 34, ki, ki, ki, ki, ki, ki, ki, kj, ki, ki, ki, ki, ki, ki, ki], ob 2 [kr 35, kr 36, ki], ia 8, ia 8, ob 3 [ki, kr 38, ki, ki, ki, ki, ki, ki, ki, kj, ki, ki, ki, ki, ki, ki, ki], ob 2 [kr 39, kr 40, ki], ia 8, ia 8, .inr (.inr (3, [some 42, some 44, none, none])), ob 1 [kr 43, ki], ia 4, ob 1 [kr 45, ki], ia 4, ob 1 [kr 47, ki], ia 4]
def eA_51 : List zC := [ob 5 [kr 1, kr 4, kr 8, kr 41, kn, ki, ki, ki, ki, kj], ob 4 [kr 2, kr 3, ki], ia 8, ia 8, .inr (.inr (1, [some 5, some 6, some 7])), ob 0 [ki, ki], ob 0 [ki, ki], ob 0 [ki, ki], .inr (.inr (2, [some 9, some 13, some 17, some 21, some 25, some 29, some 33, some 37])), ob 3 [ki, kr 10, ki, ki, ki, ki, ki, ki, ki, kj, ki, ki, ki, ki, ki, ki, ki], ob 2 [kr 11, kr 12, ki], ia 8, ia 8, ob 3 [ki, kr 14, ki, ki, ki, ki, ki, ki, ki, kj, ki, ki, ki, ki, ki, ki, ki], ob 2 [kr 15, kr 16, ki], ia 8, ia 8, ob 3 [ki, kr 18, ki, ki, ki, ki, ki, ki, ki, kj, ki, ki, ki, ki, ki, ki, ki], ob 2 [kr 19, kr 20, ki], ia 8, ia 8, ob 3 [ki, kr 22, ki, ki, ki, ki, ki, ki, ki, kj, ki, ki, ki, ki, ki, ki, ki], ob 2 [kr 23, kr 24, ki], ia 8, ia 8, ob 3 [ki, kr 26, ki, ki, ki, ki, ki, ki, ki, kj, ki, ki, ki, ki, ki, ki, ki], ob 2 [kr 27, kr 28, ki], ia 8, ia 8, ob 3 [ki, kr 30, ki, ki, ki, ki, ki, ki, ki, kj, ki, ki, ki, ki, ki, ki, ki], ob 2 [kr 31, kr 32, ki], ia 8, ia 8, ob 3 [ki, kr 34, ki, ki, ki, ki, ki, ki, ki, kj, ki, ki, ki, ki, ki, ki, ki], ob 2 [kr 35, kr 36, ki], ia 8, ia 8, ob 3 [ki, kr 38, ki, ki, ki, ki, ki, ki, ki, kj, ki, ki, ki, ki, ki, ki, ki], ob 2 [kr 39, kr 40, ki], ia 8, ia 8, .inr (.inr (3, [some 42, some 44, some 46, none])), ob 1 [kr 43, ki], ia 4, ob 1 [kr 45, ki], ia 4, ob 1 [kr 47, ki], ia 4]
def eA_52 : List zC := [ob 5 [kr 1, kr 4, kr 8, kr 41, kn, ki, ki, ki, ki, kj], ob 4 [kr 2, kr 3, ki], ia 8, ia 8, .inr (.inr (1, [some 5, some 6, some 7])), ob 0 [ki, ki], ob 0 [ki, ki], ob 0 [ki, ki], .inr (.inr (2, [some 9, some 13, some 17, some 21, some 25, some 29, some 33, some 37])), ob 3 [ki, kr 10, ki, ki, ki, ki, ki, ki, ki, kj, ki, ki, ki, ki, ki, ki, ki], ob 2 [kr 11, kr 12, ki], ia 8, ia 8, ob 3 [ki, kr 14, ki, ki, ki, ki, ki, ki, ki, kj, ki, ki, ki, ki, ki, ki, ki], ob 2 [kr 15, kr 16, ki], ia 8, ia 8, ob 3 [ki, kr 18, ki, ki, ki, ki, ki, ki, ki, kj, ki, ki, ki, ki, ki, ki, ki], ob 2 [kr 19, kr 20, ki], ia 8, ia 8, ob 3 [ki, kr 22, ki, ki, ki, ki, ki, ki, ki, kj, ki, ki, ki, ki, ki, ki, ki], ob 2 [kr 23, kr 24, ki], ia 8, ia 8, ob 3 [ki, kr 26, ki, ki, ki, ki, ki, ki, ki, kj, ki, ki, ki, ki, ki, ki, ki], ob 2 [kr 27, kr 28, ki], ia 8, ia 8, ob 3 [ki, kr 30, ki, ki, ki, ki, ki, ki, ki, kj, ki, ki, ki, ki, ki, ki, ki], ob 2 [kr 31, kr 32, ki], ia 8, ia 8, ob 3 [ki, kr 34, ki, ki, ki, ki, ki, ki, ki, kj, ki, ki, ki, ki, ki, ki, ki], ob 2 [kr 35, kr 36, ki], ia 8, ia 8, ob 3 [ki, kr 38, ki, ki, ki, ki, ki, ki, ki, kj, ki, ki, ki, ki, ki, ki, ki], ob 2 [kr 39, kr 40, ki], ia 8, ia 8, .inr (.inr (3, [some 42, some 44, some 46, none])), ob 1 [kr 43, ki], ia 4, ob 1 [kr 45, ki], ia 4, ob 1 [kr 47, ki], ia 4, ob 1 [kn, ki]]
def eA_53 : List zC := [ob 5 [kr 1, kr 4, kr 8, kr 41, kn, ki, ki, ki, ki, kj], ob 4 [kr 2, kr 3, ki], ia 8, ia 8, .inr (.inr (1, [some 5, some 6, some 7])), ob 0 [ki, ki], ob 0 [ki, ki], ob 0 [ki, ki], .inr (.inr (2, [some 9, some 13, some 17, some 21, some 25, some 29, some 33, some 37])), ob 3 [ki, kr 10, ki, ki, ki, ki, ki, ki, ki, kj, ki, ki, ki, ki, ki, ki, ki], ob 2 [kr 11, kr 12, ki], ia 8, ia 8, ob 3 [ki, kr 14, ki, ki, ki, ki, ki, ki, ki, kj, ki, ki, ki, ki, ki, ki, ki], ob 2 [kr 15, kr 16, ki], ia 8, ia 8, ob 3 [ki, kr 18, ki, ki, ki, ki, ki, ki, ki, kj, ki, ki, ki, ki, ki, ki, ki], ob 2 [kr 19, kr 20, ki], ia 8, ia 8, ob 3 [ki, kr 22, ki, ki, ki, ki, ki, ki, ki, kj, ki, ki, ki, ki, ki, ki, ki], ob 2 [kr 23, kr 24, ki], ia 8, ia 8, ob 3 [ki, kr 26, ki, ki, ki, ki, ki, ki, ki, kj, ki, ki, ki, ki, ki, ki, ki], ob 2 [kr 27, kr 28, ki], ia 8, ia 8, ob 3 [ki, kr 30, ki, ki, ki, ki, ki, ki, ki, kj, ki, ki, ki, ki, ki, ki, ki], ob 2 [kr 31, kr 32, ki], ia 8, ia 8, ob 3 [ki, kr 34, ki, ki, ki, ki, ki, ki, ki, kj, ki, ki, ki, ki, ki, ki, ki], ob 2 [kr 35, kr 36, ki], ia 8, ia 8, ob 3 [ki, kr 38, ki, ki, ki, ki, ki, ki, ki, kj, ki, ki, ki, ki, ki, ki, ki], ob 2 [kr 39, kr 40, ki], ia 8, ia 8, .inr (.inr (3, [some 42, some 44, some 46, none])), ob 1 [kr 43, ki], ia 4, ob 1 [kr 45, ki], ia 4, ob 1 [kr 47, ki], ia 4, ob 1 [kr 49, ki], ia 4]
def eA_54 : List zC := [ob 5 [kr 1, kr 4, kr 8, kr 41, kn, ki, ki, ki, ki, kj], ob 4 [kr 2, kr 3, ki], ia 8, ia 8, .inr (.inr (1, [some 5, some 6, some 7])), ob 0 [ki, ki], ob 0 [ki, ki], ob 0 [ki, ki], .inr (.inr (2, [some 9, some 13, some 17, some 21, some 25, some 29, some 33, some 37])), ob 3 [ki, kr 10, ki, ki, ki, ki, ki, ki, ki, kj, ki, ki, ki, ki, ki, ki, ki], ob 2 [kr 11, kr 12, ki], ia 8, ia 8, ob 3 [ki, kr 14, ki, ki, ki, ki, ki, ki, ki, kj, ki, ki, ki, ki, ki, ki, ki], ob 2 [kr 15, kr 16, ki], ia 8, ia 8, ob 3 [ki, kr 18, ki, ki, ki, ki, ki, ki, ki, kj, ki, ki, ki, ki, ki, ki, ki], ob 2 [kr 19, kr 20, ki], ia 8, ia 8, ob 3 [ki, kr 22, ki, ki, ki, ki, ki, ki, ki, kj, ki, ki, ki, ki, ki, ki, ki], ob 2 [kr 23, kr 24, ki], ia 8, ia 8, ob 3 [ki, kr 26, ki, ki, ki, ki, ki, ki, ki, kj, ki, ki, ki, ki, ki, ki, ki], ob 2 [kr 27, kr 28, ki], ia 8, ia 8, ob 3 [ki, kr 30, ki, ki, ki, ki, ki, ki, ki, kj, ki, ki, ki, ki, ki, ki, ki], ob 2 [kr 31, kr 32, ki], ia 8, ia 8, ob 3 [ki, kr 34, ki, ki, ki, ki, ki, ki, ki, kj, ki, ki, ki, ki, ki, ki, ki], ob 2 [kr 35, kr 36, ki], ia 8, ia 8, ob 3 [ki, kr 38, ki, ki, ki, ki, ki, ki, ki, kj, ki, ki, ki, ki, ki, ki, ki], ob 2 [kr 39, kr 40, ki], ia 8, ia 8, .inr (.inr (3, [some 42, some 44, some 46, some 48])), ob 1 [kr 43, ki], ia 4, ob 1 [kr 45, ki], ia 4, ob 1 [kr 47, ki], ia 4, ob 1 [kr 49, ki], ia 4]
def eA_55 : List zC := [ob 5 [kr 1, kr 4, kr 8, kr 41, kn, ki, ki, ki, ki, kj], ob 4 [kr 2, kr 3, ki], ia 8, ia 8, .inr (.inr (1, [some 5, some 6, some 7])), ob 0 [ki, ki], ob 0 [ki, ki], ob 0 [ki, ki], .inr (.inr (2, [some 9, some 13, some 17, some 21, some 25, some 29, some 33, some 37])), ob 3 [ki, kr 10, ki, ki, ki, ki, ki, ki, ki, kj, ki, ki, ki, ki, ki, ki, ki], ob 2 [kr 11, kr 12, ki], ia 8, ia 8, ob 3 [ki, kr 14, ki, ki, ki, ki, ki, ki, ki, kj, ki, ki, ki, ki, ki, ki, ki], ob 2 [kr 15, kr 16, ki], ia 8, ia 8, ob 3 [ki, kr 18, ki, ki, ki, ki, ki, ki, ki, kj, ki, ki, ki, ki, ki, ki, ki], ob 2 [kr 19, kr 20, ki], ia 8, ia 8, ob 3 [ki, kr 22, ki, ki, ki, ki, ki, ki, ki, kj, ki, ki, ki, ki, ki, ki, ki], ob 2 [kr 23, kr 24, ki], ia 8, ia 8, ob 3 [ki, kr 26, ki, ki, ki, ki, ki, ki, ki, kj, ki, ki, ki, ki, ki, ki, ki], ob 2 [kr 27, kr 28, ki], ia 8, ia 8, ob 3 [ki, kr 30, ki, ki, ki, ki, ki, ki, ki, kj, ki, ki, ki, ki, ki, ki, ki], ob 2 [kr 31, kr 32, ki], ia 8, ia 8, ob 3 [ki, kr 34, ki, ki, ki, ki, ki, ki, ki, kj, ki, ki, ki, ki, ki, ki, ki], ob 2 [kr 35, kr 36, ki], ia 8, ia 8, ob 3 [ki, kr 38, ki, ki, ki, ki, ki, ki, ki, kj, ki, ki, ki, ki, ki, ki, ki], ob 2 [kr 39, kr 40, ki], ia 8, ia 8, .inr (.inr (3, [some 42, some 44, some 46, some 48])), ob 1 [kr 43, ki], ia 4, ob 1 [kr 45, ki], ia 4, ob 1 [kr 47, ki], ia 4, ob 1 [kr 49, ki], ia 4, ia 4]
def eA_56 : List zC := [ob 5 [kr 1, kr 4, kr 8, kr 41, kr 50, ki, ki, ki, ki, kj], ob 4 [kr 2, kr 3, ki], ia 8, ia 8, .inr (.inr (1, [some 5, some 6, some 7])), ob 0 [ki, ki], ob 0 [ki, ki], ob 0 [ki, ki], .inr (.inr (2, [some 9, some 13, some 17, some 21, some 25, some 29, some 33, some 37])), ob 3 [ki, kr 10, ki, ki, ki, ki, ki, ki, ki, kj, ki, ki, ki, ki, ki, ki, ki], ob 2 [kr 11, kr 12, ki], ia 8, ia 8, ob 3 [ki, kr 14, ki, ki, ki, ki, ki, ki, ki, kj, ki, ki, ki, ki, ki, ki, ki], ob 2 [kr 15, kr 16, ki], ia 8, ia 8, ob 3 [ki, kr 18, ki, ki, ki, ki, ki, ki, ki, kj, ki, ki, ki, ki, ki, ki, ki], ob 2 [kr 19, kr 20, ki], ia 8, ia 8, ob 3 [ki, kr 22, ki, ki, ki, ki, ki, ki, ki, kj, ki, ki, ki, ki, ki, ki, ki], ob 2 [kr 23, kr 24, ki], ia 8, ia 8, ob 3 [ki, kr 26, ki, ki, ki, ki, ki, ki, ki, kj, ki, ki, ki, ki, ki, ki, ki], ob 2 [kr 27, kr 28, ki], ia 8, ia 8, ob 3 [ki, kr 30, ki, ki, ki, ki, ki, ki, ki, kj, ki, ki, ki, ki, ki, ki, ki], ob 2 [kr 31, kr 32, ki], ia 8, ia 8, ob 3 [ki, kr 34, ki, ki, ki, ki, ki, ki, ki, kj, ki, ki, ki, ki, ki, ki, ki], ob 2 [kr 35, kr 36, ki], ia 8, ia 8, ob 3 [ki, kr 38, ki, ki, ki, ki, ki, ki, ki, kj, ki, ki, ki, ki, ki, ki, ki], ob 2 [kr 39, kr 40, ki], ia 8, ia 8, .inr (.inr (3, [some 42, some 44, some 46, some 48])), ob 1 [kr 43, ki], ia 4, ob 1 [kr 45, ki], ia 4, ob 1 [kr 47, ki], ia 4, ob 1 [kr 49, ki], ia 4, ia 4]
set_option maxHeartbeats 16000000 in
set_option maxRecDepth 100000 in
theorem c_A_init (l : Launch) (D : va_G) (cA : Nat → ClassId) (ad : Nat → Nat) : Cc l D cA ad eA_0 y_A_init b_A_init 2 (zq 3 50 356 60) [zR 0] mA_0 eA_56 mA_8 50 356 := by
  refine zMc_of (plainFor_of_name (by decide)) rfl (Nat.le_of_ble_eq_true rfl) ?_
  intro p e s m args below meth c A X hin hZ
  refine z_aload_n X 0 d_A_init_0 rfl rfl ?_
  refine z_objI X ob_A ob_2 ob_3 (by decide) (Nat.le_of_ble_eq_true rfl) d_A_init_1 ?_
  refine z_aload_n X 0 d_A_init_4 rfl rfl ?_
  refine z_new X nf_A_7 (n := 1) rfl (fun k => mAz_0 1 (by decide) k) (fun _ => mAz_02 1 _) rfl rfl rfl (by decide) (by decide) d_A_init_5 (fun ad1 ha1 => ?_)
  refine z_E (E' := eA_1) rfl (z_cs (cells' := 1) (slots' := 3) rfl rfl ?_)
  refine z_dup X d_A_init_8 rfl ?_
  refine z_IcN X hZ GG_ok hZ.2.1 ci2_Wr ci3_Wr ci4_Wr rfl ci5_Wr 1 [] [zR 1, zR 0] (c_Wr_init l D cA ad1 eA_1 _ 1 rfl rfl (mAz_0 _ (by decide)) (mAz_0 _ (by decide))) ⟨rfl, rfl⟩ (by decide) rfl rfl (Nat.le_of_ble_eq_true rfl) (by decide) (nE := 2) rfl rfl rfl d_A_init_9 (fun ad2 ha2 => ?_)
  refine z_E (E' := eA_2) rfl (z_cs (cells' := 3) (slots' := 19) rfl rfl ?_)
  refine z_putFr X hin fo_A_10 0 1 rfl (by decide) (fun _ => rfl) (fun _ => rfl) d_A_init_12 (E' := eA_3) rfl ?_
  refine z_aload_n X 0 d_A_init_15 rfl rfl ?_
  refine z_iconst X (v := 3) d_A_init_16 (by decide) ?_
  refine z_newq X 1 (C := "WindowPlan$Partition") rfl cl_A_16 hZ.1.1 (n := 4) (k := 3) rfl rfl rfl rfl (by decide) (by decide) (by decide) rfl d_A_init_17 (fun ad3 ha3 => ?_)
  refine z_E (E' := eA_4) rfl (z_cs (cells' := 4) (slots' := 22) rfl rfl ?_)
  refine z_putFr X hin fo_A_18 0 4 rfl (by decide) (fun _ => rfl) (fun _ => rfl) d_A_init_20 (E' := eA_5) rfl ?_
  refine z_iconst X (v := 0) d_A_init_23 (by decide) ?_
  refine z_istore_n X (L' := [(1, zI 0), (0, zR 0)]) d_A_init_24 rfl (by decide) rfl ?_
  refine z_iload_n X 0 d_A_init_25 rfl rfl ?_
  refine z_iconst X (v := 3) d_A_init_26 (by decide) ?_
  refine z_icmp_ge X 49 d_A_init_27 (by decide) (fun h => absurd h (by decide)) (fun _ => ?_)
  refine z_aload_n X 1 d_A_init_30 rfl rfl ?_
  refine z_get X fl_A_18 0 rfl rfl rfl d_A_init_31 ?_
  refine z_iload_n X 0 d_A_init_34 rfl rfl ?_
  refine z_new X nf_A_16 (n := 5) rfl (fun k => mAz_0 5 (by decide) k) (fun _ => mAz_02 5 _) rfl rfl rfl (by decide) (by decide) d_A_init_35 (fun ad4 ha4 => ?_)
  refine z_E (E' := eA_6) rfl (z_cs (cells' := 5) (slots' := 24) rfl rfl ?_)
  refine z_dup X d_A_init_38 rfl ?_
  refine z_IcN X hZ GG_ok hZ.2.2.1 ci2_P ci3_P ci4_P rfl ci5_P 5 [] [zR 5, zI 0, zR 4] (c_P_init l D cA ad4 eA_6 _ 5 rfl (mAz_0 5 (by decide) 0) (mAz_0 5 (by decide) 1)) ⟨rfl, rfl⟩ (by decide) rfl rfl (Nat.le_of_ble_eq_true rfl) (by decide) (nE := 6) rfl rfl rfl d_A_init_39 (fun ad5 ha5 => ?_)
  refine z_E (E' := eA_7) rfl (z_cs (cells' := 5) (slots' := 24) rfl rfl ?_)
  refine z_astq X 4 5 rfl rfl rfl rfl 0 rfl (by decide) (by decide) d_A_init_42 (E' := eA_8) rfl ?_
  refine z_iinc X 0 (v := 1) (L' := [(1, zI 1), (0, zR 0)]) d_A_init_43 rfl rfl (by decide) rfl ?_
  refine z_goto X 25 d_A_init_46 (by decide) ?_
  refine z_iload_n X 0 d_A_init_25 rfl rfl ?_
  refine z_iconst X (v := 3) d_A_init_26 (by decide) ?_
  refine z_icmp_ge X 49 d_A_init_27 (by decide) (fun h => absurd h (by decide)) (fun _ => ?_)
  refine z_aload_n X 1 d_A_init_30 rfl rfl ?_
  refine z_get X fl_A_18 0 rfl rfl rfl d_A_init_31 ?_
  refine z_iload_n X 0 d_A_init_34 rfl rfl ?_
  refine z_new X nf_A_16 (n := 6) rfl (fun k => mAz_0 6 (by decide) k) (fun _ => mAz_02 6 _) rfl rfl rfl (by decide) (by decide) d_A_init_35 (fun ad6 ha6 => ?_)
  refine z_E (E' := eA_9) rfl (z_cs (cells' := 6) (slots' := 26) rfl rfl ?_)
  refine z_dup X d_A_init_38 rfl ?_
  refine z_IcN X hZ GG_ok hZ.2.2.1 ci2_P ci3_P ci4_P rfl ci5_P 6 [] [zR 6, zI 1, zR 4] (c_P_init l D cA ad6 eA_9 _ 6 rfl (mAz_0 6 (by decide) 0) (mAz_0 6 (by decide) 1)) ⟨rfl, rfl⟩ (by decide) rfl rfl (Nat.le_of_ble_eq_true rfl) (by decide) (nE := 7) rfl rfl rfl d_A_init_39 (fun ad7 ha7 => ?_)
  refine z_E (E' := eA_10) rfl (z_cs (cells' := 6) (slots' := 26) rfl rfl ?_)
  refine z_astq X 4 6 rfl rfl rfl rfl 1 rfl (by decide) (by decide) d_A_init_42 (E' := eA_11) rfl ?_
  refine z_iinc X 0 (v := 2) (L' := [(1, zI 2), (0, zR 0)]) d_A_init_43 rfl rfl (by decide) rfl ?_
  refine z_goto X 25 d_A_init_46 (by decide) ?_
  refine z_iload_n X 0 d_A_init_25 rfl rfl ?_
  refine z_iconst X (v := 3) d_A_init_26 (by decide) ?_
  refine z_icmp_ge X 49 d_A_init_27 (by decide) (fun h => absurd h (by decide)) (fun _ => ?_)
  refine z_aload_n X 1 d_A_init_30 rfl rfl ?_
  refine z_get X fl_A_18 0 rfl rfl rfl d_A_init_31 ?_
  refine z_iload_n X 0 d_A_init_34 rfl rfl ?_
  refine z_new X nf_A_16 (n := 7) rfl (fun k => mAz_0 7 (by decide) k) (fun _ => mAz_02 7 _) rfl rfl rfl (by decide) (by decide) d_A_init_35 (fun ad8 ha8 => ?_)
  refine z_E (E' := eA_12) rfl (z_cs (cells' := 7) (slots' := 28) rfl rfl ?_)
  refine z_dup X d_A_init_38 rfl ?_
  refine z_IcN X hZ GG_ok hZ.2.2.1 ci2_P ci3_P ci4_P rfl ci5_P 7 [] [zR 7, zI 2, zR 4] (c_P_init l D cA ad8 eA_12 _ 7 rfl (mAz_0 7 (by decide) 0) (mAz_0 7 (by decide) 1)) ⟨rfl, rfl⟩ (by decide) rfl rfl (Nat.le_of_ble_eq_true rfl) (by decide) (nE := 8) rfl rfl rfl d_A_init_39 (fun ad9 ha9 => ?_)
  refine z_E (E' := eA_13) rfl (z_cs (cells' := 7) (slots' := 28) rfl rfl ?_)
  refine z_astq X 4 7 rfl rfl rfl rfl 2 rfl (by decide) (by decide) d_A_init_42 (E' := eA_14) rfl ?_
  refine z_iinc X 0 (v := 3) (L' := [(1, zI 3), (0, zR 0)]) d_A_init_43 rfl rfl (by decide) rfl ?_
  refine z_goto X 25 d_A_init_46 (by decide) ?_
  refine z_iload_n X 0 d_A_init_25 rfl rfl ?_
  refine z_iconst X (v := 3) d_A_init_26 (by decide) ?_
  refine z_icmp_ge X 49 d_A_init_27 (by decide) (fun _ => ?_) (fun h => absurd h (by decide))
  refine z_aload_n X 1 d_A_init_49 rfl rfl ?_
  refine z_bipush X (v := 8) d_A_init_50 (by decide) ?_
  refine z_newq X 2 (C := "WindowPlan$Task") rfl cl_A_23 hZ.1.2.1 (n := 8) (k := 8) rfl rfl rfl rfl (by decide) (by decide) (by decide) rfl d_A_init_52 (fun ad10 ha10 => ?_)
  refine z_E (E' := eA_15) rfl (z_cs (cells' := 8) (slots' := 36) rfl rfl ?_)
  refine z_putFr X hin fo_A_25 0 8 rfl (by decide) (fun _ => rfl) (fun _ => rfl) d_A_init_55 (E' := eA_16) rfl ?_
  refine z_iconst X (v := 0) d_A_init_58 (by decide) ?_
  refine z_istore_n X (L' := [(1, zI 0), (0, zR 0)]) d_A_init_59 rfl (by decide) rfl ?_
  refine z_iload_n X 0 d_A_init_60 rfl rfl ?_
  refine z_bipush X (v := 8) d_A_init_61 (by decide) ?_
  refine z_icmp_ge X 86 d_A_init_63 (by decide) (fun h => absurd h (by decide)) (fun _ => ?_)
  refine z_aload_n X 1 d_A_init_66 rfl rfl ?_
  refine z_get X fl_A_25 0 rfl rfl rfl d_A_init_67 ?_
  refine z_iload_n X 0 d_A_init_70 rfl rfl ?_
  refine z_new X nf_A_23 (n := 9) rfl (fun k => mAz_0 9 (by decide) k) (fun _ => mAz_02 9 _) rfl rfl rfl (by decide) (by decide) d_A_init_71 (fun ad11 ha11 => ?_)
  refine z_E (E' := eA_17) rfl (z_cs (cells' := 9) (slots' := 53) rfl rfl ?_)
  refine z_dup X d_A_init_74 rfl ?_
  refine z_iload_n X 0 d_A_init_75 rfl rfl ?_
  refine z_Ic X hZ GG_ok ci1_A_29 ci2_K ci3_K ci4_K rfl ci5_K 9 [zI 0] [zR 9, zI 0, zR 8] (c_K_init l D cA ad11 eA_17 _ 9 0 rfl rfl (mAz_0 9 (by decide) 6) (mAz_0 _ (by decide)) (mAz_02 _) (mAz_0 _ (by decide)) (mAz_0 _ (by decide))) ⟨rfl, rfl⟩ (by decide) rfl rfl (Nat.le_of_ble_eq_true rfl) (by decide) (nE := 10) rfl rfl rfl d_A_init_76 (fun ad12 ha12 => ?_)
  refine z_E (E' := eA_18) rfl (z_cs (cells' := 12) (slots' := 72) rfl rfl ?_)
  refine z_astq X 8 9 rfl rfl rfl rfl 0 rfl (by decide) (by decide) d_A_init_79 (E' := eA_19) rfl ?_
  refine z_iinc X 0 (v := 1) (L' := [(1, zI 1), (0, zR 0)]) d_A_init_80 rfl rfl (by decide) rfl ?_
  refine z_goto X 60 d_A_init_83 (by decide) ?_
  refine z_iload_n X 0 d_A_init_60 rfl rfl ?_
  refine z_bipush X (v := 8) d_A_init_61 (by decide) ?_
  refine z_icmp_ge X 86 d_A_init_63 (by decide) (fun h => absurd h (by decide)) (fun _ => ?_)
  refine z_aload_n X 1 d_A_init_66 rfl rfl ?_
  refine z_get X fl_A_25 0 rfl rfl rfl d_A_init_67 ?_
  refine z_iload_n X 0 d_A_init_70 rfl rfl ?_
  refine z_new X nf_A_23 (n := 13) rfl (fun k => mAz_1 13 (by decide) k) (fun _ => mAz_12 13 _) rfl rfl rfl (by decide) (by decide) d_A_init_71 (fun ad13 ha13 => ?_)
  refine z_E (E' := eA_20) rfl (z_cs (cells' := 13) (slots' := 89) rfl rfl ?_)
  refine z_dup X d_A_init_74 rfl ?_
  refine z_iload_n X 0 d_A_init_75 rfl rfl ?_
  refine z_Ic X hZ GG_ok ci1_A_29 ci2_K ci3_K ci4_K rfl ci5_K 13 [zI 1] [zR 13, zI 1, zR 8] (c_K_init l D cA ad13 eA_20 _ 13 1 rfl rfl (mAz_1 13 (by decide) 6) (mAz_1 _ (by decide)) (mAz_12 _) (mAz_1 _ (by decide)) (mAz_1 _ (by decide))) ⟨rfl, rfl⟩ (by decide) rfl rfl (Nat.le_of_ble_eq_true rfl) (by decide) (nE := 14) rfl rfl rfl d_A_init_76 (fun ad14 ha14 => ?_)
  refine z_E (E' := eA_21) rfl (z_cs (cells' := 16) (slots' := 108) rfl rfl ?_)
  refine z_astq X 8 13 rfl rfl rfl rfl 1 rfl (by decide) (by decide) d_A_init_79 (E' := eA_22) rfl ?_
  refine z_iinc X 0 (v := 2) (L' := [(1, zI 2), (0, zR 0)]) d_A_init_80 rfl rfl (by decide) rfl ?_
  refine z_goto X 60 d_A_init_83 (by decide) ?_
  refine z_iload_n X 0 d_A_init_60 rfl rfl ?_
  refine z_bipush X (v := 8) d_A_init_61 (by decide) ?_
  refine z_icmp_ge X 86 d_A_init_63 (by decide) (fun h => absurd h (by decide)) (fun _ => ?_)
  refine z_aload_n X 1 d_A_init_66 rfl rfl ?_
  refine z_get X fl_A_25 0 rfl rfl rfl d_A_init_67 ?_
  refine z_iload_n X 0 d_A_init_70 rfl rfl ?_
  refine z_new X nf_A_23 (n := 17) rfl (fun k => mAz_2 17 (by decide) k) (fun _ => mAz_22 17 _) rfl rfl rfl (by decide) (by decide) d_A_init_71 (fun ad15 ha15 => ?_)
  refine z_E (E' := eA_23) rfl (z_cs (cells' := 17) (slots' := 125) rfl rfl ?_)
  refine z_dup X d_A_init_74 rfl ?_
  refine z_iload_n X 0 d_A_init_75 rfl rfl ?_
  refine z_Ic X hZ GG_ok ci1_A_29 ci2_K ci3_K ci4_K rfl ci5_K 17 [zI 2] [zR 17, zI 2, zR 8] (c_K_init l D cA ad15 eA_23 _ 17 2 rfl rfl (mAz_2 17 (by decide) 6) (mAz_2 _ (by decide)) (mAz_22 _) (mAz_2 _ (by decide)) (mAz_2 _ (by decide))) ⟨rfl, rfl⟩ (by decide) rfl rfl (Nat.le_of_ble_eq_true rfl) (by decide) (nE := 18) rfl rfl rfl d_A_init_76 (fun ad16 ha16 => ?_)
  refine z_E (E' := eA_24) rfl (z_cs (cells' := 20) (slots' := 144) rfl rfl ?_)
  refine z_astq X 8 17 rfl rfl rfl rfl 2 rfl (by decide) (by decide) d_A_init_79 (E' := eA_25) rfl ?_
  refine z_iinc X 0 (v := 3) (L' := [(1, zI 3), (0, zR 0)]) d_A_init_80 rfl rfl (by decide) rfl ?_
  refine z_goto X 60 d_A_init_83 (by decide) ?_
  refine z_iload_n X 0 d_A_init_60 rfl rfl ?_
  refine z_bipush X (v := 8) d_A_init_61 (by decide) ?_
  refine z_icmp_ge X 86 d_A_init_63 (by decide) (fun h => absurd h (by decide)) (fun _ => ?_)
  refine z_aload_n X 1 d_A_init_66 rfl rfl ?_
  refine z_get X fl_A_25 0 rfl rfl rfl d_A_init_67 ?_
  refine z_iload_n X 0 d_A_init_70 rfl rfl ?_
  refine z_new X nf_A_23 (n := 21) rfl (fun k => mAz_3 21 (by decide) k) (fun _ => mAz_32 21 _) rfl rfl rfl (by decide) (by decide) d_A_init_71 (fun ad17 ha17 => ?_)
  refine z_E (E' := eA_26) rfl (z_cs (cells' := 21) (slots' := 161) rfl rfl ?_)
  refine z_dup X d_A_init_74 rfl ?_
  refine z_iload_n X 0 d_A_init_75 rfl rfl ?_
  refine z_Ic X hZ GG_ok ci1_A_29 ci2_K ci3_K ci4_K rfl ci5_K 21 [zI 3] [zR 21, zI 3, zR 8] (c_K_init l D cA ad17 eA_26 _ 21 3 rfl rfl (mAz_3 21 (by decide) 6) (mAz_3 _ (by decide)) (mAz_32 _) (mAz_3 _ (by decide)) (mAz_3 _ (by decide))) ⟨rfl, rfl⟩ (by decide) rfl rfl (Nat.le_of_ble_eq_true rfl) (by decide) (nE := 22) rfl rfl rfl d_A_init_76 (fun ad18 ha18 => ?_)
  refine z_E (E' := eA_27) rfl (z_cs (cells' := 24) (slots' := 180) rfl rfl ?_)
  refine z_astq X 8 21 rfl rfl rfl rfl 3 rfl (by decide) (by decide) d_A_init_79 (E' := eA_28) rfl ?_
  refine z_iinc X 0 (v := 4) (L' := [(1, zI 4), (0, zR 0)]) d_A_init_80 rfl rfl (by decide) rfl ?_
  refine z_goto X 60 d_A_init_83 (by decide) ?_
  refine z_iload_n X 0 d_A_init_60 rfl rfl ?_
  refine z_bipush X (v := 8) d_A_init_61 (by decide) ?_
  refine z_icmp_ge X 86 d_A_init_63 (by decide) (fun h => absurd h (by decide)) (fun _ => ?_)
  refine z_aload_n X 1 d_A_init_66 rfl rfl ?_
  refine z_get X fl_A_25 0 rfl rfl rfl d_A_init_67 ?_
  refine z_iload_n X 0 d_A_init_70 rfl rfl ?_
  refine z_new X nf_A_23 (n := 25) rfl (fun k => mAz_4 25 (by decide) k) (fun _ => mAz_42 25 _) rfl rfl rfl (by decide) (by decide) d_A_init_71 (fun ad19 ha19 => ?_)
  refine z_E (E' := eA_29) rfl (z_cs (cells' := 25) (slots' := 197) rfl rfl ?_)
  refine z_dup X d_A_init_74 rfl ?_
  refine z_iload_n X 0 d_A_init_75 rfl rfl ?_
  refine z_Ic X hZ GG_ok ci1_A_29 ci2_K ci3_K ci4_K rfl ci5_K 25 [zI 4] [zR 25, zI 4, zR 8] (c_K_init l D cA ad19 eA_29 _ 25 4 rfl rfl (mAz_4 25 (by decide) 6) (mAz_4 _ (by decide)) (mAz_42 _) (mAz_4 _ (by decide)) (mAz_4 _ (by decide))) ⟨rfl, rfl⟩ (by decide) rfl rfl (Nat.le_of_ble_eq_true rfl) (by decide) (nE := 26) rfl rfl rfl d_A_init_76 (fun ad20 ha20 => ?_)
  refine z_E (E' := eA_30) rfl (z_cs (cells' := 28) (slots' := 216) rfl rfl ?_)
  refine z_astq X 8 25 rfl rfl rfl rfl 4 rfl (by decide) (by decide) d_A_init_79 (E' := eA_31) rfl ?_
  refine z_iinc X 0 (v := 5) (L' := [(1, zI 5), (0, zR 0)]) d_A_init_80 rfl rfl (by decide) rfl ?_
  refine z_goto X 60 d_A_init_83 (by decide) ?_
  refine z_iload_n X 0 d_A_init_60 rfl rfl ?_
  refine z_bipush X (v := 8) d_A_init_61 (by decide) ?_
  refine z_icmp_ge X 86 d_A_init_63 (by decide) (fun h => absurd h (by decide)) (fun _ => ?_)
  refine z_aload_n X 1 d_A_init_66 rfl rfl ?_
  refine z_get X fl_A_25 0 rfl rfl rfl d_A_init_67 ?_
  refine z_iload_n X 0 d_A_init_70 rfl rfl ?_
  refine z_new X nf_A_23 (n := 29) rfl (fun k => mAz_5 29 (by decide) k) (fun _ => mAz_52 29 _) rfl rfl rfl (by decide) (by decide) d_A_init_71 (fun ad21 ha21 => ?_)
  refine z_E (E' := eA_32) rfl (z_cs (cells' := 29) (slots' := 233) rfl rfl ?_)
  refine z_dup X d_A_init_74 rfl ?_
  refine z_iload_n X 0 d_A_init_75 rfl rfl ?_
  refine z_Ic X hZ GG_ok ci1_A_29 ci2_K ci3_K ci4_K rfl ci5_K 29 [zI 5] [zR 29, zI 5, zR 8] (c_K_init l D cA ad21 eA_32 _ 29 5 rfl rfl (mAz_5 29 (by decide) 6) (mAz_5 _ (by decide)) (mAz_52 _) (mAz_5 _ (by decide)) (mAz_5 _ (by decide))) ⟨rfl, rfl⟩ (by decide) rfl rfl (Nat.le_of_ble_eq_true rfl) (by decide) (nE := 30) rfl rfl rfl d_A_init_76 (fun ad22 ha22 => ?_)
  refine z_E (E' := eA_33) rfl (z_cs (cells' := 32) (slots' := 252) rfl rfl ?_)
  refine z_astq X 8 29 rfl rfl rfl rfl 5 rfl (by decide) (by decide) d_A_init_79 (E' := eA_34) rfl ?_
  refine z_iinc X 0 (v := 6) (L' := [(1, zI 6), (0, zR 0)]) d_A_init_80 rfl rfl (by decide) rfl ?_
  refine z_goto X 60 d_A_init_83 (by decide) ?_
  refine z_iload_n X 0 d_A_init_60 rfl rfl ?_
  refine z_bipush X (v := 8) d_A_init_61 (by decide) ?_
  refine z_icmp_ge X 86 d_A_init_63 (by decide) (fun h => absurd h (by decide)) (fun _ => ?_)
  refine z_aload_n X 1 d_A_init_66 rfl rfl ?_
  refine z_get X fl_A_25 0 rfl rfl rfl d_A_init_67 ?_
  refine z_iload_n X 0 d_A_init_70 rfl rfl ?_
  refine z_new X nf_A_23 (n := 33) rfl (fun k => mAz_6 33 (by decide) k) (fun _ => mAz_62 33 _) rfl rfl rfl (by decide) (by decide) d_A_init_71 (fun ad23 ha23 => ?_)
  refine z_E (E' := eA_35) rfl (z_cs (cells' := 33) (slots' := 269) rfl rfl ?_)
  refine z_dup X d_A_init_74 rfl ?_
  refine z_iload_n X 0 d_A_init_75 rfl rfl ?_
  refine z_Ic X hZ GG_ok ci1_A_29 ci2_K ci3_K ci4_K rfl ci5_K 33 [zI 6] [zR 33, zI 6, zR 8] (c_K_init l D cA ad23 eA_35 _ 33 6 rfl rfl (mAz_6 33 (by decide) 6) (mAz_6 _ (by decide)) (mAz_62 _) (mAz_6 _ (by decide)) (mAz_6 _ (by decide))) ⟨rfl, rfl⟩ (by decide) rfl rfl (Nat.le_of_ble_eq_true rfl) (by decide) (nE := 34) rfl rfl rfl d_A_init_76 (fun ad24 ha24 => ?_)
  refine z_E (E' := eA_36) rfl (z_cs (cells' := 36) (slots' := 288) rfl rfl ?_)
  refine z_astq X 8 33 rfl rfl rfl rfl 6 rfl (by decide) (by decide) d_A_init_79 (E' := eA_37) rfl ?_
  refine z_iinc X 0 (v := 7) (L' := [(1, zI 7), (0, zR 0)]) d_A_init_80 rfl rfl (by decide) rfl ?_
  refine z_goto X 60 d_A_init_83 (by decide) ?_
  refine z_iload_n X 0 d_A_init_60 rfl rfl ?_
  refine z_bipush X (v := 8) d_A_init_61 (by decide) ?_
  refine z_icmp_ge X 86 d_A_init_63 (by decide) (fun h => absurd h (by decide)) (fun _ => ?_)
  refine z_aload_n X 1 d_A_init_66 rfl rfl ?_
  refine z_get X fl_A_25 0 rfl rfl rfl d_A_init_67 ?_
  refine z_iload_n X 0 d_A_init_70 rfl rfl ?_
  refine z_new X nf_A_23 (n := 37) rfl (fun k => mAz_7 37 (by decide) k) (fun _ => mAz_72 37 _) rfl rfl rfl (by decide) (by decide) d_A_init_71 (fun ad25 ha25 => ?_)
  refine z_E (E' := eA_38) rfl (z_cs (cells' := 37) (slots' := 305) rfl rfl ?_)
  refine z_dup X d_A_init_74 rfl ?_
  refine z_iload_n X 0 d_A_init_75 rfl rfl ?_
  refine z_Ic X hZ GG_ok ci1_A_29 ci2_K ci3_K ci4_K rfl ci5_K 37 [zI 7] [zR 37, zI 7, zR 8] (c_K_init l D cA ad25 eA_38 _ 37 7 rfl rfl (mAz_7 37 (by decide) 6) (mAz_7 _ (by decide)) (mAz_72 _) (mAz_7 _ (by decide)) (mAz_7 _ (by decide))) ⟨rfl, rfl⟩ (by decide) rfl rfl (Nat.le_of_ble_eq_true rfl) (by decide) (nE := 38) rfl rfl rfl d_A_init_76 (fun ad26 ha26 => ?_)
  refine z_E (E' := eA_39) rfl (z_cs (cells' := 40) (slots' := 324) rfl rfl ?_)
  refine z_astq X 8 37 rfl rfl rfl rfl 7 rfl (by decide) (by decide) d_A_init_79 (E' := eA_40) rfl ?_
  refine z_iinc X 0 (v := 8) (L' := [(1, zI 8), (0, zR 0)]) d_A_init_80 rfl rfl (by decide) rfl ?_
  refine z_goto X 60 d_A_init_83 (by decide) ?_
  refine z_iload_n X 0 d_A_init_60 rfl rfl ?_
  refine z_bipush X (v := 8) d_A_init_61 (by decide) ?_
  refine z_icmp_ge X 86 d_A_init_63 (by decide) (fun _ => ?_) (fun h => absurd h (by decide))
  refine z_aload_n X 1 d_A_init_86 rfl rfl ?_
  refine z_iconst X (v := 4) d_A_init_87 (by decide) ?_
  refine z_newq X 3 (C := "WindowPlan$Port") rfl cl_A_32 hZ.1.2.2 (n := 41) (k := 4) rfl rfl rfl rfl (by decide) (by decide) (by decide) rfl d_A_init_88 (fun ad27 ha27 => ?_)
  refine z_E (E' := eA_41) rfl (z_cs (cells' := 41) (slots' := 328) rfl rfl ?_)
  refine z_putFr X hin fo_A_34 0 41 rfl (by decide) (fun _ => rfl) (fun _ => rfl) d_A_init_91 (E' := eA_42) rfl ?_
  refine z_iconst X (v := 0) d_A_init_94 (by decide) ?_
  refine z_istore_n X (L' := [(1, zI 0), (0, zR 0)]) d_A_init_95 rfl (by decide) rfl ?_
  refine z_iload_n X 0 d_A_init_96 rfl rfl ?_
  refine z_iconst X (v := 4) d_A_init_97 (by decide) ?_
  refine z_icmp_ge X 120 d_A_init_98 (by decide) (fun h => absurd h (by decide)) (fun _ => ?_)
  refine z_aload_n X 1 d_A_init_101 rfl rfl ?_
  refine z_get X fl_A_34 0 rfl rfl rfl d_A_init_102 ?_
  refine z_iload_n X 0 d_A_init_105 rfl rfl ?_
  refine z_new X nf_A_32 (n := 42) rfl (fun k => mAz_8 42 (by decide) k) (fun _ => mAz_82 42 _) rfl rfl rfl (by decide) (by decide) d_A_init_106 (fun ad28 ha28 => ?_)
  refine z_E (E' := eA_43) rfl (z_cs (cells' := 42) (slots' := 330) rfl rfl ?_)
  refine z_dup X d_A_init_109 rfl ?_
  refine z_IcN X hZ GG_ok hZ.2.2.2.1 ci2_O ci3_O ci4_O rfl ci5_O 42 [] [zR 42, zI 0, zR 41] (c_O_init l D cA ad28 eA_43 _ 42 rfl rfl (mAz_8 _ (by decide))) ⟨rfl, rfl⟩ (by decide) rfl rfl (Nat.le_of_ble_eq_true rfl) (by decide) (nE := 43) rfl rfl rfl d_A_init_110 (fun ad29 ha29 => ?_)
  refine z_E (E' := eA_44) rfl (z_cs (cells' := 43) (slots' := 334) rfl rfl ?_)
  refine z_astq X 41 42 rfl rfl rfl rfl 0 rfl (by decide) (by decide) d_A_init_113 (E' := eA_45) rfl ?_
  refine z_iinc X 0 (v := 1) (L' := [(1, zI 1), (0, zR 0)]) d_A_init_114 rfl rfl (by decide) rfl ?_
  refine z_goto X 96 d_A_init_117 (by decide) ?_
  refine z_iload_n X 0 d_A_init_96 rfl rfl ?_
  refine z_iconst X (v := 4) d_A_init_97 (by decide) ?_
  refine z_icmp_ge X 120 d_A_init_98 (by decide) (fun h => absurd h (by decide)) (fun _ => ?_)
  refine z_aload_n X 1 d_A_init_101 rfl rfl ?_
  refine z_get X fl_A_34 0 rfl rfl rfl d_A_init_102 ?_
  refine z_iload_n X 0 d_A_init_105 rfl rfl ?_
  refine z_new X nf_A_32 (n := 44) rfl (fun k => mAz_8 44 (by decide) k) (fun _ => mAz_82 44 _) rfl rfl rfl (by decide) (by decide) d_A_init_106 (fun ad30 ha30 => ?_)
  refine z_E (E' := eA_46) rfl (z_cs (cells' := 44) (slots' := 336) rfl rfl ?_)
  refine z_dup X d_A_init_109 rfl ?_
  refine z_IcN X hZ GG_ok hZ.2.2.2.1 ci2_O ci3_O ci4_O rfl ci5_O 44 [] [zR 44, zI 1, zR 41] (c_O_init l D cA ad30 eA_46 _ 44 rfl rfl (mAz_8 _ (by decide))) ⟨rfl, rfl⟩ (by decide) rfl rfl (Nat.le_of_ble_eq_true rfl) (by decide) (nE := 45) rfl rfl rfl d_A_init_110 (fun ad31 ha31 => ?_)
  refine z_E (E' := eA_47) rfl (z_cs (cells' := 45) (slots' := 340) rfl rfl ?_)
  refine z_astq X 41 44 rfl rfl rfl rfl 1 rfl (by decide) (by decide) d_A_init_113 (E' := eA_48) rfl ?_
  refine z_iinc X 0 (v := 2) (L' := [(1, zI 2), (0, zR 0)]) d_A_init_114 rfl rfl (by decide) rfl ?_
  refine z_goto X 96 d_A_init_117 (by decide) ?_
  refine z_iload_n X 0 d_A_init_96 rfl rfl ?_
  refine z_iconst X (v := 4) d_A_init_97 (by decide) ?_
  refine z_icmp_ge X 120 d_A_init_98 (by decide) (fun h => absurd h (by decide)) (fun _ => ?_)
  refine z_aload_n X 1 d_A_init_101 rfl rfl ?_
  refine z_get X fl_A_34 0 rfl rfl rfl d_A_init_102 ?_
  refine z_iload_n X 0 d_A_init_105 rfl rfl ?_
  refine z_new X nf_A_32 (n := 46) rfl (fun k => mAz_8 46 (by decide) k) (fun _ => mAz_82 46 _) rfl rfl rfl (by decide) (by decide) d_A_init_106 (fun ad32 ha32 => ?_)
  refine z_E (E' := eA_49) rfl (z_cs (cells' := 46) (slots' := 342) rfl rfl ?_)
  refine z_dup X d_A_init_109 rfl ?_
  refine z_IcN X hZ GG_ok hZ.2.2.2.1 ci2_O ci3_O ci4_O rfl ci5_O 46 [] [zR 46, zI 2, zR 41] (c_O_init l D cA ad32 eA_49 _ 46 rfl rfl (mAz_8 _ (by decide))) ⟨rfl, rfl⟩ (by decide) rfl rfl (Nat.le_of_ble_eq_true rfl) (by decide) (nE := 47) rfl rfl rfl d_A_init_110 (fun ad33 ha33 => ?_)
  refine z_E (E' := eA_50) rfl (z_cs (cells' := 47) (slots' := 346) rfl rfl ?_)
  refine z_astq X 41 46 rfl rfl rfl rfl 2 rfl (by decide) (by decide) d_A_init_113 (E' := eA_51) rfl ?_
  refine z_iinc X 0 (v := 3) (L' := [(1, zI 3), (0, zR 0)]) d_A_init_114 rfl rfl (by decide) rfl ?_
  refine z_goto X 96 d_A_init_117 (by decide) ?_
  refine z_iload_n X 0 d_A_init_96 rfl rfl ?_
  refine z_iconst X (v := 4) d_A_init_97 (by decide) ?_
  refine z_icmp_ge X 120 d_A_init_98 (by decide) (fun h => absurd h (by decide)) (fun _ => ?_)
  refine z_aload_n X 1 d_A_init_101 rfl rfl ?_
  refine z_get X fl_A_34 0 rfl rfl rfl d_A_init_102 ?_
  refine z_iload_n X 0 d_A_init_105 rfl rfl ?_
  refine z_new X nf_A_32 (n := 48) rfl (fun k => mAz_8 48 (by decide) k) (fun _ => mAz_82 48 _) rfl rfl rfl (by decide) (by decide) d_A_init_106 (fun ad34 ha34 => ?_)
  refine z_E (E' := eA_52) rfl (z_cs (cells' := 48) (slots' := 348) rfl rfl ?_)
  refine z_dup X d_A_init_109 rfl ?_
  refine z_IcN X hZ GG_ok hZ.2.2.2.1 ci2_O ci3_O ci4_O rfl ci5_O 48 [] [zR 48, zI 3, zR 41] (c_O_init l D cA ad34 eA_52 _ 48 rfl rfl (mAz_8 _ (by decide))) ⟨rfl, rfl⟩ (by decide) rfl rfl (Nat.le_of_ble_eq_true rfl) (by decide) (nE := 49) rfl rfl rfl d_A_init_110 (fun ad35 ha35 => ?_)
  refine z_E (E' := eA_53) rfl (z_cs (cells' := 49) (slots' := 352) rfl rfl ?_)
  refine z_astq X 41 48 rfl rfl rfl rfl 3 rfl (by decide) (by decide) d_A_init_113 (E' := eA_54) rfl ?_
  refine z_iinc X 0 (v := 4) (L' := [(1, zI 4), (0, zR 0)]) d_A_init_114 rfl rfl (by decide) rfl ?_
  refine z_goto X 96 d_A_init_117 (by decide) ?_
  refine z_iload_n X 0 d_A_init_96 rfl rfl ?_
  refine z_iconst X (v := 4) d_A_init_97 (by decide) ?_
  refine z_icmp_ge X 120 d_A_init_98 (by decide) (fun _ => ?_) (fun h => absurd h (by decide))
  refine z_aload_n X 1 d_A_init_120 rfl rfl ?_
  refine z_iconst X (v := 4) d_A_init_121 (by decide) ?_
  refine z_newa X 0 rfl arr_ok (n := 50) (k := 4) rfl (fun k => mAz_8 50 (by decide) k) rfl rfl rfl (by decide) (by decide) (by decide) rfl d_A_init_122 (fun ad36 ha36 => ?_)
  refine z_E (E' := eA_55) rfl (z_cs (cells' := 50) (slots' := 356) rfl rfl ?_)
  refine z_putFr X hin fo_A_39 0 50 rfl (by decide) (fun _ => rfl) (fun _ => rfl) d_A_init_124 (E' := eA_56) rfl ?_
  exact z_cretM X (fun q hq => ((ha36 q (Nat.lt_of_lt_of_le hq (by decide))).trans ((ha35 q (Nat.lt_of_lt_of_le hq (by decide))).trans ((ha34 q (Nat.lt_of_lt_of_le hq (by decide))).trans ((ha33 q (Nat.lt_of_lt_of_le hq (by decide))).trans ((ha32 q (Nat.lt_of_lt_of_le hq (by decide))).trans ((ha31 q (Nat.lt_of_lt_of_le hq (by decide))).trans ((ha30 q (Nat.lt_of_lt_of_le hq (by decide))).trans ((ha29 q (Nat.lt_of_lt_of_le hq (by decide))).trans ((ha28 q (Nat.lt_of_lt_of_le hq (by decide))).trans ((ha27 q (Nat.lt_of_lt_of_le hq (by decide))).trans ((ha26 q (Nat.lt_of_lt_of_le hq (by decide))).trans ((ha25 q (Nat.lt_of_lt_of_le hq (by decide))).trans ((ha24 q (Nat.lt_of_lt_of_le hq (by decide))).trans ((ha23 q (Nat.lt_of_lt_of_le hq (by decide))).trans ((ha22 q (Nat.lt_of_lt_of_le hq (by decide))).trans ((ha21 q (Nat.lt_of_lt_of_le hq (by decide))).trans ((ha20 q (Nat.lt_of_lt_of_le hq (by decide))).trans ((ha19 q (Nat.lt_of_lt_of_le hq (by decide))).trans ((ha18 q (Nat.lt_of_lt_of_le hq (by decide))).trans ((ha17 q (Nat.lt_of_lt_of_le hq (by decide))).trans ((ha16 q (Nat.lt_of_lt_of_le hq (by decide))).trans ((ha15 q (Nat.lt_of_lt_of_le hq (by decide))).trans ((ha14 q (Nat.lt_of_lt_of_le hq (by decide))).trans ((ha13 q (Nat.lt_of_lt_of_le hq (by decide))).trans ((ha12 q (Nat.lt_of_lt_of_le hq (by decide))).trans ((ha11 q (Nat.lt_of_lt_of_le hq (by decide))).trans ((ha10 q (Nat.lt_of_lt_of_le hq (by decide))).trans ((ha9 q (Nat.lt_of_lt_of_le hq (by decide))).trans ((ha8 q (Nat.lt_of_lt_of_le hq (by decide))).trans ((ha7 q (Nat.lt_of_lt_of_le hq (by decide))).trans ((ha6 q (Nat.lt_of_lt_of_le hq (by decide))).trans ((ha5 q (Nat.lt_of_lt_of_le hq (by decide))).trans ((ha4 q (Nat.lt_of_lt_of_le hq (by decide))).trans ((ha3 q (Nat.lt_of_lt_of_le hq (by decide))).trans ((ha2 q (Nat.lt_of_lt_of_le hq (by decide))).trans (ha1 q (Nat.lt_of_lt_of_le hq (by decide))))))))))))))))))))))))))))))))))))))) rfl rfl d_A_init_127
