def eB_0 : List zC := eA_56 ++ [ob 6 [kn, kn, ki, kn, kn, ki, kn, kn, kn, kn, kn, kn, kn, kn, kn, kn, kn, kn, kn, kn, kn, kn, kn, kn, ki, kn, kn, kn, ki, ki, ki]]
def eB_1 : List zC := eA_56 ++ [ob 6 [kn, kn, ki, kn, kn, ki, kn, kn, kn, kn, kn, kn, kn, kn, kn, kn, kn, kn, kn, kn, kn, kn, kn, kn, ki, kn, kn, kn, ki, ki, ki], ia 8]
def eB_2 : List zC := eA_56 ++ [ob 6 [kr 52, kn, ki, kn, kn, ki, kn, kn, kn, kn, kn, kn, kn, kn, kn, kn, kn, kn, kn, kn, kn, kn, kn, kn, ki, kn, kn, kn, ki, ki, ki], ia 8]
def eB_3 : List zC := eA_56 ++ [ob 6 [kr 52, kn, ki, kn, kn, ki, kn, kn, kn, kn, kn, kn, kn, kn, kn, kn, kn, kn, kn, kn, kn, kn, kn, kn, ki, kn, kn, kn, ki, ki, ki], ia 8, ia 8]
def eB_4 : List zC := eA_56 ++ [ob 6 [kr 52, kr 53, ki, kn, kn, ki, kn, kn, kn, kn, kn, kn, kn, kn, kn, kn, kn, kn, kn, kn, kn, kn, kn, kn, ki, kn, kn, kn, ki, ki, ki], ia 8, ia 8]
def eB_5 : List zC := eA_56 ++ [ob 6 [kr 52, kr 53, ki, kn, kn, ki, kn, kn, kn, kn, kn, kn, kn, kn, kn, kn, kn, kn, kn, kn, kn, kn, kn, kn, ki, kn, kn, kn, ki, ki, ki], ia 8, ia 8, ia 3]
def eB_6 : List zC := eA_56 ++ [ob 6 [kr 52, kr 53, ki, kr 54, kn, ki, kn, kn, kn, kn, kn, kn, kn, kn, kn, kn, kn, kn, kn, kn, kn, kn, kn, kn, ki, kn, kn, kn, ki, ki, ki], ia 8, ia 8, ia 3]
def eB_7 : List zC := eA_56 ++ [ob 6 [kr 52, kr 53, ki, kr 54, kn, ki, kn, kn, kn, kn, kn, kn, kn, kn, kn, kn, kn, kn, kn, kn, kn, kn, kn, kn, ki, kn, kn, kn, ki, ki, ki], ia 8, ia 8, ia 3, ia 3]
def eB_8 : List zC := eA_56 ++ [ob 6 [kr 52, kr 53, ki, kr 54, kr 55, ki, kn, kn, kn, kn, kn, kn, kn, kn, kn, kn, kn, kn, kn, kn, kn, kn, kn, kn, ki, kn, kn, kn, ki, ki, ki], ia 8, ia 8, ia 3, ia 3]
def eB_9 : List zC := eA_56 ++ [ob 6 [kr 52, kr 53, ki, kr 54, kr 55, ki, kn, kn, kn, kn, kn, kn, kn, kn, kn, kn, kn, kn, kn, kn, kn, kn, kn, kn, ki, kn, kn, kn, ki, ki, ki], ia 8, ia 8, ia 3, ia 3, ia 8]
def eB_10 : List zC := eA_56 ++ [ob 6 [kr 52, kr 53, ki, kr 54, kr 55, ki, kr 56, kn, kn, kn, kn, kn, kn, kn, kn, kn, kn, kn, kn, kn, kn, kn, kn, kn, ki, kn, kn, kn, ki, ki, ki], ia 8, ia 8, ia 3, ia 3, ia 8]
def eB_11 : List zC := eA_56 ++ [ob 6 [kr 52, kr 53, ki, kr 54, kr 55, ki, kr 56, kn, kn, kn, kn, kn, kn, kn, kn, kn, kn, kn, kn, kn, kn, kn, kn, kn, ki, kn, kn, kn, ki, ki, ki], ia 8, ia 8, ia 3, ia 3, ia 8, ia 8]
def eB_12 : List zC := eA_56 ++ [ob 6 [kr 52, kr 53, ki, kr 54, kr 55, ki, kr 56, kr 57, kn, kn, kn, kn, kn, kn, kn, kn, kn, kn, kn, kn, kn, kn, kn, kn, ki, kn, kn, kn, ki, ki, ki], ia 8, ia 8, ia 3, ia 3, ia 8, ia 8]
def eB_13 : List zC := eA_56 ++ [ob 6 [kr 52, kr 53, ki, kr 54, kr 55, ki, kr 56, kr 57, kn, kn, kn, kn, kn, kn, kn, kn, kn, kn, kn, kn, kn, kn, kn, kn, ki, kn, kn, kn, ki, ki, ki], ia 8, ia 8, ia 3, ia 3, ia 8, ia 8, ia 8]
def eB_14 : List zC := eA_56 ++ [ob 6 [kr 52, kr 53, ki, kr 54, kr 55, ki, kr 56, kr 57, kr 58, kn, kn, kn, kn, kn, kn, kn, kn, kn, kn, kn, kn, kn, kn, kn, ki, kn, kn, kn, ki, ki, ki], ia 8, ia 8, ia 3, ia 3, ia 8, ia 8, ia 8]
def eB_15 : List zC := eA_56 ++ [ob 6 [kr 52, kr 53, ki, kr 54, kr 55, ki, kr 56, kr 57, kr 58, kn, kn, kn, kn, kn, kn, kn, kn, kn, kn, kn, kn, kn, kn, kn, ki, kn, kn, kn, ki, ki, ki], ia 8, ia 8, ia 3, ia 3, ia 8, ia 8, ia 8, ia 8]
def eB_16 : List zC := eA_56 ++ [ob 6 [kr 52, kr 53, ki, kr 54, kr 55, ki, kr 56, kr 57, kr 58, kr 59, kn, kn, kn, kn, kn, kn, kn, kn, kn, kn, kn, kn, kn, kn, ki, kn, kn, kn, ki, ki, ki], ia 8, ia 8, ia 3, ia 3, ia 8, ia 8, ia 8, ia 8]
def eB_17 : List zC := eA_56 ++ [ob 6 [kr 52, kr 53, ki, kr 54, kr 55, ki, kr 56, kr 57, kr 58, kr 59, kn, kn, kn, kn, kn, kn, kn, kn, kn, kn, kn, kn, kn, kn, ki, kn, kn, kn, ki, ki, ki], ia 8, ia 8, ia 3, ia 3, ia 8, ia 8, ia 8, ia 8, ia 8]
def eB_18 : List zC := eA_56 ++ [ob 6 [kr 52, kr 53, ki, kr 54, kr 55, ki, kr 56, kr 57, kr 58, kr 59, kr 60, kn, kn, kn, kn, kn, kn, kn, kn, kn, kn, kn, kn, kn, ki, kn, kn, kn, ki, ki, ki], ia 8, ia 8, ia 3, ia 3, ia 8, ia 8, ia 8, ia 8, ia 8]
def eB_19 : List zC := eA_56 ++ [ob 6 [kr 52, kr 53, ki, kr 54, kr 55, ki, kr 56, kr 57, kr 58, kr 59, kr 60, kn, kn, kn, kn, kn, kn, kn, kn, kn, kn, kn, kn, kn, ki, kn, kn, kn, ki, ki, ki], ia 8, ia 8, ia 3, ia 3, ia 8, ia 8, ia 8, ia 8, ia 8, ia 64]
def eB_20 : List zC := eA_56 ++ [ob 6 [kr 52, kr 53, ki, kr 54, kr 55, ki, kr 56, kr 57, kr 58, kr 59, kr 60, kr 61, kn, kn, kn, kn, kn, kn, kn, kn, kn, kn, kn, kn, ki, kn, kn, kn, ki, ki, ki], ia 8, ia 8, ia 3, ia 3, ia 8, ia 8, ia 8, ia 8, ia 8, ia 64]
def eB_21 : List zC := eA_56 ++ [ob 6 [kr 52, kr 53, ki, kr 54, kr 55, ki, kr 56, kr 57, kr 58, kr 59, kr 60, kr 61, kn, kn, kn, kn, kn, kn, kn, kn, kn, kn, kn, kn, ki, kn, kn, kn, ki, ki, ki], ia 8, ia 8, ia 3, ia 3, ia 8, ia 8, ia 8, ia 8, ia 8, ia 64, ia 64]
def eB_22 : List zC := eA_56 ++ [ob 6 [kr 52, kr 53, ki, kr 54, kr 55, ki, kr 56, kr 57, kr 58, kr 59, kr 60, kr 61, kr 62, kn, kn, kn, kn, kn, kn, kn, kn, kn, kn, kn, ki, kn, kn, kn, ki, ki, ki], ia 8, ia 8, ia 3, ia 3, ia 8, ia 8, ia 8, ia 8, ia 8, ia 64, ia 64]
def eB_23 : List zC := eA_56 ++ [ob 6 [kr 52, kr 53, ki, kr 54, kr 55, ki, kr 56, kr 57, kr 58, kr 59, kr 60, kr 61, kr 62, kn, kn, kn, kn, kn, kn, kn, kn, kn, kn, kn, ki, kn, kn, kn, ki, ki, ki], ia 8, ia 8, ia 3, ia 3, ia 8, ia 8, ia 8, ia 8, ia 8, ia 64, ia 64, ia 8]
def eB_24 : List zC := eA_56 ++ [ob 6 [kr 52, kr 53, ki, kr 54, kr 55, ki, kr 56, kr 57, kr 58, kr 59, kr 60, kr 61, kr 62, kr 63, kn, kn, kn, kn, kn, kn, kn, kn, kn, kn, ki, kn, kn, kn, ki, ki, ki], ia 8, ia 8, ia 3, ia 3, ia 8, ia 8, ia 8, ia 8, ia 8, ia 64, ia 64, ia 8]
def eB_25 : List zC := eA_56 ++ [ob 6 [kr 52, kr 53, ki, kr 54, kr 55, ki, kr 56, kr 57, kr 58, kr 59, kr 60, kr 61, kr 62, kr 63, kn, kn, kn, kn, kn, kn, kn, kn, kn, kn, ki, kn, kn, kn, ki, ki, ki], ia 8, ia 8, ia 3, ia 3, ia 8, ia 8, ia 8, ia 8, ia 8, ia 64, ia 64, ia 8, ia 8]
def eB_26 : List zC := eA_56 ++ [ob 6 [kr 52, kr 53, ki, kr 54, kr 55, ki, kr 56, kr 57, kr 58, kr 59, kr 60, kr 61, kr 62, kr 63, kr 64, kn, kn, kn, kn, kn, kn, kn, kn, kn, ki, kn, kn, kn, ki, ki, ki], ia 8, ia 8, ia 3, ia 3, ia 8, ia 8, ia 8, ia 8, ia 8, ia 64, ia 64, ia 8, ia 8]
def eB_27 : List zC := eA_56 ++ [ob 6 [kr 52, kr 53, ki, kr 54, kr 55, ki, kr 56, kr 57, kr 58, kr 59, kr 60, kr 61, kr 62, kr 63, kr 64, kn, kn, kn, kn, kn, kn, kn, kn, kn, ki, kn, kn, kn, ki, ki, ki], ia 8, ia 8, ia 3, ia 3, ia 8, ia 8, ia 8, ia 8, ia 8, ia 64, ia 64, ia 8, ia 8, ia 8]
def eB_28 : List zC := eA_56 ++ [ob 6 [kr 52, kr 53, ki, kr 54, kr 55, ki, kr 56, kr 57, kr 58, kr 59, kr 60, kr 61, kr 62, kr 63, kr 64, kr 65, kn, kn, kn, kn, kn, kn, kn, kn, ki, kn, kn, kn, ki, ki, ki], ia 8, ia 8, ia 3, ia 3, ia 8, ia 8, ia 8, ia 8, ia 8, ia 64, ia 64, ia 8, ia 8, ia 8]
def eB_29 : List zC := eA_56 ++ [ob 6 [kr 52, kr 53, ki, kr 54, kr 55, ki, kr 56, kr 57, kr 58, kr 59, kr 60, kr 61, kr 62, kr 63, kr 64, kr 65, kn, kn, kn, kn, kn, kn, kn, kn, ki, kn, kn, kn, ki, ki, ki], ia 8, ia 8, ia 3, ia 3, ia 8, ia 8, ia 8, ia 8, ia 8, ia 64, ia 64, ia 8, ia 8, ia 8, ia 8]
def eB_30 : List zC := eA_56 ++ [ob 6 [kr 52, kr 53, ki, kr 54, kr 55, ki, kr 56, kr 57, kr 58, kr 59, kr 60, kr 61, kr 62, kr 63, kr 64, kr 65, kr 66, kn, kn, kn, kn, kn, kn, kn, ki, kn, kn, kn, ki, ki, ki], ia 8, ia 8, ia 3, ia 3, ia 8, ia 8, ia 8, ia 8, ia 8, ia 64, ia 64, ia 8, ia 8, ia 8, ia 8]
def eB_31 : List zC := eA_56 ++ [ob 6 [kr 52, kr 53, ki, kr 54, kr 55, ki, kr 56, kr 57, kr 58, kr 59, kr 60, kr 61, kr 62, kr 63, kr 64, kr 65, kr 66, kn, kn, kn, kn, kn, kn, kn, ki, kn, kn, kn, ki, ki, ki], ia 8, ia 8, ia 3, ia 3, ia 8, ia 8, ia 8, ia 8, ia 8, ia 64, ia 64, ia 8, ia 8, ia 8, ia 8, ia 8]
def eB_32 : List zC := eA_56 ++ [ob 6 [kr 52, kr 53, ki, kr 54, kr 55, ki, kr 56, kr 57, kr 58, kr 59, kr 60, kr 61, kr 62, kr 63, kr 64, kr 65, kr 66, kr 67, kn, kn, kn, kn, kn, kn, ki, kn, kn, kn, ki, ki, ki], ia 8, ia 8, ia 3, ia 3, ia 8, ia 8, ia 8, ia 8, ia 8, ia 64, ia 64, ia 8, ia 8, ia 8, ia 8, ia 8]
def eB_33 : List zC := eA_56 ++ [ob 6 [kr 52, kr 53, ki, kr 54, kr 55, ki, kr 56, kr 57, kr 58, kr 59, kr 60, kr 61, kr 62, kr 63, kr 64, kr 65, kr 66, kr 67, kn, kn, kn, kn, kn, kn, ki, kn, kn, kn, ki, ki, ki], ia 8, ia 8, ia 3, ia 3, ia 8, ia 8, ia 8, ia 8, ia 8, ia 64, ia 64, ia 8, ia 8, ia 8, ia 8, ia 8, ia 8]
def eB_34 : List zC := eA_56 ++ [ob 6 [kr 52, kr 53, ki, kr 54, kr 55, ki, kr 56, kr 57, kr 58, kr 59, kr 60, kr 61, kr 62, kr 63, kr 64, kr 65, kr 66, kr 67, kr 68, kn, kn, kn, kn, kn, ki, kn, kn, kn, ki, ki, ki], ia 8, ia 8, ia 3, ia 3, ia 8, ia 8, ia 8, ia 8, ia 8, ia 64, ia 64, ia 8, ia 8, ia 8, ia 8, ia 8, ia 8]
def eB_35 : List zC := eA_56 ++ [ob 6 [kr 52, kr 53, ki, kr 54, kr 55, ki, kr 56, kr 57, kr 58, kr 59, kr 60, kr 61, kr 62, kr 63, kr 64, kr 65, kr 66, kr 67, kr 68, kn, kn, kn, kn, kn, ki, kn, kn, kn, ki, ki, ki], ia 8, ia 8, ia 3, ia 3, ia 8, ia 8, ia 8, ia 8, ia 8, ia 64, ia 64, ia 8, ia 8, ia 8, ia 8, ia 8, ia 8, ia 8]
def eB_36 : List zC := eA_56 ++ [ob 6 [kr 52, kr 53, ki, kr 54, kr 55, ki, kr 56, kr 57, kr 58, kr 59, kr 60, kr 61, kr 62, kr 63, kr 64, kr 65, kr 66, kr 67, kr 68, kr 69, kn, kn, kn, kn, ki, kn, kn, kn, ki, ki, ki], ia 8, ia 8, ia 3, ia 3, ia 8, ia 8, ia 8, ia 8, ia 8, ia 64, ia 64, ia 8, ia 8, ia 8, ia 8, ia 8, ia 8, ia 8]
def eB_37 : List zC := eA_56 ++ [ob 6 [kr 52, kr 53, ki, kr 54, kr 55, ki, kr 56, kr 57, kr 58, kr 59, kr 60, kr 61, kr 62, kr 63, kr 64, kr 65, kr 66, kr 67, kr 68, kr 69, kn, kn, kn, kn, ki, kn, kn, kn, ki, ki, ki], ia 8, ia 8, ia 3, ia 3, ia 8, ia 8, ia 8, ia 8, ia 8, ia 64, ia 64, ia 8, ia 8, ia 8, ia 8, ia 8, ia 8, ia 8, ia 8]
def eB_38 : List zC := eA_56 ++ [ob 6 [kr 52, kr 53, ki, kr 54, kr 55, ki, kr 56, kr 57, kr 58, kr 59, kr 60, kr 61, kr 62, kr 63, kr 64, kr 65, kr 66, kr 67, kr 68, kr 69, kr 70, kn, kn, kn, ki, kn, kn, kn, ki, ki, ki], ia 8, ia 8, ia 3, ia 3, ia 8, ia 8, ia 8, ia 8, ia 8, ia 64, ia 64, ia 8, ia 8, ia 8, ia 8, ia 8, ia 8, ia 8, ia 8]
def eB_39 : List zC := eA_56 ++ [ob 6 [kr 52, kr 53, ki, kr 54, kr 55, ki, kr 56, kr 57, kr 58, kr 59, kr 60, kr 61, kr 62, kr 63, kr 64, kr 65, kr 66, kr 67, kr 68, kr 69, kr 70, kn, kn, kn, ki, kn, kn, kn, ki, ki, ki], ia 8, ia 8, ia 3, ia 3, ia 8, ia 8, ia 8, ia 8, ia 8, ia 64, ia 64, ia 8, ia 8, ia 8, ia 8, ia 8, ia 8, ia 8, ia 8, ia 8]
def eB_40 : List zC := eA_56 ++ [ob 6 [kr 52, kr 53, ki, kr 54, kr 55, ki, kr 56, kr 57, kr 58, kr 59, kr 60, kr 61, kr 62, kr 63, kr 64, kr 65, kr 66, kr 67, kr 68, kr 69, kr 70, kr 71, kn, kn, ki, kn, kn, kn, ki, ki, ki], ia 8, ia 8, ia 3, ia 3, ia 8, ia 8, ia 8, ia 8, ia 8, ia 64, ia 64, ia 8, ia 8, ia 8, ia 8, ia 8, ia 8, ia 8, ia 8, ia 8]
def eB_41 : List zC := eA_56 ++ [ob 6 [kr 52, kr 53, ki, kr 54, kr 55, ki, kr 56, kr 57, kr 58, kr 59, kr 60, kr 61, kr 62, kr 63, kr 64, kr 65, kr 66, kr 67, kr 68, kr 69, kr 70, kr 71, kn, kn, ki, kn, kn, kn, ki, ki, ki], ia 8, ia 8, ia 3, ia 3, ia 8, ia 8, ia 8, ia 8, ia 8, ia 64, ia 64, ia 8, ia 8, ia 8, ia 8, ia 8, ia 8, ia 8, ia 8, ia 8, ia 8]
def eB_42 : List zC := eA_56 ++ [ob 6 [kr 52, kr 53, ki, kr 54, kr 55, ki, kr 56, kr 57, kr 58, kr 59, kr 60, kr 61, kr 62, kr 63, kr 64, kr 65, kr 66, kr 67, kr 68, kr 69, kr 70, kr 71, kr 72, kn, ki, kn, kn, kn, ki, ki, ki], ia 8, ia 8, ia 3, ia 3, ia 8, ia 8, ia 8, ia 8, ia 8, ia 64, ia 64, ia 8, ia 8, ia 8, ia 8, ia 8, ia 8, ia 8, ia 8, ia 8, ia 8]
def eB_43 : List zC := eA_56 ++ [ob 6 [kr 52, kr 53, ki, kr 54, kr 55, ki, kr 56, kr 57, kr 58, kr 59, kr 60, kr 61, kr 62, kr 63, kr 64, kr 65, kr 66, kr 67, kr 68, kr 69, kr 70, kr 71, kr 72, kn, ki, kn, kn, kn, ki, ki, ki], ia 8, ia 8, ia 3, ia 3, ia 8, ia 8, ia 8, ia 8, ia 8, ia 64, ia 64, ia 8, ia 8, ia 8, ia 8, ia 8, ia 8, ia 8, ia 8, ia 8, ia 8, ia 8]
def eB_44 : List zC := eA_56 ++ [ob 6 [kr 52, kr 53, ki, kr 54, kr 55, ki, kr 56, kr 57, kr 58, kr 59, kr 60, kr 61, kr 62, kr 63, kr 64, kr 65, kr 66, kr 67, kr 68, kr 69, kr 70, kr 71, kr 72, kr 73, ki, kn, kn, kn, ki, ki, ki], ia 8, ia 8, ia 3, ia 3, ia 8, ia 8, ia 8, ia 8, ia 8, ia 64, ia 64, ia 8, ia 8, ia 8, ia 8, ia 8, ia 8, ia 8, ia 8, ia 8, ia 8, ia 8]
def eB_45 : List zC := eA_56 ++ [ob 6 [kr 52, kr 53, ki, kr 54, kr 55, ki, kr 56, kr 57, kr 58, kr 59, kr 60, kr 61, kr 62, kr 63, kr 64, kr 65, kr 66, kr 67, kr 68, kr 69, kr 70, kr 71, kr 72, kr 73, ki, kn, kn, kn, ki, ki, ki], ia 8, ia 8, ia 3, ia 3, ia 8, ia 8, ia 8, ia 8, ia 8, ia 64, ia 64, ia 8, ia 8, ia 8, ia 8, ia 8, ia 8, ia 8, ia 8, ia 8, ia 8, ia 8, ia 16]
def eB_46 : List zC := eA_56 ++ [ob 6 [kr 52, kr 53, ki, kr 54, kr 55, ki, kr 56, kr 57, kr 58, kr 59, kr 60, kr 61, kr 62, kr 63, kr 64, kr 65, kr 66, kr 67, kr 68, kr 69, kr 70, kr 71, kr 72, kr 73, ki, kr 74, kn, kn, ki, ki, ki], ia 8, ia 8, ia 3, ia 3, ia 8, ia 8, ia 8, ia 8, ia 8, ia 64, ia 64, ia 8, ia 8, ia 8, ia 8, ia 8, ia 8, ia 8, ia 8, ia 8, ia 8, ia 8, ia 16]
def eB_47 : List zC := eA_56 ++ [ob 6 [kr 52, kr 53, ki, kr 54, kr 55, ki, kr 56, kr 57, kr 58, kr 59, kr 60, kr 61, kr 62, kr 63, kr 64, kr 65, kr 66, kr 67, kr 68, kr 69, kr 70, kr 71, kr 72, kr 73, ki, kr 74, kn, kn, ki, ki, ki], ia 8, ia 8, ia 3, ia 3, ia 8, ia 8, ia 8, ia 8, ia 8, ia 64, ia 64, ia 8, ia 8, ia 8, ia 8, ia 8, ia 8, ia 8, ia 8, ia 8, ia 8, ia 8, ia 16, ia 4]
def eB_48 : List zC := eA_56 ++ [ob 6 [kr 52, kr 53, ki, kr 54, kr 55, ki, kr 56, kr 57, kr 58, kr 59, kr 60, kr 61, kr 62, kr 63, kr 64, kr 65, kr 66, kr 67, kr 68, kr 69, kr 70, kr 71, kr 72, kr 73, ki, kr 74, kr 75, kn, ki, ki, ki], ia 8, ia 8, ia 3, ia 3, ia 8, ia 8, ia 8, ia 8, ia 8, ia 64, ia 64, ia 8, ia 8, ia 8, ia 8, ia 8, ia 8, ia 8, ia 8, ia 8, ia 8, ia 8, ia 16, ia 4]
def eB_49 : List zC := eA_56 ++ [ob 6 [kr 52, kr 53, ki, kr 54, kr 55, ki, kr 56, kr 57, kr 58, kr 59, kr 60, kr 61, kr 62, kr 63, kr 64, kr 65, kr 66, kr 67, kr 68, kr 69, kr 70, kr 71, kr 72, kr 73, ki, kr 74, kr 75, kn, ki, ki, ki], ia 8, ia 8, ia 3, ia 3, ia 8, ia 8, ia 8, ia 8, ia 8, ia 64, ia 64, ia 8, ia 8, ia 8, ia 8, ia 8, ia 8, ia 8, ia 8, ia 8, ia 8, ia 8, ia 16, ia 4, ia 4]
def eB_50 : List zC := eA_56 ++ [ob 6 [kr 52, kr 53, ki, kr 54, kr 55, ki, kr 56, kr 57, kr 58, kr 59, kr 60, kr 61, kr 62, kr 63, kr 64, kr 65, kr 66, kr 67, kr 68, kr 69, kr 70, kr 71, kr 72, kr 73, ki, kr 74, kr 75, kr 76, ki, ki, ki], ia 8, ia 8, ia 3, ia 3, ia 8, ia 8, ia 8, ia 8, ia 8, ia 64, ia 64, ia 8, ia 8, ia 8, ia 8, ia 8, ia 8, ia 8, ia 8, ia 8, ia 8, ia 8, ia 16, ia 4, ia 4]
theorem eB_EE : eB_50 = EE := rfl
set_option maxHeartbeats 16000000 in
set_option maxRecDepth 100000 in
theorem c_B_init (l : Launch) (D : va_G) (cA : Nat → ClassId) (ad : Nat → Nat) : Cc l D cA ad eB_0 y_B_init b_B_init 1 (zq 1 25 302 60) [zR 51] mA_8 EE mA_8 25 302 := by
  refine zMc_of (plainFor_of_name (by decide)) rfl (Nat.le_of_ble_eq_true rfl) ?_
  intro p e s m args below meth c A X hin hZ
  refine z_aload_n X 0 d_B_init_0 rfl rfl ?_
  refine z_objI X ob_B ob_2 ob_3 (by decide) (Nat.le_of_ble_eq_true rfl) d_B_init_1 ?_
  refine z_aload_n X 0 d_B_init_4 rfl rfl ?_
  refine z_bipush X (v := 8) d_B_init_5 (by decide) ?_
  refine z_newa X 0 rfl arr_ok (n := 52) (k := 8) rfl (fun k => mAz_8 52 (by decide) k) rfl rfl rfl (by decide) (by decide) (by decide) rfl d_B_init_7 (fun ad1 ha1 => ?_)
  refine z_E (E' := eB_1) rfl (z_cs (cells' := 1) (slots' := 8) rfl rfl ?_)
  refine z_putFr X hin fo_B_7 51 52 rfl (by decide) (fun _ => rfl) (fun _ => rfl) d_B_init_9 (E' := eB_2) rfl ?_
  refine z_aload_n X 0 d_B_init_12 rfl rfl ?_
  refine z_bipush X (v := 8) d_B_init_13 (by decide) ?_
  refine z_newa X 0 rfl arr_ok (n := 53) (k := 8) rfl (fun k => mAz_8 53 (by decide) k) rfl rfl rfl (by decide) (by decide) (by decide) rfl d_B_init_15 (fun ad2 ha2 => ?_)
  refine z_E (E' := eB_3) rfl (z_cs (cells' := 2) (slots' := 16) rfl rfl ?_)
  refine z_putFr X hin fo_B_13 51 53 rfl (by decide) (fun _ => rfl) (fun _ => rfl) d_B_init_17 (E' := eB_4) rfl ?_
  refine z_aload_n X 0 d_B_init_20 rfl rfl ?_
  refine z_iconst X (v := 3) d_B_init_21 (by decide) ?_
  refine z_newa X 0 rfl arr_ok (n := 54) (k := 3) rfl (fun k => mAz_8 54 (by decide) k) rfl rfl rfl (by decide) (by decide) (by decide) rfl d_B_init_22 (fun ad3 ha3 => ?_)
  refine z_E (E' := eB_5) rfl (z_cs (cells' := 3) (slots' := 19) rfl rfl ?_)
  refine z_putFr X hin fo_B_16 51 54 rfl (by decide) (fun _ => rfl) (fun _ => rfl) d_B_init_24 (E' := eB_6) rfl ?_
  refine z_aload_n X 0 d_B_init_27 rfl rfl ?_
  refine z_iconst X (v := 3) d_B_init_28 (by decide) ?_
  refine z_newa X 0 rfl arr_ok (n := 55) (k := 3) rfl (fun k => mAz_8 55 (by decide) k) rfl rfl rfl (by decide) (by decide) (by decide) rfl d_B_init_29 (fun ad4 ha4 => ?_)
  refine z_E (E' := eB_7) rfl (z_cs (cells' := 4) (slots' := 22) rfl rfl ?_)
  refine z_putFr X hin fo_B_19 51 55 rfl (by decide) (fun _ => rfl) (fun _ => rfl) d_B_init_31 (E' := eB_8) rfl ?_
  refine z_aload_n X 0 d_B_init_34 rfl rfl ?_
  refine z_bipush X (v := 8) d_B_init_35 (by decide) ?_
  refine z_newa X 0 rfl arr_ok (n := 56) (k := 8) rfl (fun k => mAz_8 56 (by decide) k) rfl rfl rfl (by decide) (by decide) (by decide) rfl d_B_init_37 (fun ad5 ha5 => ?_)
  refine z_E (E' := eB_9) rfl (z_cs (cells' := 5) (slots' := 30) rfl rfl ?_)
  refine z_putFr X hin fo_B_22 51 56 rfl (by decide) (fun _ => rfl) (fun _ => rfl) d_B_init_39 (E' := eB_10) rfl ?_
  refine z_aload_n X 0 d_B_init_42 rfl rfl ?_
  refine z_bipush X (v := 8) d_B_init_43 (by decide) ?_
  refine z_newa X 0 rfl arr_ok (n := 57) (k := 8) rfl (fun k => mAz_8 57 (by decide) k) rfl rfl rfl (by decide) (by decide) (by decide) rfl d_B_init_45 (fun ad6 ha6 => ?_)
  refine z_E (E' := eB_11) rfl (z_cs (cells' := 6) (slots' := 38) rfl rfl ?_)
  refine z_putFr X hin fo_B_25 51 57 rfl (by decide) (fun _ => rfl) (fun _ => rfl) d_B_init_47 (E' := eB_12) rfl ?_
  refine z_aload_n X 0 d_B_init_50 rfl rfl ?_
  refine z_bipush X (v := 8) d_B_init_51 (by decide) ?_
  refine z_newa X 0 rfl arr_ok (n := 58) (k := 8) rfl (fun k => mAz_8 58 (by decide) k) rfl rfl rfl (by decide) (by decide) (by decide) rfl d_B_init_53 (fun ad7 ha7 => ?_)
  refine z_E (E' := eB_13) rfl (z_cs (cells' := 7) (slots' := 46) rfl rfl ?_)
  refine z_putFr X hin fo_B_28 51 58 rfl (by decide) (fun _ => rfl) (fun _ => rfl) d_B_init_55 (E' := eB_14) rfl ?_
  refine z_aload_n X 0 d_B_init_58 rfl rfl ?_
  refine z_bipush X (v := 8) d_B_init_59 (by decide) ?_
  refine z_newa X 0 rfl arr_ok (n := 59) (k := 8) rfl (fun k => mAz_8 59 (by decide) k) rfl rfl rfl (by decide) (by decide) (by decide) rfl d_B_init_61 (fun ad8 ha8 => ?_)
  refine z_E (E' := eB_15) rfl (z_cs (cells' := 8) (slots' := 54) rfl rfl ?_)
  refine z_putFr X hin fo_B_31 51 59 rfl (by decide) (fun _ => rfl) (fun _ => rfl) d_B_init_63 (E' := eB_16) rfl ?_
  refine z_aload_n X 0 d_B_init_66 rfl rfl ?_
  refine z_bipush X (v := 8) d_B_init_67 (by decide) ?_
  refine z_newa X 0 rfl arr_ok (n := 60) (k := 8) rfl (fun k => mAz_8 60 (by decide) k) rfl rfl rfl (by decide) (by decide) (by decide) rfl d_B_init_69 (fun ad9 ha9 => ?_)
  refine z_E (E' := eB_17) rfl (z_cs (cells' := 9) (slots' := 62) rfl rfl ?_)
  refine z_putFr X hin fo_B_34 51 60 rfl (by decide) (fun _ => rfl) (fun _ => rfl) d_B_init_71 (E' := eB_18) rfl ?_
  refine z_aload_n X 0 d_B_init_74 rfl rfl ?_
  refine z_bipush X (v := 64) d_B_init_75 (by decide) ?_
  refine z_newa X 0 rfl arr_ok (n := 61) (k := 64) rfl (fun k => mAz_8 61 (by decide) k) rfl rfl rfl (by decide) (by decide) (by decide) rfl d_B_init_77 (fun ad10 ha10 => ?_)
  refine z_E (E' := eB_19) rfl (z_cs (cells' := 10) (slots' := 126) rfl rfl ?_)
  refine z_putFr X hin fo_B_37 51 61 rfl (by decide) (fun _ => rfl) (fun _ => rfl) d_B_init_79 (E' := eB_20) rfl ?_
  refine z_aload_n X 0 d_B_init_82 rfl rfl ?_
  refine z_bipush X (v := 64) d_B_init_83 (by decide) ?_
  refine z_newa X 0 rfl arr_ok (n := 62) (k := 64) rfl (fun k => mAz_8 62 (by decide) k) rfl rfl rfl (by decide) (by decide) (by decide) rfl d_B_init_85 (fun ad11 ha11 => ?_)
  refine z_E (E' := eB_21) rfl (z_cs (cells' := 11) (slots' := 190) rfl rfl ?_)
  refine z_putFr X hin fo_B_40 51 62 rfl (by decide) (fun _ => rfl) (fun _ => rfl) d_B_init_87 (E' := eB_22) rfl ?_
  refine z_aload_n X 0 d_B_init_90 rfl rfl ?_
  refine z_bipush X (v := 8) d_B_init_91 (by decide) ?_
  refine z_newa X 0 rfl arr_ok (n := 63) (k := 8) rfl (fun k => mAz_8 63 (by decide) k) rfl rfl rfl (by decide) (by decide) (by decide) rfl d_B_init_93 (fun ad12 ha12 => ?_)
  refine z_E (E' := eB_23) rfl (z_cs (cells' := 12) (slots' := 198) rfl rfl ?_)
  refine z_putFr X hin fo_B_43 51 63 rfl (by decide) (fun _ => rfl) (fun _ => rfl) d_B_init_95 (E' := eB_24) rfl ?_
  refine z_aload_n X 0 d_B_init_98 rfl rfl ?_
  refine z_bipush X (v := 8) d_B_init_99 (by decide) ?_
  refine z_newa X 0 rfl arr_ok (n := 64) (k := 8) rfl (fun k => mAz_8 64 (by decide) k) rfl rfl rfl (by decide) (by decide) (by decide) rfl d_B_init_101 (fun ad13 ha13 => ?_)
  refine z_E (E' := eB_25) rfl (z_cs (cells' := 13) (slots' := 206) rfl rfl ?_)
  refine z_putFr X hin fo_B_46 51 64 rfl (by decide) (fun _ => rfl) (fun _ => rfl) d_B_init_103 (E' := eB_26) rfl ?_
  refine z_aload_n X 0 d_B_init_106 rfl rfl ?_
  refine z_bipush X (v := 8) d_B_init_107 (by decide) ?_
  refine z_newa X 0 rfl arr_ok (n := 65) (k := 8) rfl (fun k => mAz_8 65 (by decide) k) rfl rfl rfl (by decide) (by decide) (by decide) rfl d_B_init_109 (fun ad14 ha14 => ?_)
  refine z_E (E' := eB_27) rfl (z_cs (cells' := 14) (slots' := 214) rfl rfl ?_)
  refine z_putFr X hin fo_B_49 51 65 rfl (by decide) (fun _ => rfl) (fun _ => rfl) d_B_init_111 (E' := eB_28) rfl ?_
  refine z_aload_n X 0 d_B_init_114 rfl rfl ?_
  refine z_bipush X (v := 8) d_B_init_115 (by decide) ?_
  refine z_newa X 0 rfl arr_ok (n := 66) (k := 8) rfl (fun k => mAz_8 66 (by decide) k) rfl rfl rfl (by decide) (by decide) (by decide) rfl d_B_init_117 (fun ad15 ha15 => ?_)
  refine z_E (E' := eB_29) rfl (z_cs (cells' := 15) (slots' := 222) rfl rfl ?_)
  refine z_putFr X hin fo_B_52 51 66 rfl (by decide) (fun _ => rfl) (fun _ => rfl) d_B_init_119 (E' := eB_30) rfl ?_
  refine z_aload_n X 0 d_B_init_122 rfl rfl ?_
  refine z_bipush X (v := 8) d_B_init_123 (by decide) ?_
  refine z_newa X 0 rfl arr_ok (n := 67) (k := 8) rfl (fun k => mAz_8 67 (by decide) k) rfl rfl rfl (by decide) (by decide) (by decide) rfl d_B_init_125 (fun ad16 ha16 => ?_)
  refine z_E (E' := eB_31) rfl (z_cs (cells' := 16) (slots' := 230) rfl rfl ?_)
  refine z_putFr X hin fo_B_55 51 67 rfl (by decide) (fun _ => rfl) (fun _ => rfl) d_B_init_127 (E' := eB_32) rfl ?_
  refine z_aload_n X 0 d_B_init_130 rfl rfl ?_
  refine z_bipush X (v := 8) d_B_init_131 (by decide) ?_
  refine z_newa X 0 rfl arr_ok (n := 68) (k := 8) rfl (fun k => mAz_8 68 (by decide) k) rfl rfl rfl (by decide) (by decide) (by decide) rfl d_B_init_133 (fun ad17 ha17 => ?_)
  refine z_E (E' := eB_33) rfl (z_cs (cells' := 17) (slots' := 238) rfl rfl ?_)
  refine z_putFr X hin fo_B_58 51 68 rfl (by decide) (fun _ => rfl) (fun _ => rfl) d_B_init_135 (E' := eB_34) rfl ?_
  refine z_aload_n X 0 d_B_init_138 rfl rfl ?_
  refine z_bipush X (v := 8) d_B_init_139 (by decide) ?_
  refine z_newa X 0 rfl arr_ok (n := 69) (k := 8) rfl (fun k => mAz_8 69 (by decide) k) rfl rfl rfl (by decide) (by decide) (by decide) rfl d_B_init_141 (fun ad18 ha18 => ?_)
  refine z_E (E' := eB_35) rfl (z_cs (cells' := 18) (slots' := 246) rfl rfl ?_)
  refine z_putFr X hin fo_B_61 51 69 rfl (by decide) (fun _ => rfl) (fun _ => rfl) d_B_init_143 (E' := eB_36) rfl ?_
  refine z_aload_n X 0 d_B_init_146 rfl rfl ?_
  refine z_bipush X (v := 8) d_B_init_147 (by decide) ?_
  refine z_newa X 0 rfl arr_ok (n := 70) (k := 8) rfl (fun k => mAz_8 70 (by decide) k) rfl rfl rfl (by decide) (by decide) (by decide) rfl d_B_init_149 (fun ad19 ha19 => ?_)
  refine z_E (E' := eB_37) rfl (z_cs (cells' := 19) (slots' := 254) rfl rfl ?_)
  refine z_putFr X hin fo_B_64 51 70 rfl (by decide) (fun _ => rfl) (fun _ => rfl) d_B_init_151 (E' := eB_38) rfl ?_
  refine z_aload_n X 0 d_B_init_154 rfl rfl ?_
  refine z_bipush X (v := 8) d_B_init_155 (by decide) ?_
  refine z_newa X 0 rfl arr_ok (n := 71) (k := 8) rfl (fun k => mAz_8 71 (by decide) k) rfl rfl rfl (by decide) (by decide) (by decide) rfl d_B_init_157 (fun ad20 ha20 => ?_)
  refine z_E (E' := eB_39) rfl (z_cs (cells' := 20) (slots' := 262) rfl rfl ?_)
  refine z_putFr X hin fo_B_67 51 71 rfl (by decide) (fun _ => rfl) (fun _ => rfl) d_B_init_159 (E' := eB_40) rfl ?_
  refine z_aload_n X 0 d_B_init_162 rfl rfl ?_
  refine z_bipush X (v := 8) d_B_init_163 (by decide) ?_
  refine z_newa X 0 rfl arr_ok (n := 72) (k := 8) rfl (fun k => mAz_8 72 (by decide) k) rfl rfl rfl (by decide) (by decide) (by decide) rfl d_B_init_165 (fun ad21 ha21 => ?_)
  refine z_E (E' := eB_41) rfl (z_cs (cells' := 21) (slots' := 270) rfl rfl ?_)
  refine z_putFr X hin fo_B_70 51 72 rfl (by decide) (fun _ => rfl) (fun _ => rfl) d_B_init_167 (E' := eB_42) rfl ?_
  refine z_aload_n X 0 d_B_init_170 rfl rfl ?_
  refine z_bipush X (v := 8) d_B_init_171 (by decide) ?_
  refine z_newa X 0 rfl arr_ok (n := 73) (k := 8) rfl (fun k => mAz_8 73 (by decide) k) rfl rfl rfl (by decide) (by decide) (by decide) rfl d_B_init_173 (fun ad22 ha22 => ?_)
  refine z_E (E' := eB_43) rfl (z_cs (cells' := 22) (slots' := 278) rfl rfl ?_)
  refine z_putFr X hin fo_B_73 51 73 rfl (by decide) (fun _ => rfl) (fun _ => rfl) d_B_init_175 (E' := eB_44) rfl ?_
  refine z_aload_n X 0 d_B_init_178 rfl rfl ?_
  refine z_bipush X (v := 16) d_B_init_179 (by decide) ?_
  refine z_newa X 0 rfl arr_ok (n := 74) (k := 16) rfl (fun k => mAz_8 74 (by decide) k) rfl rfl rfl (by decide) (by decide) (by decide) rfl d_B_init_181 (fun ad23 ha23 => ?_)
  refine z_E (E' := eB_45) rfl (z_cs (cells' := 23) (slots' := 294) rfl rfl ?_)
  refine z_putFr X hin fo_B_76 51 74 rfl (by decide) (fun _ => rfl) (fun _ => rfl) d_B_init_183 (E' := eB_46) rfl ?_
  refine z_aload_n X 0 d_B_init_186 rfl rfl ?_
  refine z_iconst X (v := 4) d_B_init_187 (by decide) ?_
  refine z_newa X 0 rfl arr_ok (n := 75) (k := 4) rfl (fun k => mAz_8 75 (by decide) k) rfl rfl rfl (by decide) (by decide) (by decide) rfl d_B_init_188 (fun ad24 ha24 => ?_)
  refine z_E (E' := eB_47) rfl (z_cs (cells' := 24) (slots' := 298) rfl rfl ?_)
  refine z_putFr X hin fo_B_79 51 75 rfl (by decide) (fun _ => rfl) (fun _ => rfl) d_B_init_190 (E' := eB_48) rfl ?_
  refine z_aload_n X 0 d_B_init_193 rfl rfl ?_
  refine z_iconst X (v := 4) d_B_init_194 (by decide) ?_
  refine z_newa X 0 rfl arr_ok (n := 76) (k := 4) rfl (fun k => mAz_8 76 (by decide) k) rfl rfl rfl (by decide) (by decide) (by decide) rfl d_B_init_195 (fun ad25 ha25 => ?_)
  refine z_E (E' := eB_49) rfl (z_cs (cells' := 25) (slots' := 302) rfl rfl ?_)
  refine z_putFr X hin fo_B_82 51 76 rfl (by decide) (fun _ => rfl) (fun _ => rfl) d_B_init_197 (E' := eB_50) rfl ?_
  exact z_cretM X (fun q hq => ((ha25 q (Nat.lt_of_lt_of_le hq (by decide))).trans ((ha24 q (Nat.lt_of_lt_of_le hq (by decide))).trans ((ha23 q (Nat.lt_of_lt_of_le hq (by decide))).trans ((ha22 q (Nat.lt_of_lt_of_le hq (by decide))).trans ((ha21 q (Nat.lt_of_lt_of_le hq (by decide))).trans ((ha20 q (Nat.lt_of_lt_of_le hq (by decide))).trans ((ha19 q (Nat.lt_of_lt_of_le hq (by decide))).trans ((ha18 q (Nat.lt_of_lt_of_le hq (by decide))).trans ((ha17 q (Nat.lt_of_lt_of_le hq (by decide))).trans ((ha16 q (Nat.lt_of_lt_of_le hq (by decide))).trans ((ha15 q (Nat.lt_of_lt_of_le hq (by decide))).trans ((ha14 q (Nat.lt_of_lt_of_le hq (by decide))).trans ((ha13 q (Nat.lt_of_lt_of_le hq (by decide))).trans ((ha12 q (Nat.lt_of_lt_of_le hq (by decide))).trans ((ha11 q (Nat.lt_of_lt_of_le hq (by decide))).trans ((ha10 q (Nat.lt_of_lt_of_le hq (by decide))).trans ((ha9 q (Nat.lt_of_lt_of_le hq (by decide))).trans ((ha8 q (Nat.lt_of_lt_of_le hq (by decide))).trans ((ha7 q (Nat.lt_of_lt_of_le hq (by decide))).trans ((ha6 q (Nat.lt_of_lt_of_le hq (by decide))).trans ((ha5 q (Nat.lt_of_lt_of_le hq (by decide))).trans ((ha4 q (Nat.lt_of_lt_of_le hq (by decide))).trans ((ha3 q (Nat.lt_of_lt_of_le hq (by decide))).trans ((ha2 q (Nat.lt_of_lt_of_le hq (by decide))).trans (ha1 q (Nat.lt_of_lt_of_le hq (by decide)))))))))))))))))))))))))))) rfl rfl d_B_init_200
