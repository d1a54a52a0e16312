/-! a call begins the code -/
theorem r_0 (d : Nat) (h : x_H) (a : Nat) : x_R x_P (d + 1) 0 [.ref a] h = x_E x_P d x_c0 0 [.ref a] [] h := rfl
theorem r_1 (d : Nat) (h : x_H) (a : Nat) : x_R x_P (d + 1) 1 [.ref a] h = x_E x_P d x_c1 0 [.ref a] [] h := rfl
theorem r_2 (d : Nat) (h : x_H) (a : Nat) : x_R x_P (d + 1) 2 [.ref a] h = x_E x_P d x_c2 0 [.ref a] [] h := rfl
theorem r_3 (d : Nat) (h : x_H) (a : Nat) (b : Int32) (c : Int32) : x_R x_P (d + 1) 3 [.ref a, .int b, .int c] h = x_E x_P d x_c3 0 [.ref a, .int b, .int c] [] h := rfl
theorem r_4 (d : Nat) (h : x_H) (a : Nat) : x_R x_P (d + 1) 4 [.ref a] h = x_E x_P d x_c4 0 [.ref a] [] h := rfl
theorem r_5 (d : Nat) (h : x_H) (a : Nat) (b : Nat) : x_R x_P (d + 1) 5 [.ref a, .ref b] h = x_E x_P d x_c5 0 [.ref a, .ref b, x_j] [] h := rfl
theorem r_6 (d : Nat) (h : x_H) (a : Nat) : x_R x_P (d + 1) 6 [.ref a] h = x_E x_P d x_c6 0 [.ref a] [] h := rfl
theorem r_7 (d : Nat) (h : x_H) (a : Nat) (b : Nat) : x_R x_P (d + 1) 7 [.ref a, .ref b] h = x_E x_P d x_c7 0 [.ref a, .ref b, x_j, x_j] [] h := rfl
theorem r_8 (d : Nat) (h : x_H) (a : Nat) : x_R x_P (d + 1) 8 [.ref a] h = x_E x_P d x_c8 0 [.ref a, x_j, x_j] [] h := rfl
theorem r_9 (d : Nat) (h : x_H) (a : Nat) (b : Nat) (c : Int32) : x_R x_P (d + 1) 9 [.ref a, .ref b, .int c] h = x_E x_P d x_c9 0 [.ref a, .ref b, .int c] [] h := rfl
theorem r_10 (d : Nat) (h : x_H) (a : Nat) (b : Nat) (c : Int32) (e : Int32) : x_R x_P (d + 1) 10 [.ref a, .ref b, .int c, .int e] h = x_E x_P d x_c10 0 [.ref a, .ref b, .int c, .int e, x_j, x_j, x_j, x_j] [] h := rfl
theorem r_11 (d : Nat) (h : x_H) (a : Nat) (b : Nat) (c : Int32) (e : Int32) : x_R x_P (d + 1) 11 [.ref a, .ref b, .int c, .int e] h = x_E x_P d x_c11 0 [.ref a, .ref b, .int c, .int e, x_j, x_j] [] h := rfl
theorem r_12 (d : Nat) (h : x_H) (a : Nat) (b : Nat) (c : Int32) : x_R x_P (d + 1) 12 [.ref a, .ref b, .int c] h = x_E x_P d x_c12 0 [.ref a, .ref b, .int c, x_j] [] h := rfl
theorem r_13 (d : Nat) (h : x_H) (a : Nat) (b : Nat) (c : Int32) : x_R x_P (d + 1) 13 [.ref a, .ref b, .int c] h = x_E x_P d x_c13 0 [.ref a, .ref b, .int c, x_j] [] h := rfl
theorem r_14 (d : Nat) (h : x_H) (a : Nat) : x_R x_P (d + 1) 14 [.ref a] h = x_E x_P d x_c14 0 [.ref a] [] h := rfl
theorem r_15 (d : Nat) (h : x_H) (a : Nat) (b : Nat) (c : Nat) : x_R x_P (d + 1) 15 [.ref a, .ref b, .ref c] h = x_E x_P d x_c15 0 [.ref a, .ref b, .ref c, x_j] [] h := rfl
theorem r_16 (d : Nat) (h : x_H) (a : Nat) : x_R x_P (d + 1) 16 [.ref a] h = x_E x_P d x_c16 0 [.ref a] [] h := rfl
theorem r_17 (d : Nat) (h : x_H) (a : Nat) (b : Nat) (c : Nat) (e : Int32) (f : Int32) : x_R x_P (d + 1) 17 [.ref a, .ref b, .ref c, .int e, .int f] h = x_E x_P d x_c17 0 [.ref a, .ref b, .ref c, .int e, .int f, x_j, x_j, x_j, x_j] [] h := rfl
theorem r_18 (d : Nat) (h : x_H) (a : Nat) (b : Int32) (c : Int32) : x_R x_P (d + 1) 18 [.ref a, .int b, .int c] h = x_E x_P d x_c18 0 [.ref a, .int b, .int c, x_j] [] h := rfl
theorem r_19 (d : Nat) (h : x_H) (a : Nat) : x_R x_P (d + 1) 19 [.ref a] h = x_E x_P d x_c19 0 [.ref a] [] h := rfl
theorem r_20 (d : Nat) (h : x_H) (a : Nat) (b : Nat) (c : Int32) : x_R x_P (d + 1) 20 [.ref a, .ref b, .int c] h = x_E x_P d x_c20 0 [.ref a, .ref b, .int c, x_j] [] h := rfl
theorem r_21 (d : Nat) (h : x_H) (a : Nat) (b : Nat) (c : Int32) : x_R x_P (d + 1) 21 [.ref a, .ref b, .int c] h = x_E x_P d x_c21 0 [.ref a, .ref b, .int c, x_j, x_j, x_j] [] h := rfl
theorem r_22 (d : Nat) (h : x_H) (a : Nat) (b : Nat) (c : Int32) : x_R x_P (d + 1) 22 [.ref a, .ref b, .int c] h = x_E x_P d x_c22 0 [.ref a, .ref b, .int c, x_j, x_j] [] h := rfl
theorem r_23 (d : Nat) (h : x_H) (a : Nat) (b : Nat) (c : Int32) : x_R x_P (d + 1) 23 [.ref a, .ref b, .int c] h = x_E x_P d x_c23 0 [.ref a, .ref b, .int c, x_j, x_j, x_j, x_j, x_j, x_j] [] h := rfl
theorem r_24 (d : Nat) (h : x_H) (a : Nat) (b : Int32) : x_R x_P (d + 1) 24 [.ref a, .int b] h = x_E x_P d x_c24 0 [.ref a, .int b] [] h := rfl
theorem r_25 (d : Nat) (h : x_H) (a : Nat) (b : Int32) (c : Int32) (e : Int32) : x_R x_P (d + 1) 25 [.ref a, .int b, .int c, .int e] h = x_E x_P d x_c25 0 [.ref a, .int b, .int c, .int e] [] h := rfl
theorem r_26 (d : Nat) (h : x_H) (a : Nat) : x_R x_P (d + 1) 26 [.ref a] h = x_E x_P d x_c26 0 [.ref a] [] h := rfl
theorem r_27 (d : Nat) (h : x_H) (a : Nat) : x_R x_P (d + 1) 27 [.ref a] h = x_E x_P d x_c27 0 [.ref a] [] h := rfl
theorem r_28 (d : Nat) (h : x_H) (a : Nat) : x_R x_P (d + 1) 28 [.ref a] h = x_E x_P d x_c28 0 [.ref a] [] h := rfl
theorem r_29 (d : Nat) (h : x_H) (a : Nat) (b : Int32) (c : Int32) (e : Int32) : x_R x_P (d + 1) 29 [.ref a, .int b, .int c, .int e] h = x_E x_P d x_c29 0 [.ref a, .int b, .int c, .int e] [] h := rfl
theorem r_30 (d : Nat) (h : x_H) (a : Nat) : x_R x_P (d + 1) 30 [.ref a] h = x_E x_P d x_c30 0 [.ref a] [] h := rfl
theorem r_31 (d : Nat) (h : x_H) (a : Nat) (b : Int32) : x_R x_P (d + 1) 31 [.ref a, .int b] h = x_E x_P d x_c31 0 [.ref a, .int b, x_j] [] h := rfl
theorem r_32 (d : Nat) (h : x_H) (a : Nat) : x_R x_P (d + 1) 32 [.ref a] h = x_E x_P d x_c32 0 [.ref a] [] h := rfl
theorem r_33 (d : Nat) (h : x_H) (a : Nat) : x_R x_P (d + 1) 33 [.ref a] h = x_E x_P d x_c33 0 [.ref a] [] h := rfl
theorem r_34 (d : Nat) (h : x_H) (a : Nat) : x_R x_P (d + 1) 34 [.ref a] h = x_E x_P d x_c34 0 [.ref a] [] h := rfl
theorem r_35 (d : Nat) (h : x_H) (a : Nat) (b : Nat) : x_R x_P (d + 1) 35 [.ref a, .ref b] h = x_E x_P d x_c35 0 [.ref a, .ref b] [] h := rfl
theorem r_36 (d : Nat) (h : x_H) (a : Nat) (b : Nat) : x_R x_P (d + 1) 36 [.ref a, .ref b] h = x_E x_P d x_c36 0 [.ref a, .ref b] [] h := rfl
theorem r_37 (d : Nat) (h : x_H) (a : Nat) : x_R x_P (d + 1) 37 [.ref a] h = x_E x_P d x_c37 0 [.ref a] [] h := rfl
theorem r_38 (d : Nat) (h : x_H) (a : Nat) (b : Nat) : x_R x_P (d + 1) 38 [.ref a, .ref b] h = x_E x_P d x_c38 0 [.ref a, .ref b, x_j] [] h := rfl
theorem r_39 (d : Nat) (h : x_H) (a : Nat) (b : Nat) : x_R x_P (d + 1) 39 [.ref a, .ref b] h = x_E x_P d x_c39 0 [.ref a, .ref b, x_j] [] h := rfl
theorem r_40 (d : Nat) (h : x_H) (a : Nat) (b : Int32) : x_R x_P (d + 1) 40 [.ref a, .int b] h = x_E x_P d x_c40 0 [.ref a, .int b] [] h := rfl
theorem r_41 (d : Nat) (h : x_H) (a : Nat) (b : Nat) : x_R x_P (d + 1) 41 [.ref a, .ref b] h = x_E x_P d x_c41 0 [.ref a, .ref b] [] h := rfl
theorem r_42 (d : Nat) (h : x_H) (a : Nat) (b : Nat) : x_R x_P (d + 1) 42 [.ref a, .ref b] h = x_E x_P d x_c42 0 [.ref a, .ref b] [] h := rfl
theorem r_43 (d : Nat) (h : x_H) (a : Nat) (b : Nat) : x_R x_P (d + 1) 43 [.ref a, .ref b] h = x_E x_P d x_c43 0 [.ref a, .ref b, x_j] [] h := rfl
theorem r_44 (d : Nat) (h : x_H) (a : Nat) (b : Nat) : x_R x_P (d + 1) 44 [.ref a, .ref b] h = x_E x_P d x_c44 0 [.ref a, .ref b, x_j, x_j, x_j, x_j, x_j] [] h := rfl
theorem r_45 (d : Nat) (h : x_H) (a : Nat) (b : Nat) (c : Nat) (e : Nat) (f : Int32) : x_R x_P (d + 1) 45 [.ref a, .ref b, .ref c, .ref e, .int f] h = x_E x_P d x_c45 0 [.ref a, .ref b, .ref c, .ref e, .int f, x_j, x_j] [] h := rfl
theorem r_46 (d : Nat) (h : x_H) (a : Nat) (b : Int32) (c : Int32) : x_R x_P (d + 1) 46 [.ref a, .int b, .int c] h = x_E x_P d x_c46 0 [.ref a, .int b, .int c, x_j, x_j] [] h := rfl
theorem r_47 (d : Nat) (h : x_H) (a : Nat) : x_R x_P (d + 1) 47 [.ref a] h = x_E x_P d x_c47 0 [.ref a] [] h := rfl
theorem r_48 (d : Nat) (h : x_H) (a : Nat) : x_R x_P (d + 1) 48 [.ref a] h = x_E x_P d x_c48 0 [.ref a] [] h := rfl
theorem r_49 (d : Nat) (h : x_H) (a : Int32) : x_R x_P (d + 1) 49 [.int a] h = x_E x_P d x_c49 0 [.int a] [] h := rfl
theorem r_50 (d : Nat) (h : x_H) (a : Nat) (b : Int32) (c : Int32) : x_R x_P (d + 1) 50 [.ref a, .int b, .int c] h = x_E x_P d x_c50 0 [.ref a, .int b, .int c] [] h := rfl
theorem r_51 (d : Nat) (h : x_H) (a : Nat) (b : Int32) : x_R x_P (d + 1) 51 [.ref a, .int b] h = x_E x_P d x_c51 0 [.ref a, .int b] [] h := rfl
theorem r_52 (d : Nat) (h : x_H) (a : Nat) : x_R x_P (d + 1) 52 [.ref a] h = x_E x_P d x_c52 0 [.ref a] [] h := rfl
theorem r_53 (d : Nat) (h : x_H) (a : Nat) : x_R x_P (d + 1) 53 [.ref a] h = x_E x_P d x_c53 0 [.ref a] [] h := rfl
theorem r_54 (d : Nat) (h : x_H) (a : Nat) (b : Int32) : x_R x_P (d + 1) 54 [.ref a, .int b] h = x_E x_P d x_c54 0 [.ref a, .int b] [] h := rfl
theorem r_55 (d : Nat) (h : x_H) (a : Nat) (b : Int32) : x_R x_P (d + 1) 55 [.ref a, .int b] h = x_E x_P d x_c55 0 [.ref a, .int b] [] h := rfl
theorem r_56 (d : Nat) (h : x_H) (a : Nat) (b : Int32) (c : Int32) : x_R x_P (d + 1) 56 [.ref a, .int b, .int c] h = x_E x_P d x_c56 0 [.ref a, .int b, .int c] [] h := rfl
theorem r_57 (d : Nat) (h : x_H) (a : Nat) (b : Int32) : x_R x_P (d + 1) 57 [.ref a, .int b] h = x_E x_P d x_c57 0 [.ref a, .int b] [] h := rfl
theorem r_58 (d : Nat) (h : x_H) (a : Nat) : x_R x_P (d + 1) 58 [.ref a] h = x_E x_P d x_c58 0 [.ref a] [] h := rfl
theorem r_59 (d : Nat) (h : x_H) (a : Nat) (b : Int32) : x_R x_P (d + 1) 59 [.ref a, .int b] h = x_E x_P d x_c59 0 [.ref a, .int b, x_j] [] h := rfl
theorem r_60 (d : Nat) (h : x_H) (a : Nat) : x_R x_P (d + 1) 60 [.ref a] h = x_E x_P d x_c60 0 [.ref a] [] h := rfl
theorem r_61 (d : Nat) (h : x_H) (a : Nat) : x_R x_P (d + 1) 61 [.ref a] h = x_E x_P d x_c61 0 [.ref a] [] h := rfl
theorem r_62 (d : Nat) (h : x_H) (a : Nat) (b : Int32) (c : Int32) : x_R x_P (d + 1) 62 [.ref a, .int b, .int c] h = x_E x_P d x_c62 0 [.ref a, .int b, .int c, x_j] [] h := rfl
theorem r_63 (d : Nat) (h : x_H) (a : Nat) (b : Int32) (c : Int32) : x_R x_P (d + 1) 63 [.ref a, .int b, .int c] h = x_E x_P d x_c63 0 [.ref a, .int b, .int c] [] h := rfl
theorem r_64 (d : Nat) (h : x_H) (a : Nat) (b : Int32) : x_R x_P (d + 1) 64 [.ref a, .int b] h = x_E x_P d x_c64 0 [.ref a, .int b] [] h := rfl
theorem r_65 (d : Nat) (h : x_H) (a : Nat) : x_R x_P (d + 1) 65 [.ref a] h = x_E x_P d x_c65 0 [.ref a] [] h := rfl
theorem r_66 (d : Nat) (h : x_H) (a : Nat) (b : Nat) (c : Int32) (e : Int32) (f : Int32) : x_R x_P (d + 1) 66 [.ref a, .ref b, .int c, .int e, .int f] h = x_E x_P d x_c66 0 [.ref a, .ref b, .int c, .int e, .int f] [] h := rfl
theorem r_67 (d : Nat) (h : x_H) (a : Nat) (b : Nat) (c : Int32) (e : Int32) (f : Int32) (g : Int32) : x_R x_P (d + 1) 67 [.ref a, .ref b, .int c, .int e, .int f, .int g] h = x_E x_P d x_c67 0 [.ref a, .ref b, .int c, .int e, .int f, .int g, x_j] [] h := rfl
theorem r_68 (d : Nat) (h : x_H) (a : Nat) (b : Int32) (c : Int32) : x_R x_P (d + 1) 68 [.ref a, .int b, .int c] h = x_E x_P d x_c68 0 [.ref a, .int b, .int c, x_j] [] h := rfl
theorem r_69 (d : Nat) (h : x_H) (a : Nat) (b : Nat) (c : Int32) (e : Int32) : x_R x_P (d + 1) 69 [.ref a, .ref b, .int c, .int e] h = x_E x_P d x_c69 0 [.ref a, .ref b, .int c, .int e, x_j, x_j] [] h := rfl
theorem r_70 (d : Nat) (h : x_H) (a : Nat) (b : Nat) (c : Int32) : x_R x_P (d + 1) 70 [.ref a, .ref b, .int c] h = x_E x_P d x_c70 0 [.ref a, .ref b, .int c, x_j, x_j, x_j, x_j] [] h := rfl
theorem r_71 (d : Nat) (h : x_H) (a : Nat) : x_R x_P (d + 1) 71 [.ref a] h = x_E x_P d x_c71 0 [.ref a] [] h := rfl
theorem r_72 (d : Nat) (h : x_H) (a : Nat) (b : Int32) : x_R x_P (d + 1) 72 [.ref a, .int b] h = x_E x_P d x_c72 0 [.ref a, .int b] [] h := rfl
theorem r_73 (d : Nat) (h : x_H) (a : Nat) : x_R x_P (d + 1) 73 [.ref a] h = x_E x_P d x_c73 0 [.ref a, x_j, x_j] [] h := rfl
theorem r_74 (d : Nat) (h : x_H) (a : Nat) : x_R x_P (d + 1) 74 [.ref a] h = x_E x_P d x_c74 0 [.ref a] [] h := rfl
theorem r_75 (d : Nat) (h : x_H) (a : Nat) (b : Int32) : x_R x_P (d + 1) 75 [.ref a, .int b] h = x_E x_P d x_c75 0 [.ref a, .int b] [] h := rfl
theorem r_76 (d : Nat) (h : x_H) (a : Nat) (b : Int32) : x_R x_P (d + 1) 76 [.ref a, .int b] h = x_E x_P d x_c76 0 [.ref a, .int b] [] h := rfl
theorem r_77 (d : Nat) (h : x_H) (a : Nat) (b : Int32) (c : Int32) : x_R x_P (d + 1) 77 [.ref a, .int b, .int c] h = x_E x_P d x_c77 0 [.ref a, .int b, .int c] [] h := rfl
theorem r_78 (d : Nat) (h : x_H) (a : Nat) (b : Int32) (c : Int32) : x_R x_P (d + 1) 78 [.ref a, .int b, .int c] h = x_E x_P d x_c78 0 [.ref a, .int b, .int c] [] h := rfl
theorem r_79 (d : Nat) (h : x_H) (a : Nat) (b : Int32) (c : Int32) : x_R x_P (d + 1) 79 [.ref a, .int b, .int c] h = x_E x_P d x_c79 0 [.ref a, .int b, .int c] [] h := rfl
theorem r_80 (d : Nat) (h : x_H) (a : Nat) (b : Int32) (c : Int32) (e : Int32) : x_R x_P (d + 1) 80 [.ref a, .int b, .int c, .int e] h = x_E x_P d x_c80 0 [.ref a, .int b, .int c, .int e, x_j] [] h := rfl
theorem r_81 (d : Nat) (h : x_H) (a : Nat) (b : Int32) (c : Int32) : x_R x_P (d + 1) 81 [.ref a, .int b, .int c] h = x_E x_P d x_c81 0 [.ref a, .int b, .int c] [] h := rfl
theorem r_82 (d : Nat) (h : x_H) (a : Nat) (b : Int32) (c : Int32) : x_R x_P (d + 1) 82 [.ref a, .int b, .int c] h = x_E x_P d x_c82 0 [.ref a, .int b, .int c] [] h := rfl
theorem r_83 (d : Nat) (h : x_H) (a : Nat) (b : Int32) : x_R x_P (d + 1) 83 [.ref a, .int b] h = x_E x_P d x_c83 0 [.ref a, .int b, x_j, x_j, x_j, x_j, x_j] [] h := rfl
theorem r_84 (d : Nat) (h : x_H) (a : Nat) : x_R x_P (d + 1) 84 [.ref a] h = x_E x_P d x_c84 0 [.ref a] [] h := rfl
theorem r_85 (d : Nat) (h : x_H) (a : Nat) : x_R x_P (d + 1) 85 [.ref a] h = x_E x_P d x_c85 0 [.ref a] [] h := rfl
theorem r_86 (d : Nat) (h : x_H) (a : Nat) : x_R x_P (d + 1) 86 [.ref a] h = x_E x_P d x_c86 0 [.ref a, x_j] [] h := rfl
theorem r_87 (d : Nat) (h : x_H) (a : Nat) : x_R x_P (d + 1) 87 [.ref a] h = x_E x_P d x_c87 0 [.ref a, x_j, x_j, x_j] [] h := rfl
theorem r_88 (d : Nat) (h : x_H) (a : Nat) (b : Int32) (c : Int32) (e : Int32) (f : Int32) : x_R x_P (d + 1) 88 [.ref a, .int b, .int c, .int e, .int f] h = x_E x_P d x_c88 0 [.ref a, .int b, .int c, .int e, .int f] [] h := rfl
theorem r_89 (d : Nat) (h : x_H) (a : Nat) (b : Int32) : x_R x_P (d + 1) 89 [.ref a, .int b] h = x_E x_P d x_c89 0 [.ref a, .int b, x_j, x_j, x_j, x_j] [] h := rfl
theorem r_90 (d : Nat) (h : x_H) (a : Nat) : x_R x_P (d + 1) 90 [.ref a] h = x_E x_P d x_c90 0 [.ref a, x_j, x_j] [] h := rfl
theorem r_91 (d : Nat) (h : x_H) (a : Nat) (b : Int32) : x_R x_P (d + 1) 91 [.ref a, .int b] h = x_E x_P d x_c91 0 [.ref a, .int b] [] h := rfl
theorem r_92 (d : Nat) (h : x_H) (a : Nat) (b : Int32) (c : Int32) : x_R x_P (d + 1) 92 [.ref a, .int b, .int c] h = x_E x_P d x_c92 0 [.ref a, .int b, .int c, x_j, x_j, x_j, x_j] [] h := rfl
theorem r_93 (d : Nat) (h : x_H) (a : Nat) : x_R x_P (d + 1) 93 [.ref a] h = x_E x_P d x_c93 0 [.ref a, x_j, x_j] [] h := rfl
theorem r_94 (d : Nat) (h : x_H) (a : Nat) (b : Int32) (c : Int32) : x_R x_P (d + 1) 94 [.ref a, .int b, .int c] h = x_E x_P d x_c94 0 [.ref a, .int b, .int c, x_j, x_j] [] h := rfl
theorem r_95 (d : Nat) (h : x_H) (a : Nat) (b : Int32) (c : Int32) (e : Int32) : x_R x_P (d + 1) 95 [.ref a, .int b, .int c, .int e] h = x_E x_P d x_c95 0 [.ref a, .int b, .int c, .int e] [] h := rfl
theorem r_96 (d : Nat) (h : x_H) (a : Nat) : x_R x_P (d + 1) 96 [.ref a] h = x_E x_P d x_c96 0 [.ref a, x_j, x_j] [] h := rfl
theorem r_97 (d : Nat) (h : x_H) (a : Nat) : x_R x_P (d + 1) 97 [.ref a] h = x_E x_P d x_c97 0 [.ref a, x_j] [] h := rfl
theorem r_98 (d : Nat) (h : x_H) (a : Nat) (b : Int32) (c : Int32) : x_R x_P (d + 1) 98 [.ref a, .int b, .int c] h = x_E x_P d x_c98 0 [.ref a, .int b, .int c] [] h := rfl
theorem r_99 (d : Nat) (h : x_H) (a : Nat) : x_R x_P (d + 1) 99 [.ref a] h = x_E x_P d x_c99 0 [.ref a, x_j] [] h := rfl
theorem r_100 (d : Nat) (h : x_H) (a : Nat) : x_R x_P (d + 1) 100 [.ref a] h = x_E x_P d x_c100 0 [.ref a] [] h := rfl
theorem r_101 (d : Nat) (h : x_H) (a : Nat) (b : Int32) : x_R x_P (d + 1) 101 [.ref a, .int b] h = x_E x_P d x_c101 0 [.ref a, .int b, x_j] [] h := rfl
theorem r_102 (d : Nat) (h : x_H) (a : Nat) (b : Int32) : x_R x_P (d + 1) 102 [.ref a, .int b] h = x_E x_P d x_c102 0 [.ref a, .int b] [] h := rfl
theorem r_103 (d : Nat) (h : x_H) (a : Nat) (b : Int32) : x_R x_P (d + 1) 103 [.ref a, .int b] h = x_E x_P d x_c103 0 [.ref a, .int b] [] h := rfl
theorem r_104 (d : Nat) (h : x_H) (a : Nat) (b : Int32) : x_R x_P (d + 1) 104 [.ref a, .int b] h = x_E x_P d x_c104 0 [.ref a, .int b] [] h := rfl
theorem r_105 (d : Nat) (h : x_H) (a : Nat) : x_R x_P (d + 1) 105 [.ref a] h = x_E x_P d x_c105 0 [.ref a] [] h := rfl
theorem r_106 (d : Nat) (h : x_H) (a : Nat) (b : Int32) : x_R x_P (d + 1) 106 [.ref a, .int b] h = x_E x_P d x_c106 0 [.ref a, .int b, x_j, x_j, x_j] [] h := rfl
theorem r_107 (d : Nat) (h : x_H) (a : Nat) (b : Int32) (c : Int32) : x_R x_P (d + 1) 107 [.ref a, .int b, .int c] h = x_E x_P d x_c107 0 [.ref a, .int b, .int c, x_j, x_j, x_j] [] h := rfl
theorem r_108 (d : Nat) (h : x_H) (a : Int32) (b : Int32) : x_R x_P (d + 1) 108 [.int a, .int b] h = x_E x_P d x_c108 0 [.int a, .int b] [] h := rfl
theorem r_109 (d : Nat) (h : x_H) (a : Int32) (b : Int32) : x_R x_P (d + 1) 109 [.int a, .int b] h = x_E x_P d x_c109 0 [.int a, .int b] [] h := rfl
theorem r_110 (d : Nat) (h : x_H) (a : Int32) : x_R x_P (d + 1) 110 [.int a] h = x_E x_P d x_c110 0 [.int a] [] h := rfl
theorem r_111 (d : Nat) (h : x_H) (a : Nat) : x_R x_P (d + 1) 111 [.ref a] h = x_E x_P d x_c111 0 [.ref a] [] h := rfl
theorem r_112 (d : Nat) (h : x_H) (a : Int64) (b : Int64) (c : Int64) : x_R x_P (d + 1) 112 [.long a, .long b, .long c] h = x_E x_P d x_c112 0 [.long a, x_j, .long b, x_j, .long c, x_j] [] h := rfl
theorem r_113 (d : Nat) (h : x_H) (a : Int32) (b : Int32) : x_R x_P (d + 1) 113 [.int a, .int b] h = x_E x_P d x_c113 0 [.int a, .int b] [] h := rfl
theorem r_114 (d : Nat) (h : x_H) (a : Nat) : x_R x_P (d + 1) 114 [.ref a] h = x_E x_P d x_c114 0 [.ref a, x_j] [] h := rfl
theorem r_115 (d : Nat) (h : x_H) (a : Nat) (b : Int32) : x_R x_P (d + 1) 115 [.ref a, .int b] h = x_E x_P d x_c115 0 [.ref a, .int b] [] h := rfl
theorem r_116 (d : Nat) (h : x_H) (a : Nat) : x_R x_P (d + 1) 116 [.ref a] h = x_E x_P d x_c116 0 [.ref a] [] h := rfl
theorem r_117 (d : Nat) (h : x_H) (a : Nat) : x_R x_P (d + 1) 117 [.ref a] h = x_E x_P d x_c117 0 [.ref a] [] h := rfl
theorem r_118 (d : Nat) (h : x_H) (a : Nat) (b : Int32) : x_R x_P (d + 1) 118 [.ref a, .int b] h = x_E x_P d x_c118 0 [.ref a, .int b] [] h := rfl
theorem r_119 (d : Nat) (h : x_H) (a : Nat) (b : Int32) (c : Int32) (e : Int32) : x_R x_P (d + 1) 119 [.ref a, .int b, .int c, .int e] h = x_E x_P d x_c119 0 [.ref a, .int b, .int c, .int e] [] h := rfl
theorem r_120 (d : Nat) (h : x_H) (a : Nat) : x_R x_P (d + 1) 120 [.ref a] h = x_E x_P d x_c120 0 [.ref a] [] h := rfl
theorem r_121 (d : Nat) (h : x_H) (a : Nat) : x_R x_P (d + 1) 121 [.ref a] h = x_E x_P d x_c121 0 [.ref a] [] h := rfl
theorem r_122 (d : Nat) (h : x_H) (a : Nat) : x_R x_P (d + 1) 122 [.ref a] h = x_E x_P d x_c122 0 [.ref a, x_j, x_j] [] h := rfl
theorem r_123 (d : Nat) (h : x_H) (a : Nat) (b : Int32) : x_R x_P (d + 1) 123 [.ref a, .int b] h = x_E x_P d x_c123 0 [.ref a, .int b] [] h := rfl
theorem r_124 (d : Nat) (h : x_H) (a : Nat) : x_R x_P (d + 1) 124 [.ref a] h = x_E x_P d x_c124 0 [.ref a, x_j, x_j, x_j] [] h := rfl
theorem r_125 (d : Nat) (h : x_H) (a : Nat) : x_R x_P (d + 1) 125 [.ref a] h = x_E x_P d x_c125 0 [.ref a, x_j] [] h := rfl
theorem r_126 (d : Nat) (h : x_H) (a : Nat) : x_R x_P (d + 1) 126 [.ref a] h = x_E x_P d x_c126 0 [.ref a, x_j] [] h := rfl
theorem r_127 (d : Nat) (h : x_H) (a : Nat) : x_R x_P (d + 1) 127 [.ref a] h = x_E x_P d x_c127 0 [.ref a] [] h := rfl
theorem r_128 (d : Nat) (h : x_H) (a : Nat) : x_R x_P (d + 1) 128 [.ref a] h = x_E x_P d x_c128 0 [.ref a, x_j, x_j] [] h := rfl
theorem r_129 (d : Nat) (h : x_H) (a : Nat) : x_R x_P (d + 1) 129 [.ref a] h = x_E x_P d x_c129 0 [.ref a] [] h := rfl
theorem r_130 (d : Nat) (h : x_H) (a : Nat) (b : Int32) : x_R x_P (d + 1) 130 [.ref a, .int b] h = x_E x_P d x_c130 0 [.ref a, .int b] [] h := rfl
theorem r_131 (d : Nat) (h : x_H) (a : Nat) (b : Int32) : x_R x_P (d + 1) 131 [.ref a, .int b] h = x_E x_P d x_c131 0 [.ref a, .int b] [] h := rfl
theorem r_132 (d : Nat) (h : x_H) (a : Nat) (b : Int32) : x_R x_P (d + 1) 132 [.ref a, .int b] h = x_E x_P d x_c132 0 [.ref a, .int b] [] h := rfl
theorem r_133 (d : Nat) (h : x_H) (a : Nat) (b : Int32) : x_R x_P (d + 1) 133 [.ref a, .int b] h = x_E x_P d x_c133 0 [.ref a, .int b] [] h := rfl
theorem r_134 (d : Nat) (h : x_H) (a : Nat) : x_R x_P (d + 1) 134 [.ref a] h = x_E x_P d x_c134 0 [.ref a, x_j, x_j] [] h := rfl
theorem r_135 (d : Nat) (h : x_H) (a : Nat) (b : Int32) : x_R x_P (d + 1) 135 [.ref a, .int b] h = x_E x_P d x_c135 0 [.ref a, .int b] [] h := rfl
theorem r_136 (d : Nat) (h : x_H) (a : Nat) (b : Int32) : x_R x_P (d + 1) 136 [.ref a, .int b] h = x_E x_P d x_c136 0 [.ref a, .int b] [] h := rfl
theorem r_137 (d : Nat) (h : x_H) (a : Nat) (b : Int32) (c : Int32) : x_R x_P (d + 1) 137 [.ref a, .int b, .int c] h = x_E x_P d x_c137 0 [.ref a, .int b, .int c] [] h := rfl
theorem r_138 (d : Nat) (h : x_H) (a : Nat) (b : Int32) : x_R x_P (d + 1) 138 [.ref a, .int b] h = x_E x_P d x_c138 0 [.ref a, .int b] [] h := rfl
theorem r_139 (d : Nat) (h : x_H) (a : Nat) (b : Int32) (c : Int32) : x_R x_P (d + 1) 139 [.ref a, .int b, .int c] h = x_E x_P d x_c139 0 [.ref a, .int b, .int c] [] h := rfl
theorem r_140 (d : Nat) (h : x_H) (a : Nat) (b : Int32) (c : Int32) : x_R x_P (d + 1) 140 [.ref a, .int b, .int c] h = x_E x_P d x_c140 0 [.ref a, .int b, .int c] [] h := rfl
theorem r_141 (d : Nat) (h : x_H) (a : Nat) (b : Int32) (c : Nat) (e : Int32) : x_R x_P (d + 1) 141 [.ref a, .int b, .ref c, .int e] h = x_E x_P d x_c141 0 [.ref a, .int b, .ref c, .int e, x_j] [] h := rfl
theorem r_142 (d : Nat) (h : x_H) (a : Nat) : x_R x_P (d + 1) 142 [.ref a] h = x_E x_P d x_c142 0 [.ref a, x_j] [] h := rfl
theorem r_143 (d : Nat) (h : x_H) (a : Int32) (b : Int32) : x_R x_P (d + 1) 143 [.int a, .int b] h = x_E x_P d x_c143 0 [.int a, .int b] [] h := rfl
theorem r_144 (d : Nat) (h : x_H) (a : Nat) (b : Int32) (c : Int32) (e : Int32) : x_R x_P (d + 1) 144 [.ref a, .int b, .int c, .int e] h = x_E x_P d x_c144 0 [.ref a, .int b, .int c, .int e, x_j] [] h := rfl
theorem r_145 (d : Nat) (h : x_H) (a : Nat) (b : Int32) (c : Int32) (e : Int32) : x_R x_P (d + 1) 145 [.ref a, .int b, .int c, .int e] h = x_E x_P d x_c145 0 [.ref a, .int b, .int c, .int e, x_j] [] h := rfl
theorem r_146 (d : Nat) (h : x_H) (a : Nat) (b : Int32) (c : Int32) : x_R x_P (d + 1) 146 [.ref a, .int b, .int c] h = x_E x_P d x_c146 0 [.ref a, .int b, .int c, x_j, x_j, x_j] [] h := rfl
theorem r_147 (d : Nat) (h : x_H) (a : Nat) (b : Int32) (c : Int32) : x_R x_P (d + 1) 147 [.ref a, .int b, .int c] h = x_E x_P d x_c147 0 [.ref a, .int b, .int c] [] h := rfl
theorem r_148 (d : Nat) (h : x_H) (a : Nat) (b : Int32) (c : Int32) : x_R x_P (d + 1) 148 [.ref a, .int b, .int c] h = x_E x_P d x_c148 0 [.ref a, .int b, .int c, x_j, x_j] [] h := rfl
theorem r_149 (d : Nat) (h : x_H) (a : Nat) (b : Int32) : x_R x_P (d + 1) 149 [.ref a, .int b] h = x_E x_P d x_c149 0 [.ref a, .int b] [] h := rfl
theorem r_150 (d : Nat) (h : x_H) (a : Nat) (b : Int32) : x_R x_P (d + 1) 150 [.ref a, .int b] h = x_E x_P d x_c150 0 [.ref a, .int b, x_j, x_j, x_j] [] h := rfl
theorem r_151 (d : Nat) (h : x_H) (a : Nat) : x_R x_P (d + 1) 151 [.ref a] h = x_E x_P d x_c151 0 [.ref a] [] h := rfl
theorem r_152 (d : Nat) (h : x_H) (a : Nat) (b : Int32) : x_R x_P (d + 1) 152 [.ref a, .int b] h = x_E x_P d x_c152 0 [.ref a, .int b, x_j, x_j, x_j, x_j, x_j, x_j, x_j, x_j] [] h := rfl
theorem r_153 (d : Nat) (h : x_H) (a : Nat) (b : Int32) : x_R x_P (d + 1) 153 [.ref a, .int b] h = x_E x_P d x_c153 0 [.ref a, .int b, x_j, x_j, x_j, x_j] [] h := rfl
theorem r_154 (d : Nat) (h : x_H) (a : Nat) : x_R x_P (d + 1) 154 [.ref a] h = x_E x_P d x_c154 0 [.ref a] [] h := rfl
theorem r_155 (d : Nat) (h : x_H) (a : Nat) : x_R x_P (d + 1) 155 [.ref a] h = x_E x_P d x_c155 0 [.ref a] [] h := rfl
theorem r_156 (d : Nat) (h : x_H) (a : Nat) : x_R x_P (d + 1) 156 [.ref a] h = x_E x_P d x_c156 0 [.ref a, x_j] [] h := rfl
theorem r_157 (d : Nat) (h : x_H) (a : Nat) : x_R x_P (d + 1) 157 [.ref a] h = x_E x_P d x_c157 0 [.ref a, x_j, x_j, x_j] [] h := rfl
theorem r_158 (d : Nat) (h : x_H) (a : Nat) (b : Int32) (c : Int32) (e : Int32) (f : Int32) (g : Int32) : x_R x_P (d + 1) 158 [.ref a, .int b, .int c, .int e, .int f, .int g] h = x_E x_P d x_c158 0 [.ref a, .int b, .int c, .int e, .int f, .int g, x_j, x_j, x_j, x_j] [] h := rfl
theorem r_159 (d : Nat) (h : x_H) (a : Nat) (b : Int32) (c : Int32) (e : Int32) (f : Int32) : x_R x_P (d + 1) 159 [.ref a, .int b, .int c, .int e, .int f] h = x_E x_P d x_c159 0 [.ref a, .int b, .int c, .int e, .int f, x_j, x_j, x_j, x_j, x_j, x_j, x_j] [] h := rfl
theorem r_160 (d : Nat) (h : x_H) (a : Nat) (b : Int32) (c : Int32) : x_R x_P (d + 1) 160 [.ref a, .int b, .int c] h = x_E x_P d x_c160 0 [.ref a, .int b, .int c, x_j, x_j, x_j, x_j, x_j, x_j] [] h := rfl
theorem r_161 (d : Nat) (h : x_H) (a : Nat) (b : Int32) : x_R x_P (d + 1) 161 [.ref a, .int b] h = x_E x_P d x_c161 0 [.ref a, .int b, x_j, x_j, x_j, x_j] [] h := rfl
theorem r_162 (d : Nat) (h : x_H) (a : Nat) (b : Int32) : x_R x_P (d + 1) 162 [.ref a, .int b] h = x_E x_P d x_c162 0 [.ref a, .int b, x_j] [] h := rfl
theorem r_163 (d : Nat) (h : x_H) (a : Nat) : x_R x_P (d + 1) 163 [.ref a] h = x_E x_P d x_c163 0 [.ref a, x_j] [] h := rfl
theorem r_164 (d : Nat) (h : x_H) (a : Nat) (b : Int32) : x_R x_P (d + 1) 164 [.ref a, .int b] h = x_E x_P d x_c164 0 [.ref a, .int b, x_j, x_j, x_j, x_j] [] h := rfl
theorem r_165 (d : Nat) (h : x_H) (a : Nat) (b : Int32) : x_R x_P (d + 1) 165 [.ref a, .int b] h = x_E x_P d x_c165 0 [.ref a, .int b, x_j, x_j, x_j, x_j, x_j] [] h := rfl
theorem r_166 (d : Nat) (h : x_H) (a : Nat) (b : Int32) (c : Int32) : x_R x_P (d + 1) 166 [.ref a, .int b, .int c] h = x_E x_P d x_c166 0 [.ref a, .int b, .int c, x_j, x_j, x_j, x_j] [] h := rfl
theorem r_167 (d : Nat) (h : x_H) (a : Nat) : x_R x_P (d + 1) 167 [.ref a] h = x_E x_P d x_c167 0 [.ref a, x_j, x_j] [] h := rfl
theorem r_168 (d : Nat) (h : x_H) (a : Nat) (b : Int32) (c : Int32) : x_R x_P (d + 1) 168 [.ref a, .int b, .int c] h = x_E x_P d x_c168 0 [.ref a, .int b, .int c, x_j, x_j, x_j] [] h := rfl
theorem r_169 (d : Nat) (h : x_H) (a : Nat) (b : Int32) (c : Int32) (e : Int32) : x_R x_P (d + 1) 169 [.ref a, .int b, .int c, .int e] h = x_E x_P d x_c169 0 [.ref a, .int b, .int c, .int e] [] h := rfl
theorem r_170 (d : Nat) (h : x_H) (a : Nat) : x_R x_P (d + 1) 170 [.ref a] h = x_E x_P d x_c170 0 [.ref a, x_j, x_j, x_j, x_j] [] h := rfl
theorem r_171 (d : Nat) (h : x_H) (a : Nat) : x_R x_P (d + 1) 171 [.ref a] h = x_E x_P d x_c171 0 [.ref a] [] h := rfl
theorem r_172 (d : Nat) (h : x_H) (a : Nat) : x_R x_P (d + 1) 172 [.ref a] h = x_E x_P d x_c172 0 [.ref a, x_j, x_j, x_j, x_j] [] h := rfl
theorem r_173 (d : Nat) (h : x_H) (a : Nat) (b : Int32) (c : Int32) : x_R x_P (d + 1) 173 [.ref a, .int b, .int c] h = x_E x_P d x_c173 0 [.ref a, .int b, .int c] [] h := rfl
theorem r_174 (d : Nat) (h : x_H) (a : Nat) : x_R x_P (d + 1) 174 [.ref a] h = x_E x_P d x_c174 0 [.ref a, x_j] [] h := rfl
theorem r_175 (d : Nat) (h : x_H) (a : Nat) : x_R x_P (d + 1) 175 [.ref a] h = x_E x_P d x_c175 0 [.ref a, x_j] [] h := rfl
theorem r_176 (d : Nat) (h : x_H) (a : Nat) (b : Int32) : x_R x_P (d + 1) 176 [.ref a, .int b] h = x_E x_P d x_c176 0 [.ref a, .int b, x_j] [] h := rfl
theorem r_177 (d : Nat) (h : x_H) (a : Nat) (b : Int32) : x_R x_P (d + 1) 177 [.ref a, .int b] h = x_E x_P d x_c177 0 [.ref a, .int b] [] h := rfl
theorem r_178 (d : Nat) (h : x_H) (a : Nat) (b : Int32) : x_R x_P (d + 1) 178 [.ref a, .int b] h = x_E x_P d x_c178 0 [.ref a, .int b] [] h := rfl
