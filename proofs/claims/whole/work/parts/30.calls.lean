/-! Each method from its first instruction on. -/
theorem ce0 {d : Nat} {v0 : sm_V} {S : sm_S} {Q : Option sm_V → sm_S → Prop} : sm_call d 0 [v0] S Q = sm_wp d 0 0 [some v0] [] S Q := rfl
theorem ce1 {d : Nat} {v0 v1 v2 : sm_V} {S : sm_S} {Q : Option sm_V → sm_S → Prop} : sm_call d 1 [v0, v1, v2] S Q = sm_wp d 1 0 [some v0, some v1, some v2, none, none, none] [] S Q := rfl
theorem ce2 {d : Nat} {v0 v1 v2 v3 : sm_V} {S : sm_S} {Q : Option sm_V → sm_S → Prop} : sm_call d 2 [v0, v1, v2, v3] S Q = sm_wp d 2 0 [some v0, some v1, some v2, some v3, none, none, none, none, none, none, none] [] S Q := rfl
theorem ce3 {d : Nat} {v0 v1 v2 : sm_V} {S : sm_S} {Q : Option sm_V → sm_S → Prop} : sm_call d 3 [v0, v1, v2] S Q = sm_wp d 3 0 [some v0, some v1, some v2] [] S Q := rfl
theorem ce4 {d : Nat} {v0 v1 : sm_V} {S : sm_S} {Q : Option sm_V → sm_S → Prop} : sm_call d 4 [v0, v1] S Q = sm_wp d 4 0 [some v0, some v1] [] S Q := rfl
theorem ce5 {d : Nat} {v0 : sm_V} {S : sm_S} {Q : Option sm_V → sm_S → Prop} : sm_call d 5 [v0] S Q = sm_wp d 5 0 [some v0] [] S Q := rfl
theorem ce6 {d : Nat} {v0 v1 v2 : sm_V} {S : sm_S} {Q : Option sm_V → sm_S → Prop} : sm_call d 6 [v0, v1, v2] S Q = sm_wp d 6 0 [some v0, some v1, some v2, none] [] S Q := rfl
theorem ce7 {d : Nat} {v0 v1 : sm_V} {S : sm_S} {Q : Option sm_V → sm_S → Prop} : sm_call d 7 [v0, v1] S Q = sm_wp d 7 0 [some v0, some v1, none] [] S Q := rfl
theorem ce8 {d : Nat} {v0 v1 : sm_V} {S : sm_S} {Q : Option sm_V → sm_S → Prop} : sm_call d 8 [v0, v1] S Q = sm_wp d 8 0 [some v0, some v1] [] S Q := rfl
theorem ce9 {d : Nat} {v0 v1 v2 : sm_V} {S : sm_S} {Q : Option sm_V → sm_S → Prop} : sm_call d 9 [v0, v1, v2] S Q = sm_wp d 9 0 [some v0, some v1, some v2] [] S Q := rfl
theorem ce10 {d : Nat} {v0 v1 v2 : sm_V} {S : sm_S} {Q : Option sm_V → sm_S → Prop} : sm_call d 10 [v0, v1, v2] S Q = sm_wp d 10 0 [some v0, some v1, some v2] [] S Q := rfl
theorem ce11 {d : Nat} {v0 v1 v2 v3 : sm_V} {S : sm_S} {Q : Option sm_V → sm_S → Prop} : sm_call d 11 [v0, v1, v2, v3] S Q = sm_wp d 11 0 [some v0, some v1, some v2, some v3, none, none, none, none] [] S Q := rfl
theorem ce12 {d : Nat} {v0 v1 v2 v3 : sm_V} {S : sm_S} {Q : Option sm_V → sm_S → Prop} : sm_call d 12 [v0, v1, v2, v3] S Q = sm_wp d 12 0 [some v0, some v1, some v2, some v3] [] S Q := rfl
theorem ce13 {d : Nat} {v0 v1 v2 : sm_V} {S : sm_S} {Q : Option sm_V → sm_S → Prop} : sm_call d 13 [v0, v1, v2] S Q = sm_wp d 13 0 [some v0, some v1, some v2] [] S Q := rfl
theorem ce14 {d : Nat} {v0 v1 v2 : sm_V} {S : sm_S} {Q : Option sm_V → sm_S → Prop} : sm_call d 14 [v0, v1, v2] S Q = sm_wp d 14 0 [some v0, some v1, some v2, none, none] [] S Q := rfl
theorem ce15 {d : Nat} {v0 v1 : sm_V} {S : sm_S} {Q : Option sm_V → sm_S → Prop} : sm_call d 15 [v0, v1] S Q = sm_wp d 15 0 [some v0, some v1, none] [] S Q := rfl
theorem ce16 {d : Nat} {v0 v1 : sm_V} {S : sm_S} {Q : Option sm_V → sm_S → Prop} : sm_call d 16 [v0, v1] S Q = sm_wp d 16 0 [some v0, some v1] [] S Q := rfl
theorem ce17 {d : Nat} {v0 v1 v2 : sm_V} {S : sm_S} {Q : Option sm_V → sm_S → Prop} : sm_call d 17 [v0, v1, v2] S Q = sm_wp d 17 0 [some v0, some v1, some v2, none, none, none, none] [] S Q := rfl
theorem ce18 {d : Nat} {v0 : sm_V} {S : sm_S} {Q : Option sm_V → sm_S → Prop} : sm_call d 18 [v0] S Q = sm_wp d 18 0 [some v0, none, none, none] [] S Q := rfl
theorem ce19 {d : Nat} {v0 v1 : sm_V} {S : sm_S} {Q : Option sm_V → sm_S → Prop} : sm_call d 19 [v0, v1] S Q = sm_wp d 19 0 [some v0, some v1] [] S Q := rfl
theorem ce20 {d : Nat} {v0 v1 : sm_V} {S : sm_S} {Q : Option sm_V → sm_S → Prop} : sm_call d 20 [v0, v1] S Q = sm_wp d 20 0 [some v0, some v1, none, none] [] S Q := rfl
theorem ce21 {d : Nat} {v0 v1 v2 : sm_V} {S : sm_S} {Q : Option sm_V → sm_S → Prop} : sm_call d 21 [v0, v1, v2] S Q = sm_wp d 21 0 [some v0, some v1, some v2] [] S Q := rfl
theorem ce22 {d : Nat} {v0 v1 v2 : sm_V} {S : sm_S} {Q : Option sm_V → sm_S → Prop} : sm_call d 22 [v0, v1, v2] S Q = sm_wp d 22 0 [some v0, some v1, some v2, none, none, none, none] [] S Q := rfl
theorem ce23 {d : Nat} {v0 v1 v2 : sm_V} {S : sm_S} {Q : Option sm_V → sm_S → Prop} : sm_call d 23 [v0, v1, v2] S Q = sm_wp d 23 0 [some v0, some v1, some v2] [] S Q := rfl
theorem ce24 {d : Nat} {v0 : sm_V} {S : sm_S} {Q : Option sm_V → sm_S → Prop} : sm_call d 24 [v0] S Q = sm_wp d 24 0 [some v0] [] S Q := rfl
theorem ce25 {d : Nat} {v0 v1 v2 v3 : sm_V} {S : sm_S} {Q : Option sm_V → sm_S → Prop} : sm_call d 25 [v0, v1, v2, v3] S Q = sm_wp d 25 0 [some v0, some v1, some v2, some v3, none] [] S Q := rfl
theorem ce26 {d : Nat} {v0 v1 v2 v3 : sm_V} {S : sm_S} {Q : Option sm_V → sm_S → Prop} : sm_call d 26 [v0, v1, v2, v3] S Q = sm_wp d 26 0 [some v0, some v1, some v2, some v3, none, none, none, none, none] [] S Q := rfl
theorem ce27 {d : Nat} {v0 v1 v2 v3 : sm_V} {S : sm_S} {Q : Option sm_V → sm_S → Prop} : sm_call d 27 [v0, v1, v2, v3] S Q = sm_wp d 27 0 [some v0, some v1, some v2, some v3, none, none, none] [] S Q := rfl
theorem ce28 {d : Nat} {v0 v1 v2 : sm_V} {S : sm_S} {Q : Option sm_V → sm_S → Prop} : sm_call d 28 [v0, v1, v2] S Q = sm_wp d 28 0 [some v0, some v1, some v2, none, none, none, none] [] S Q := rfl
theorem ce29 {d : Nat} {v0 : sm_V} {S : sm_S} {Q : Option sm_V → sm_S → Prop} : sm_call d 29 [v0] S Q = sm_wp d 29 0 [some v0] [] S Q := rfl
theorem ce30 {d : Nat} {v0 v1 v2 : sm_V} {S : sm_S} {Q : Option sm_V → sm_S → Prop} : sm_call d 30 [v0, v1, v2] S Q = sm_wp d 30 0 [some v0, some v1, some v2, none, none] [] S Q := rfl
theorem ce31 {d : Nat} {v0 : sm_V} {S : sm_S} {Q : Option sm_V → sm_S → Prop} : sm_call d 31 [v0] S Q = sm_wp d 31 0 [some v0] [] S Q := rfl
theorem ce32 {d : Nat} {v0 v1 v2 : sm_V} {S : sm_S} {Q : Option sm_V → sm_S → Prop} : sm_call d 32 [v0, v1, v2] S Q = sm_wp d 32 0 [some v0, some v1, some v2] [] S Q := rfl
theorem ce33 {d : Nat} {v0 v1 v2 : sm_V} {S : sm_S} {Q : Option sm_V → sm_S → Prop} : sm_call d 33 [v0, v1, v2] S Q = sm_wp d 33 0 [some v0, some v1, some v2, none] [] S Q := rfl
theorem ce34 {d : Nat} {v0 : sm_V} {S : sm_S} {Q : Option sm_V → sm_S → Prop} : sm_call d 34 [v0] S Q = sm_wp d 34 0 [some v0] [] S Q := rfl
theorem ce35 {d : Nat} {v0 : sm_V} {S : sm_S} {Q : Option sm_V → sm_S → Prop} : sm_call d 35 [v0] S Q = sm_wp d 35 0 [some v0] [] S Q := rfl
theorem ce36 {d : Nat} {v0 : sm_V} {S : sm_S} {Q : Option sm_V → sm_S → Prop} : sm_call d 36 [v0] S Q = sm_wp d 36 0 [some v0] [] S Q := rfl
theorem ce37 {d : Nat} {v0 v1 v2 : sm_V} {S : sm_S} {Q : Option sm_V → sm_S → Prop} : sm_call d 37 [v0, v1, v2] S Q = sm_wp d 37 0 [some v0, some v1, some v2, none, none, none, none, none] [] S Q := rfl
theorem ce38 {d : Nat} {v0 v1 : sm_V} {S : sm_S} {Q : Option sm_V → sm_S → Prop} : sm_call d 38 [v0, v1] S Q = sm_wp d 38 0 [some v0, some v1] [] S Q := rfl
theorem ce39 {d : Nat} {v0 : sm_V} {S : sm_S} {Q : Option sm_V → sm_S → Prop} : sm_call d 39 [v0] S Q = sm_wp d 39 0 [some v0] [] S Q := rfl
theorem ce40 {d : Nat} {v0 : sm_V} {S : sm_S} {Q : Option sm_V → sm_S → Prop} : sm_call d 40 [v0] S Q = sm_wp d 40 0 [some v0] [] S Q := rfl
theorem ce41 {d : Nat} {v0 : sm_V} {S : sm_S} {Q : Option sm_V → sm_S → Prop} : sm_call d 41 [v0] S Q = sm_wp d 41 0 [some v0, none] [] S Q := rfl
theorem ce42 {d : Nat} {v0 : sm_V} {S : sm_S} {Q : Option sm_V → sm_S → Prop} : sm_call d 42 [v0] S Q = sm_wp d 42 0 [some v0] [] S Q := rfl
theorem ce43 {d : Nat} {v0 : sm_V} {S : sm_S} {Q : Option sm_V → sm_S → Prop} : sm_call d 43 [v0] S Q = sm_wp d 43 0 [some v0] [] S Q := rfl
theorem ce44 {d : Nat} {v0 : sm_V} {S : sm_S} {Q : Option sm_V → sm_S → Prop} : sm_call d 44 [v0] S Q = sm_wp d 44 0 [some v0] [] S Q := rfl
theorem ce45 {d : Nat} {v0 v1 : sm_V} {S : sm_S} {Q : Option sm_V → sm_S → Prop} : sm_call d 45 [v0, v1] S Q = sm_wp d 45 0 [some v0, some v1] [] S Q := rfl
theorem ce46 {d : Nat} {v0 : sm_V} {S : sm_S} {Q : Option sm_V → sm_S → Prop} : sm_call d 46 [v0] S Q = sm_wp d 46 0 [some v0] [] S Q := rfl
theorem ce47 {d : Nat} {v0 v1 v2 : sm_V} {S : sm_S} {Q : Option sm_V → sm_S → Prop} : sm_call d 47 [v0, v1, v2] S Q = sm_wp d 47 0 [some v0, some v1, some v2] [] S Q := rfl
theorem ce48 {d : Nat} {v0 v1 : sm_V} {S : sm_S} {Q : Option sm_V → sm_S → Prop} : sm_call d 48 [v0, v1] S Q = sm_wp d 48 0 [some v0, some v1, none] [] S Q := rfl
theorem ce49 {d : Nat} {v0 v1 : sm_V} {S : sm_S} {Q : Option sm_V → sm_S → Prop} : sm_call d 49 [v0, v1] S Q = sm_wp d 49 0 [some v0, some v1] [] S Q := rfl
theorem ce50 {d : Nat} {v0 v1 v2 : sm_V} {S : sm_S} {Q : Option sm_V → sm_S → Prop} : sm_call d 50 [v0, v1, v2] S Q = sm_wp d 50 0 [some v0, some v1, some v2] [] S Q := rfl
theorem ce51 {d : Nat} {v0 v1 : sm_V} {S : sm_S} {Q : Option sm_V → sm_S → Prop} : sm_call d 51 [v0, v1] S Q = sm_wp d 51 0 [some v0, some v1] [] S Q := rfl
theorem ce52 {d : Nat} {v0 v1 v2 v3 v4 v5 : sm_V} {S : sm_S} {Q : Option sm_V → sm_S → Prop} : sm_call d 52 [v0, v1, v2, v3, v4, v5] S Q = sm_wp d 52 0 [some v0, some v1, some v2, some v3, some v4, some v5, none] [] S Q := rfl
theorem ce53 {d : Nat} {v0 : sm_V} {S : sm_S} {Q : Option sm_V → sm_S → Prop} : sm_call d 53 [v0] S Q = sm_wp d 53 0 [some v0] [] S Q := rfl
theorem ce54 {d : Nat} {v0 v1 v2 : sm_V} {S : sm_S} {Q : Option sm_V → sm_S → Prop} : sm_call d 54 [v0, v1, v2] S Q = sm_wp d 54 0 [some v0, some v1, some v2] [] S Q := rfl
theorem ce55 {d : Nat} {v0 v1 : sm_V} {S : sm_S} {Q : Option sm_V → sm_S → Prop} : sm_call d 55 [v0, v1] S Q = sm_wp d 55 0 [some v0, some v1, none] [] S Q := rfl
theorem ce56 {d : Nat} {v0 : sm_V} {S : sm_S} {Q : Option sm_V → sm_S → Prop} : sm_call d 56 [v0] S Q = sm_wp d 56 0 [some v0] [] S Q := rfl
theorem ce57 {d : Nat} {v0 v1 : sm_V} {S : sm_S} {Q : Option sm_V → sm_S → Prop} : sm_call d 57 [v0, v1] S Q = sm_wp d 57 0 [some v0, some v1, none] [] S Q := rfl
theorem ce58 {d : Nat} {v0 v1 v2 v3 : sm_V} {S : sm_S} {Q : Option sm_V → sm_S → Prop} : sm_call d 58 [v0, v1, v2, v3] S Q = sm_wp d 58 0 [some v0, some v1, some v2, some v3, none, none] [] S Q := rfl
theorem ce59 {d : Nat} {v0 : sm_V} {S : sm_S} {Q : Option sm_V → sm_S → Prop} : sm_call d 59 [v0] S Q = sm_wp d 59 0 [some v0] [] S Q := rfl
theorem ce60 {d : Nat} {v0 v1 v2 : sm_V} {S : sm_S} {Q : Option sm_V → sm_S → Prop} : sm_call d 60 [v0, v1, v2] S Q = sm_wp d 60 0 [some v0, some v1, some v2, none] [] S Q := rfl
theorem ce61 {d : Nat} {v0 v1 v2 v3 : sm_V} {S : sm_S} {Q : Option sm_V → sm_S → Prop} : sm_call d 61 [v0, v1, v2, v3] S Q = sm_wp d 61 0 [some v0, some v1, some v2, some v3, none, none, none, none, none, none] [] S Q := rfl
theorem ce62 {d : Nat} {v0 v1 v2 : sm_V} {S : sm_S} {Q : Option sm_V → sm_S → Prop} : sm_call d 62 [v0, v1, v2] S Q = sm_wp d 62 0 [some v0, some v1, some v2, none, none, none, none] [] S Q := rfl
theorem ce63 {d : Nat} {v0 v1 v2 : sm_V} {S : sm_S} {Q : Option sm_V → sm_S → Prop} : sm_call d 63 [v0, v1, v2] S Q = sm_wp d 63 0 [some v0, some v1, some v2] [] S Q := rfl
theorem ce64 {d : Nat} {v0 : sm_V} {S : sm_S} {Q : Option sm_V → sm_S → Prop} : sm_call d 64 [v0] S Q = sm_wp d 64 0 [some v0] [] S Q := rfl
theorem ce65 {d : Nat} {v0 v1 v2 v3 v4 : sm_V} {S : sm_S} {Q : Option sm_V → sm_S → Prop} : sm_call d 65 [v0, v1, v2, v3, v4] S Q = sm_wp d 65 0 [some v0, some v1, some v2, some v3, some v4] [] S Q := rfl
theorem ce66 {d : Nat} {v0 v1 v2 v3 v4 : sm_V} {S : sm_S} {Q : Option sm_V → sm_S → Prop} : sm_call d 66 [v0, v1, v2, v3, v4] S Q = sm_wp d 66 0 [some v0, some v1, some v2, some v3, some v4, none, none] [] S Q := rfl
theorem ce67 {d : Nat} {v0 v1 : sm_V} {S : sm_S} {Q : Option sm_V → sm_S → Prop} : sm_call d 67 [v0, v1] S Q = sm_wp d 67 0 [some v0, some v1, none] [] S Q := rfl
theorem ce68 {d : Nat} {v0 v1 v2 v3 v4 v5 v6 : sm_V} {S : sm_S} {Q : Option sm_V → sm_S → Prop} : sm_call d 68 [v0, v1, v2, v3, v4, v5, v6] S Q = sm_wp d 68 0 [some v0, some v1, some v2, some v3, some v4, some v5, some v6, none] [] S Q := rfl
theorem ce69 {d : Nat} {v0 v1 : sm_V} {S : sm_S} {Q : Option sm_V → sm_S → Prop} : sm_call d 69 [v0, v1] S Q = sm_wp d 69 0 [some v0, some v1] [] S Q := rfl
theorem ce70 {d : Nat} {v0 v1 v2 v3 v4 : sm_V} {S : sm_S} {Q : Option sm_V → sm_S → Prop} : sm_call d 70 [v0, v1, v2, v3, v4] S Q = sm_wp d 70 0 [some v0, some v1, some v2, some v3, some v4, none, none] [] S Q := rfl
theorem ce71 {d : Nat} {v0 v1 : sm_V} {S : sm_S} {Q : Option sm_V → sm_S → Prop} : sm_call d 71 [v0, v1] S Q = sm_wp d 71 0 [some v0, some v1, none, none, none] [] S Q := rfl
theorem ce72 {d : Nat} {v0 v1 v2 v3 : sm_V} {S : sm_S} {Q : Option sm_V → sm_S → Prop} : sm_call d 72 [v0, v1, v2, v3] S Q = sm_wp d 72 0 [some v0, some v1, some v2, some v3, none, none] [] S Q := rfl
theorem ce73 {d : Nat} {v0 v1 v2 : sm_V} {S : sm_S} {Q : Option sm_V → sm_S → Prop} : sm_call d 73 [v0, v1, v2] S Q = sm_wp d 73 0 [some v0, some v1, some v2, none] [] S Q := rfl
theorem ce74 {d : Nat} {v0 v1 : sm_V} {S : sm_S} {Q : Option sm_V → sm_S → Prop} : sm_call d 74 [v0, v1] S Q = sm_wp d 74 0 [some v0, some v1, none, none] [] S Q := rfl
theorem ce75 {d : Nat} {v0 v1 : sm_V} {S : sm_S} {Q : Option sm_V → sm_S → Prop} : sm_call d 75 [v0, v1] S Q = sm_wp d 75 0 [some v0, some v1] [] S Q := rfl
theorem ce76 {d : Nat} {v0 : sm_V} {S : sm_S} {Q : Option sm_V → sm_S → Prop} : sm_call d 76 [v0] S Q = sm_wp d 76 0 [some v0] [] S Q := rfl
theorem ce77 {d : Nat} {v0 v1 : sm_V} {S : sm_S} {Q : Option sm_V → sm_S → Prop} : sm_call d 77 [v0, v1] S Q = sm_wp d 77 0 [some v0, some v1] [] S Q := rfl
theorem ce78 {d : Nat} {v0 v1 v2 v3 : sm_V} {S : sm_S} {Q : Option sm_V → sm_S → Prop} : sm_call d 78 [v0, v1, v2, v3] S Q = sm_wp d 78 0 [some v0, some v1, some v2, some v3] [] S Q := rfl
theorem ce79 {d : Nat} {v0 v1 v2 v3 v4 v5 : sm_V} {S : sm_S} {Q : Option sm_V → sm_S → Prop} : sm_call d 79 [v0, v1, v2, v3, v4, v5] S Q = sm_wp d 79 0 [some v0, some v1, some v2, some v3, some v4, some v5, none, none, none, none] [] S Q := rfl
theorem ce80 {d : Nat} {v0 v1 v2 v3 : sm_V} {S : sm_S} {Q : Option sm_V → sm_S → Prop} : sm_call d 80 [v0, v1, v2, v3] S Q = sm_wp d 80 0 [some v0, some v1, some v2, some v3, none, none] [] S Q := rfl
theorem ce81 {d : Nat} {v0 : sm_V} {S : sm_S} {Q : Option sm_V → sm_S → Prop} : sm_call d 81 [v0] S Q = sm_wp d 81 0 [some v0, none, none] [] S Q := rfl
theorem ce82 {d : Nat} {v0 : sm_V} {S : sm_S} {Q : Option sm_V → sm_S → Prop} : sm_call d 82 [v0] S Q = sm_wp d 82 0 [some v0] [] S Q := rfl
theorem ce83 {d : Nat} {v0 v1 : sm_V} {S : sm_S} {Q : Option sm_V → sm_S → Prop} : sm_call d 83 [v0, v1] S Q = sm_wp d 83 0 [some v0, some v1, none] [] S Q := rfl
theorem ce84 {d : Nat} {v0 v1 v2 : sm_V} {S : sm_S} {Q : Option sm_V → sm_S → Prop} : sm_call d 84 [v0, v1, v2] S Q = sm_wp d 84 0 [some v0, some v1, some v2] [] S Q := rfl
theorem ce85 {d : Nat} {v0 v1 v2 v3 : sm_V} {S : sm_S} {Q : Option sm_V → sm_S → Prop} : sm_call d 85 [v0, v1, v2, v3] S Q = sm_wp d 85 0 [some v0, some v1, some v2, some v3] [] S Q := rfl
theorem ce86 {d : Nat} {v0 v1 : sm_V} {S : sm_S} {Q : Option sm_V → sm_S → Prop} : sm_call d 86 [v0, v1] S Q = sm_wp d 86 0 [some v0, some v1] [] S Q := rfl
theorem ce87 {d : Nat} {v0 v1 : sm_V} {S : sm_S} {Q : Option sm_V → sm_S → Prop} : sm_call d 87 [v0, v1] S Q = sm_wp d 87 0 [some v0, some v1] [] S Q := rfl
theorem ce88 {d : Nat} {v0 : sm_V} {S : sm_S} {Q : Option sm_V → sm_S → Prop} : sm_call d 88 [v0] S Q = sm_wp d 88 0 [some v0, none] [] S Q := rfl
theorem ce89 {d : Nat} {v0 v1 : sm_V} {S : sm_S} {Q : Option sm_V → sm_S → Prop} : sm_call d 89 [v0, v1] S Q = sm_wp d 89 0 [some v0, some v1] [] S Q := rfl
theorem ce90 {d : Nat} {v0 v1 v2 v3 : sm_V} {S : sm_S} {Q : Option sm_V → sm_S → Prop} : sm_call d 90 [v0, v1, v2, v3] S Q = sm_wp d 90 0 [some v0, some v1, some v2, some v3] [] S Q := rfl
theorem ce91 {d : Nat} {v0 v1 v2 : sm_V} {S : sm_S} {Q : Option sm_V → sm_S → Prop} : sm_call d 91 [v0, v1, v2] S Q = sm_wp d 91 0 [some v0, some v1, some v2] [] S Q := rfl
theorem ce92 {d : Nat} {v0 v1 v2 v3 v4 v5 : sm_V} {S : sm_S} {Q : Option sm_V → sm_S → Prop} : sm_call d 92 [v0, v1, v2, v3, v4, v5] S Q = sm_wp d 92 0 [some v0, some v1, some v2, some v3, some v4, some v5] [] S Q := rfl
theorem ce93 {d : Nat} {v0 v1 v2 v3 v4 v5 : sm_V} {S : sm_S} {Q : Option sm_V → sm_S → Prop} : sm_call d 93 [v0, v1, v2, v3, v4, v5] S Q = sm_wp d 93 0 [some v0, some v1, some v2, some v3, some v4, some v5] [] S Q := rfl
theorem ce94 {d : Nat} {v0 v1 : sm_V} {S : sm_S} {Q : Option sm_V → sm_S → Prop} : sm_call d 94 [v0, v1] S Q = sm_wp d 94 0 [some v0, some v1] [] S Q := rfl
theorem ce95 {d : Nat} {v0 v1 : sm_V} {S : sm_S} {Q : Option sm_V → sm_S → Prop} : sm_call d 95 [v0, v1] S Q = sm_wp d 95 0 [some v0, some v1, none, none] [] S Q := rfl
theorem ce96 {d : Nat} {v0 v1 : sm_V} {S : sm_S} {Q : Option sm_V → sm_S → Prop} : sm_call d 96 [v0, v1] S Q = sm_wp d 96 0 [some v0, some v1] [] S Q := rfl
theorem ce97 {d : Nat} {v0 : sm_V} {S : sm_S} {Q : Option sm_V → sm_S → Prop} : sm_call d 97 [v0] S Q = sm_wp d 97 0 [some v0] [] S Q := rfl
theorem ce98 {d : Nat} {v0 : sm_V} {S : sm_S} {Q : Option sm_V → sm_S → Prop} : sm_call d 98 [v0] S Q = sm_wp d 98 0 [some v0, none] [] S Q := rfl
theorem ce99 {d : Nat} {v0 v1 v2 : sm_V} {S : sm_S} {Q : Option sm_V → sm_S → Prop} : sm_call d 99 [v0, v1, v2] S Q = sm_wp d 99 0 [some v0, some v1, some v2] [] S Q := rfl
theorem ce100 {d : Nat} {v0 v1 v2 v3 v4 : sm_V} {S : sm_S} {Q : Option sm_V → sm_S → Prop} : sm_call d 100 [v0, v1, v2, v3, v4] S Q = sm_wp d 100 0 [some v0, some v1, some v2, some v3, some v4, none] [] S Q := rfl
theorem ce101 {d : Nat} {v0 v1 v2 : sm_V} {S : sm_S} {Q : Option sm_V → sm_S → Prop} : sm_call d 101 [v0, v1, v2] S Q = sm_wp d 101 0 [some v0, some v1, some v2, none] [] S Q := rfl
theorem ce102 {d : Nat} {v0 v1 v2 v3 : sm_V} {S : sm_S} {Q : Option sm_V → sm_S → Prop} : sm_call d 102 [v0, v1, v2, v3] S Q = sm_wp d 102 0 [some v0, some v1, some v2, some v3] [] S Q := rfl
theorem ce103 {d : Nat} {v0 v1 v2 : sm_V} {S : sm_S} {Q : Option sm_V → sm_S → Prop} : sm_call d 103 [v0, v1, v2] S Q = sm_wp d 103 0 [some v0, some v1, some v2] [] S Q := rfl
theorem ce104 {d : Nat} {v0 v1 v2 v3 : sm_V} {S : sm_S} {Q : Option sm_V → sm_S → Prop} : sm_call d 104 [v0, v1, v2, v3] S Q = sm_wp d 104 0 [some v0, some v1, some v2, some v3] [] S Q := rfl
theorem ce105 {d : Nat} {v0 v1 v2 v3 : sm_V} {S : sm_S} {Q : Option sm_V → sm_S → Prop} : sm_call d 105 [v0, v1, v2, v3] S Q = sm_wp d 105 0 [some v0, some v1, some v2, some v3] [] S Q := rfl
theorem ce106 {d : Nat} {v0 v1 v2 : sm_V} {S : sm_S} {Q : Option sm_V → sm_S → Prop} : sm_call d 106 [v0, v1, v2] S Q = sm_wp d 106 0 [some v0, some v1, some v2] [] S Q := rfl
theorem ce107 {d : Nat} {v0 v1 v2 v3 : sm_V} {S : sm_S} {Q : Option sm_V → sm_S → Prop} : sm_call d 107 [v0, v1, v2, v3] S Q = sm_wp d 107 0 [some v0, some v1, some v2, some v3] [] S Q := rfl
theorem ce108 {d : Nat} {v0 v1 : sm_V} {S : sm_S} {Q : Option sm_V → sm_S → Prop} : sm_call d 108 [v0, v1] S Q = sm_wp d 108 0 [some v0, some v1] [] S Q := rfl
theorem ce109 {d : Nat} {v0 v1 v2 : sm_V} {S : sm_S} {Q : Option sm_V → sm_S → Prop} : sm_call d 109 [v0, v1, v2] S Q = sm_wp d 109 0 [some v0, some v1, some v2] [] S Q := rfl
theorem ce110 {d : Nat} {v0 v1 : sm_V} {S : sm_S} {Q : Option sm_V → sm_S → Prop} : sm_call d 110 [v0, v1] S Q = sm_wp d 110 0 [some v0, some v1] [] S Q := rfl
theorem ce111 {d : Nat} {v0 v1 : sm_V} {S : sm_S} {Q : Option sm_V → sm_S → Prop} : sm_call d 111 [v0, v1] S Q = sm_wp d 111 0 [some v0, some v1] [] S Q := rfl
theorem ce112 {d : Nat} {v0 v1 v2 : sm_V} {S : sm_S} {Q : Option sm_V → sm_S → Prop} : sm_call d 112 [v0, v1, v2] S Q = sm_wp d 112 0 [some v0, some v1, some v2] [] S Q := rfl
theorem ce113 {d : Nat} {v0 v1 v2 v3 : sm_V} {S : sm_S} {Q : Option sm_V → sm_S → Prop} : sm_call d 113 [v0, v1, v2, v3] S Q = sm_wp d 113 0 [some v0, some v1, some v2, some v3] [] S Q := rfl
theorem ce114 {d : Nat} {v0 v1 v2 : sm_V} {S : sm_S} {Q : Option sm_V → sm_S → Prop} : sm_call d 114 [v0, v1, v2] S Q = sm_wp d 114 0 [some v0, some v1, some v2] [] S Q := rfl
theorem ce115 {d : Nat} {v0 v1 : sm_V} {S : sm_S} {Q : Option sm_V → sm_S → Prop} : sm_call d 115 [v0, v1] S Q = sm_wp d 115 0 [some v0, some v1, none] [] S Q := rfl
theorem ce116 {d : Nat} {v0 : sm_V} {S : sm_S} {Q : Option sm_V → sm_S → Prop} : sm_call d 116 [v0] S Q = sm_wp d 116 0 [some v0] [] S Q := rfl
theorem ce117 {d : Nat} {v0 : sm_V} {S : sm_S} {Q : Option sm_V → sm_S → Prop} : sm_call d 117 [v0] S Q = sm_wp d 117 0 [some v0] [] S Q := rfl
theorem ce118 {d : Nat} {v0 v1 v2 : sm_V} {S : sm_S} {Q : Option sm_V → sm_S → Prop} : sm_call d 118 [v0, v1, v2] S Q = sm_wp d 118 0 [some v0, some v1, some v2, none, none] [] S Q := rfl
theorem ce119 {d : Nat} {v0 : sm_V} {S : sm_S} {Q : Option sm_V → sm_S → Prop} : sm_call d 119 [v0] S Q = sm_wp d 119 0 [some v0, none] [] S Q := rfl
theorem ce120 {d : Nat} {v0 v1 v2 : sm_V} {S : sm_S} {Q : Option sm_V → sm_S → Prop} : sm_call d 120 [v0, v1, v2] S Q = sm_wp d 120 0 [some v0, some v1, some v2] [] S Q := rfl
theorem ce121 {d : Nat} {v0 v1 v2 : sm_V} {S : sm_S} {Q : Option sm_V → sm_S → Prop} : sm_call d 121 [v0, v1, v2] S Q = sm_wp d 121 0 [some v0, some v1, some v2] [] S Q := rfl
theorem ce122 {d : Nat} {v0 v1 : sm_V} {S : sm_S} {Q : Option sm_V → sm_S → Prop} : sm_call d 122 [v0, v1] S Q = sm_wp d 122 0 [some v0, some v1] [] S Q := rfl
theorem ce123 {d : Nat} {v0 v1 v2 : sm_V} {S : sm_S} {Q : Option sm_V → sm_S → Prop} : sm_call d 123 [v0, v1, v2] S Q = sm_wp d 123 0 [some v0, some v1, some v2] [] S Q := rfl
theorem ce124 {d : Nat} {v0 v1 : sm_V} {S : sm_S} {Q : Option sm_V → sm_S → Prop} : sm_call d 124 [v0, v1] S Q = sm_wp d 124 0 [some v0, some v1, none] [] S Q := rfl
theorem ce125 {d : Nat} {v0 v1 : sm_V} {S : sm_S} {Q : Option sm_V → sm_S → Prop} : sm_call d 125 [v0, v1] S Q = sm_wp d 125 0 [some v0, some v1] [] S Q := rfl
theorem ce126 {d : Nat} {v0 v1 v2 : sm_V} {S : sm_S} {Q : Option sm_V → sm_S → Prop} : sm_call d 126 [v0, v1, v2] S Q = sm_wp d 126 0 [some v0, some v1, some v2] [] S Q := rfl
theorem ce127 {d : Nat} {v0 v1 v2 v3 : sm_V} {S : sm_S} {Q : Option sm_V → sm_S → Prop} : sm_call d 127 [v0, v1, v2, v3] S Q = sm_wp d 127 0 [some v0, some v1, some v2, some v3] [] S Q := rfl
theorem ce128 {d : Nat} {v0 v1 : sm_V} {S : sm_S} {Q : Option sm_V → sm_S → Prop} : sm_call d 128 [v0, v1] S Q = sm_wp d 128 0 [some v0, some v1, none] [] S Q := rfl
theorem ce129 {d : Nat} {v0 v1 : sm_V} {S : sm_S} {Q : Option sm_V → sm_S → Prop} : sm_call d 129 [v0, v1] S Q = sm_wp d 129 0 [some v0, some v1] [] S Q := rfl
theorem ce130 {d : Nat} {v0 v1 : sm_V} {S : sm_S} {Q : Option sm_V → sm_S → Prop} : sm_call d 130 [v0, v1] S Q = sm_wp d 130 0 [some v0, some v1] [] S Q := rfl
theorem ce131 {d : Nat} {v0 : sm_V} {S : sm_S} {Q : Option sm_V → sm_S → Prop} : sm_call d 131 [v0] S Q = sm_wp d 131 0 [some v0, none] [] S Q := rfl
theorem ce132 {d : Nat} {v0 v1 : sm_V} {S : sm_S} {Q : Option sm_V → sm_S → Prop} : sm_call d 132 [v0, v1] S Q = sm_wp d 132 0 [some v0, some v1] [] S Q := rfl
theorem ce133 {d : Nat} {v0 v1 v2 v3 : sm_V} {S : sm_S} {Q : Option sm_V → sm_S → Prop} : sm_call d 133 [v0, v1, v2, v3] S Q = sm_wp d 133 0 [some v0, some v1, some v2, some v3] [] S Q := rfl
theorem ce134 {d : Nat} {v0 v1 v2 : sm_V} {S : sm_S} {Q : Option sm_V → sm_S → Prop} : sm_call d 134 [v0, v1, v2] S Q = sm_wp d 134 0 [some v0, some v1, some v2] [] S Q := rfl
theorem ce135 {d : Nat} {v0 v1 v2 v3 v4 v5 : sm_V} {S : sm_S} {Q : Option sm_V → sm_S → Prop} : sm_call d 135 [v0, v1, v2, v3, v4, v5] S Q = sm_wp d 135 0 [some v0, some v1, some v2, some v3, some v4, some v5, none] [] S Q := rfl
theorem ce136 {d : Nat} {v0 v1 v2 v3 v4 v5 : sm_V} {S : sm_S} {Q : Option sm_V → sm_S → Prop} : sm_call d 136 [v0, v1, v2, v3, v4, v5] S Q = sm_wp d 136 0 [some v0, some v1, some v2, some v3, some v4, some v5, none, none] [] S Q := rfl
theorem ce137 {d : Nat} {v0 v1 : sm_V} {S : sm_S} {Q : Option sm_V → sm_S → Prop} : sm_call d 137 [v0, v1] S Q = sm_wp d 137 0 [some v0, some v1] [] S Q := rfl
theorem ce138 {d : Nat} {v0 v1 : sm_V} {S : sm_S} {Q : Option sm_V → sm_S → Prop} : sm_call d 138 [v0, v1] S Q = sm_wp d 138 0 [some v0, some v1] [] S Q := rfl
theorem ce139 {d : Nat} {v0 : sm_V} {S : sm_S} {Q : Option sm_V → sm_S → Prop} : sm_call d 139 [v0] S Q = sm_wp d 139 0 [some v0] [] S Q := rfl
theorem ce140 {d : Nat} {v0 : sm_V} {S : sm_S} {Q : Option sm_V → sm_S → Prop} : sm_call d 140 [v0] S Q = sm_wp d 140 0 [some v0] [] S Q := rfl
theorem ce141 {d : Nat} {v0 v1 : sm_V} {S : sm_S} {Q : Option sm_V → sm_S → Prop} : sm_call d 141 [v0, v1] S Q = sm_wp d 141 0 [some v0, some v1, none, none] [] S Q := rfl
theorem ce142 {d : Nat} {v0 : sm_V} {S : sm_S} {Q : Option sm_V → sm_S → Prop} : sm_call d 142 [v0] S Q = sm_wp d 142 0 [some v0] [] S Q := rfl
theorem ce143 {d : Nat} {v0 : sm_V} {S : sm_S} {Q : Option sm_V → sm_S → Prop} : sm_call d 143 [v0] S Q = sm_wp d 143 0 [some v0] [] S Q := rfl
theorem ce144 {d : Nat} {v0 : sm_V} {S : sm_S} {Q : Option sm_V → sm_S → Prop} : sm_call d 144 [v0] S Q = sm_wp d 144 0 [some v0, none, none] [] S Q := rfl
theorem ce145 {d : Nat} {v0 v1 : sm_V} {S : sm_S} {Q : Option sm_V → sm_S → Prop} : sm_call d 145 [v0, v1] S Q = sm_wp d 145 0 [some v0, some v1] [] S Q := rfl
theorem ce146 {d : Nat} {v0 v1 : sm_V} {S : sm_S} {Q : Option sm_V → sm_S → Prop} : sm_call d 146 [v0, v1] S Q = sm_wp d 146 0 [some v0, some v1] [] S Q := rfl
theorem ce147 {d : Nat} {v0 v1 v2 : sm_V} {S : sm_S} {Q : Option sm_V → sm_S → Prop} : sm_call d 147 [v0, v1, v2] S Q = sm_wp d 147 0 [some v0, some v1, some v2] [] S Q := rfl
theorem ce148 {d : Nat} {v0 : sm_V} {S : sm_S} {Q : Option sm_V → sm_S → Prop} : sm_call d 148 [v0] S Q = sm_wp d 148 0 [some v0] [] S Q := rfl
theorem ce149 {d : Nat} {v0 : sm_V} {S : sm_S} {Q : Option sm_V → sm_S → Prop} : sm_call d 149 [v0] S Q = sm_wp d 149 0 [some v0, none] [] S Q := rfl
theorem ce150 {d : Nat} {v0 : sm_V} {S : sm_S} {Q : Option sm_V → sm_S → Prop} : sm_call d 150 [v0] S Q = sm_wp d 150 0 [some v0, none, none] [] S Q := rfl
theorem ce151 {d : Nat} {v0 : sm_V} {S : sm_S} {Q : Option sm_V → sm_S → Prop} : sm_call d 151 [v0] S Q = sm_wp d 151 0 [some v0, none] [] S Q := rfl
theorem ce152 {d : Nat} {v0 : sm_V} {S : sm_S} {Q : Option sm_V → sm_S → Prop} : sm_call d 152 [v0] S Q = sm_wp d 152 0 [some v0] [] S Q := rfl
theorem ce153 {d : Nat} {v0 : sm_V} {S : sm_S} {Q : Option sm_V → sm_S → Prop} : sm_call d 153 [v0] S Q = sm_wp d 153 0 [some v0] [] S Q := rfl
theorem ce154 {d : Nat} {v0 : sm_V} {S : sm_S} {Q : Option sm_V → sm_S → Prop} : sm_call d 154 [v0] S Q = sm_wp d 154 0 [some v0, none] [] S Q := rfl
theorem ce155 {d : Nat} {v0 : sm_V} {S : sm_S} {Q : Option sm_V → sm_S → Prop} : sm_call d 155 [v0] S Q = sm_wp d 155 0 [some v0] [] S Q := rfl
theorem ce156 {d : Nat} {v0 v1 : sm_V} {S : sm_S} {Q : Option sm_V → sm_S → Prop} : sm_call d 156 [v0, v1] S Q = sm_wp d 156 0 [some v0, some v1, none, none] [] S Q := rfl
theorem ce157 {d : Nat} {v0 v1 : sm_V} {S : sm_S} {Q : Option sm_V → sm_S → Prop} : sm_call d 157 [v0, v1] S Q = sm_wp d 157 0 [some v0, some v1] [] S Q := rfl
theorem ce158 {d : Nat} {v0 v1 v2 : sm_V} {S : sm_S} {Q : Option sm_V → sm_S → Prop} : sm_call d 158 [v0, v1, v2] S Q = sm_wp d 158 0 [some v0, some v1, some v2] [] S Q := rfl
theorem ce159 {d : Nat} {v0 v1 v2 v3 : sm_V} {S : sm_S} {Q : Option sm_V → sm_S → Prop} : sm_call d 159 [v0, v1, v2, v3] S Q = sm_wp d 159 0 [some v0, some v1, some v2, some v3, none, none, none, none] [] S Q := rfl
theorem ce160 {d : Nat} {v0 : sm_V} {S : sm_S} {Q : Option sm_V → sm_S → Prop} : sm_call d 160 [v0] S Q = sm_wp d 160 0 [some v0] [] S Q := rfl
theorem ce161 {d : Nat} {v0 : sm_V} {S : sm_S} {Q : Option sm_V → sm_S → Prop} : sm_call d 161 [v0] S Q = sm_wp d 161 0 [some v0] [] S Q := rfl
theorem ce162 {d : Nat} {v0 v1 v2 : sm_V} {S : sm_S} {Q : Option sm_V → sm_S → Prop} : sm_call d 162 [v0, v1, v2] S Q = sm_wp d 162 0 [some v0, some v1, some v2, none, none] [] S Q := rfl
theorem ce163 {d : Nat} {v0 v1 v2 : sm_V} {S : sm_S} {Q : Option sm_V → sm_S → Prop} : sm_call d 163 [v0, v1, v2] S Q = sm_wp d 163 0 [some v0, some v1, some v2] [] S Q := rfl
theorem ce164 {d : Nat} {v0 v1 v2 : sm_V} {S : sm_S} {Q : Option sm_V → sm_S → Prop} : sm_call d 164 [v0, v1, v2] S Q = sm_wp d 164 0 [some v0, some v1, some v2] [] S Q := rfl
theorem ce165 {d : Nat} {v0 v1 v2 v3 : sm_V} {S : sm_S} {Q : Option sm_V → sm_S → Prop} : sm_call d 165 [v0, v1, v2, v3] S Q = sm_wp d 165 0 [some v0, some v1, some v2, some v3, none, none, none, none, none] [] S Q := rfl
theorem ce166 {d : Nat} {v0 v1 : sm_V} {S : sm_S} {Q : Option sm_V → sm_S → Prop} : sm_call d 166 [v0, v1] S Q = sm_wp d 166 0 [some v0, some v1, none, none] [] S Q := rfl
theorem ce167 {d : Nat} {v0 v1 v2 v3 : sm_V} {S : sm_S} {Q : Option sm_V → sm_S → Prop} : sm_call d 167 [v0, v1, v2, v3] S Q = sm_wp d 167 0 [some v0, some v1, some v2, some v3, none, none, none] [] S Q := rfl
theorem ce168 {d : Nat} {v0 v1 v2 : sm_V} {S : sm_S} {Q : Option sm_V → sm_S → Prop} : sm_call d 168 [v0, v1, v2] S Q = sm_wp d 168 0 [some v0, some v1, some v2, none, none] [] S Q := rfl
theorem ce169 {d : Nat} {v0 v1 v2 v3 v4 v5 : sm_V} {S : sm_S} {Q : Option sm_V → sm_S → Prop} : sm_call d 169 [v0, v1, v2, v3, v4, v5] S Q = sm_wp d 169 0 [some v0, some v1, some v2, some v3, some v4, some v5, none] [] S Q := rfl
theorem ce170 {d : Nat} {v0 v1 : sm_V} {S : sm_S} {Q : Option sm_V → sm_S → Prop} : sm_call d 170 [v0, v1] S Q = sm_wp d 170 0 [some v0, some v1, none, none, none, none, none, none, none, none, none] [] S Q := rfl
theorem ce171 {d : Nat} {v0 : sm_V} {S : sm_S} {Q : Option sm_V → sm_S → Prop} : sm_call d 171 [v0] S Q = sm_wp d 171 0 [some v0, none] [] S Q := rfl
theorem ce172 {d : Nat} {v0 v1 v2 v3 : sm_V} {S : sm_S} {Q : Option sm_V → sm_S → Prop} : sm_call d 172 [v0, v1, v2, v3] S Q = sm_wp d 172 0 [some v0, some v1, some v2, some v3, none] [] S Q := rfl
theorem ce173 {d : Nat} {v0 v1 : sm_V} {S : sm_S} {Q : Option sm_V → sm_S → Prop} : sm_call d 173 [v0, v1] S Q = sm_wp d 173 0 [some v0, some v1, none, none, none, none, none, none] [] S Q := rfl
theorem ce174 {d : Nat} {v0 : sm_V} {S : sm_S} {Q : Option sm_V → sm_S → Prop} : sm_call d 174 [v0] S Q = sm_wp d 174 0 [some v0, none] [] S Q := rfl
theorem ce175 {d : Nat} {v0 : sm_V} {S : sm_S} {Q : Option sm_V → sm_S → Prop} : sm_call d 175 [v0] S Q = sm_wp d 175 0 [some v0, none] [] S Q := rfl
theorem ce176 {d : Nat} {v0 : sm_V} {S : sm_S} {Q : Option sm_V → sm_S → Prop} : sm_call d 176 [v0] S Q = sm_wp d 176 0 [some v0, none] [] S Q := rfl
theorem ce177 {d : Nat} {v0 v1 v2 : sm_V} {S : sm_S} {Q : Option sm_V → sm_S → Prop} : sm_call d 177 [v0, v1, v2] S Q = sm_wp d 177 0 [some v0, some v1, some v2, none, none] [] S Q := rfl
theorem ce178 {d : Nat} {v0 v1 v2 v3 v4 : sm_V} {S : sm_S} {Q : Option sm_V → sm_S → Prop} : sm_call d 178 [v0, v1, v2, v3, v4] S Q = sm_wp d 178 0 [some v0, some v1, some v2, some v3, some v4] [] S Q := rfl
theorem ce179 {d : Nat} {v0 v1 : sm_V} {S : sm_S} {Q : Option sm_V → sm_S → Prop} : sm_call d 179 [v0, v1] S Q = sm_wp d 179 0 [some v0, some v1] [] S Q := rfl
theorem ce180 {d : Nat} {v0 v1 v2 : sm_V} {S : sm_S} {Q : Option sm_V → sm_S → Prop} : sm_call d 180 [v0, v1, v2] S Q = sm_wp d 180 0 [some v0, some v1, some v2, none, none, none, none, none] [] S Q := rfl
theorem ce181 {d : Nat} {v0 v1 v2 v3 : sm_V} {S : sm_S} {Q : Option sm_V → sm_S → Prop} : sm_call d 181 [v0, v1, v2, v3] S Q = sm_wp d 181 0 [some v0, some v1, some v2, some v3, none, none] [] S Q := rfl
theorem ce182 {d : Nat} {v0 : sm_V} {S : sm_S} {Q : Option sm_V → sm_S → Prop} : sm_call d 182 [v0] S Q = sm_wp d 182 0 [some v0, none] [] S Q := rfl
theorem ce183 {d : Nat} {v0 : sm_V} {S : sm_S} {Q : Option sm_V → sm_S → Prop} : sm_call d 183 [v0] S Q = sm_wp d 183 0 [some v0, none] [] S Q := rfl
theorem ce184 {d : Nat} {v0 v1 v2 : sm_V} {S : sm_S} {Q : Option sm_V → sm_S → Prop} : sm_call d 184 [v0, v1, v2] S Q = sm_wp d 184 0 [some v0, some v1, some v2] [] S Q := rfl
theorem ce185 {d : Nat} {v0 v1 v2 v3 v4 : sm_V} {S : sm_S} {Q : Option sm_V → sm_S → Prop} : sm_call d 185 [v0, v1, v2, v3, v4] S Q = sm_wp d 185 0 [some v0, some v1, some v2, some v3, some v4, none, none, none] [] S Q := rfl
theorem ce186 {d : Nat} {v0 v1 : sm_V} {S : sm_S} {Q : Option sm_V → sm_S → Prop} : sm_call d 186 [v0, v1] S Q = sm_wp d 186 0 [some v0, some v1] [] S Q := rfl
theorem ce187 {d : Nat} {v0 v1 v2 v3 : sm_V} {S : sm_S} {Q : Option sm_V → sm_S → Prop} : sm_call d 187 [v0, v1, v2, v3] S Q = sm_wp d 187 0 [some v0, some v1, some v2, some v3, none, none] [] S Q := rfl
theorem ce188 {d : Nat} {v0 v1 v2 v3 : sm_V} {S : sm_S} {Q : Option sm_V → sm_S → Prop} : sm_call d 188 [v0, v1, v2, v3] S Q = sm_wp d 188 0 [some v0, some v1, some v2, some v3, none] [] S Q := rfl
theorem ce189 {d : Nat} {v0 v1 : sm_V} {S : sm_S} {Q : Option sm_V → sm_S → Prop} : sm_call d 189 [v0, v1] S Q = sm_wp d 189 0 [some v0, some v1, none] [] S Q := rfl
theorem ce190 {d : Nat} {v0 v1 v2 : sm_V} {S : sm_S} {Q : Option sm_V → sm_S → Prop} : sm_call d 190 [v0, v1, v2] S Q = sm_wp d 190 0 [some v0, some v1, some v2, none, none, none, none] [] S Q := rfl
theorem ce191 {d : Nat} {v0 v1 v2 v3 : sm_V} {S : sm_S} {Q : Option sm_V → sm_S → Prop} : sm_call d 191 [v0, v1, v2, v3] S Q = sm_wp d 191 0 [some v0, some v1, some v2, some v3, none] [] S Q := rfl
theorem ce192 {d : Nat} {v0 v1 : sm_V} {S : sm_S} {Q : Option sm_V → sm_S → Prop} : sm_call d 192 [v0, v1] S Q = sm_wp d 192 0 [some v0, some v1, none, none, none, none, none, none, none] [] S Q := rfl
theorem ce193 {d : Nat} {v0 v1 v2 : sm_V} {S : sm_S} {Q : Option sm_V → sm_S → Prop} : sm_call d 193 [v0, v1, v2] S Q = sm_wp d 193 0 [some v0, some v1, some v2, none, none, none, none, none] [] S Q := rfl
theorem ce194 {d : Nat} {v0 v1 v2 : sm_V} {S : sm_S} {Q : Option sm_V → sm_S → Prop} : sm_call d 194 [v0, v1, v2] S Q = sm_wp d 194 0 [some v0, some v1, some v2, none] [] S Q := rfl
theorem ce195 {d : Nat} {v0 v1 : sm_V} {S : sm_S} {Q : Option sm_V → sm_S → Prop} : sm_call d 195 [v0, v1] S Q = sm_wp d 195 0 [some v0, some v1, none] [] S Q := rfl
theorem ce196 {d : Nat} {v0 v1 : sm_V} {S : sm_S} {Q : Option sm_V → sm_S → Prop} : sm_call d 196 [v0, v1] S Q = sm_wp d 196 0 [some v0, some v1] [] S Q := rfl
theorem ce197 {d : Nat} {v0 : sm_V} {S : sm_S} {Q : Option sm_V → sm_S → Prop} : sm_call d 197 [v0] S Q = sm_wp d 197 0 [some v0, none, none] [] S Q := rfl
theorem ce198 {d : Nat} {v0 : sm_V} {S : sm_S} {Q : Option sm_V → sm_S → Prop} : sm_call d 198 [v0] S Q = sm_wp d 198 0 [some v0, none, none, none] [] S Q := rfl
theorem ce199 {d : Nat} {v0 : sm_V} {S : sm_S} {Q : Option sm_V → sm_S → Prop} : sm_call d 199 [v0] S Q = sm_wp d 199 0 [some v0] [] S Q := rfl
theorem ce200 {d : Nat} {v0 v1 : sm_V} {S : sm_S} {Q : Option sm_V → sm_S → Prop} : sm_call d 200 [v0, v1] S Q = sm_wp d 200 0 [some v0, some v1] [] S Q := rfl
theorem ce201 {d : Nat} {v0 : sm_V} {S : sm_S} {Q : Option sm_V → sm_S → Prop} : sm_call d 201 [v0] S Q = sm_wp d 201 0 [some v0] [] S Q := rfl
theorem ce202 {d : Nat} {v0 : sm_V} {S : sm_S} {Q : Option sm_V → sm_S → Prop} : sm_call d 202 [v0] S Q = sm_wp d 202 0 [some v0] [] S Q := rfl
theorem ce203 {d : Nat} {v0 v1 : sm_V} {S : sm_S} {Q : Option sm_V → sm_S → Prop} : sm_call d 203 [v0, v1] S Q = sm_wp d 203 0 [some v0, some v1] [] S Q := rfl
theorem ce204 {d : Nat} {v0 v1 : sm_V} {S : sm_S} {Q : Option sm_V → sm_S → Prop} : sm_call d 204 [v0, v1] S Q = sm_wp d 204 0 [some v0, some v1] [] S Q := rfl
theorem ce205 {d : Nat} {v0 v1 : sm_V} {S : sm_S} {Q : Option sm_V → sm_S → Prop} : sm_call d 205 [v0, v1] S Q = sm_wp d 205 0 [some v0, some v1, none, none] [] S Q := rfl
theorem ce206 {d : Nat} {v0 v1 : sm_V} {S : sm_S} {Q : Option sm_V → sm_S → Prop} : sm_call d 206 [v0, v1] S Q = sm_wp d 206 0 [some v0, some v1, none] [] S Q := rfl
theorem ce207 {d : Nat} {v0 v1 v2 : sm_V} {S : sm_S} {Q : Option sm_V → sm_S → Prop} : sm_call d 207 [v0, v1, v2] S Q = sm_wp d 207 0 [some v0, some v1, some v2] [] S Q := rfl
theorem ce208 {d : Nat} {v0 v1 : sm_V} {S : sm_S} {Q : Option sm_V → sm_S → Prop} : sm_call d 208 [v0, v1] S Q = sm_wp d 208 0 [some v0, some v1, none] [] S Q := rfl
