/-! WHERE A METHOD BEGINS -/
section S
variable {d o p0 p1 p2 p3 p4 : Nat} {h : abH} {Q : Option Value → abH → Prop} {x0 x1 x2 x3 x4 : Int32} {u0 u1 : Int64}
theorem am0 : aM d 0 [.ref o] h Q = aW d 0 0 [.ref o] [] h Q := rfl
theorem am1 : aM d 1 [.ref o] h Q = aW d 1 0 [.ref o, .retAddr 0] [] h Q := rfl
theorem am2 : aM d 2 [.ref o, .ref p0] h Q = aW d 2 0 [.ref o, .ref p0] [] h Q := rfl
theorem am3 : aM d 3 [.ref o, .ref p0] h Q = aW d 3 0 [.ref o, .ref p0, .retAddr 0, .retAddr 0, .retAddr 0] [] h Q := rfl
theorem am4 : aM d 4 [.ref o, .ref p0] h Q = aW d 4 0 [.ref o, .ref p0, .retAddr 0] [] h Q := rfl
theorem am5 : aM d 5 [.ref o, .int x0, .int x1, .ref p2] h Q = aW d 5 0 [.ref o, .int x0, .int x1, .ref p2] [] h Q := rfl
theorem am6 : aM d 6 [.ref o, .int x0, .ref p1] h Q = aW d 6 0 [.ref o, .int x0, .ref p1, .retAddr 0, .retAddr 0, .retAddr 0, .retAddr 0, .retAddr 0, .retAddr 0] [] h Q := rfl
theorem am7 : aM d 7 [.ref o, .int x0, .int x1] h Q = aW d 7 0 [.ref o, .int x0, .int x1] [] h Q := rfl
theorem am8 : aM d 8 [.ref o, .int x0, .ref p1] h Q = aW d 8 0 [.ref o, .int x0, .ref p1, .retAddr 0, .retAddr 0] [] h Q := rfl
theorem am9 : aM d 9 [.ref o, .ref p0] h Q = aW d 9 0 [.ref o, .ref p0, .retAddr 0, .retAddr 0] [] h Q := rfl
theorem am10 : aM d 10 [.ref o, .ref p0] h Q = aW d 10 0 [.ref o, .ref p0, .retAddr 0, .retAddr 0, .retAddr 0, .retAddr 0, .retAddr 0] [] h Q := rfl
theorem am11 : aM d 11 [.ref o, .int x0] h Q = aW d 11 0 [.ref o, .int x0, .retAddr 0, .retAddr 0] [] h Q := rfl
theorem am12 : aM d 12 [.ref o, .int x0, .ref p1] h Q = aW d 12 0 [.ref o, .int x0, .ref p1, .retAddr 0] [] h Q := rfl
theorem am13 : aM d 13 [.ref o] h Q = aW d 13 0 [.ref o] [] h Q := rfl
theorem am14 : aM d 14 [.ref o, .ref p0, .ref p1] h Q = aW d 14 0 [.ref o, .ref p0, .ref p1] [] h Q := rfl
theorem am15 : aM d 15 [.ref o, .int x0, .int x1, .int x2] h Q = aW d 15 0 [.ref o, .int x0, .int x1, .int x2, .retAddr 0] [] h Q := rfl
theorem am16 : aM d 16 [.ref o, .int x0, .int x1, .int x2, .int x3] h Q = aW d 16 0 [.ref o, .int x0, .int x1, .int x2, .int x3] [] h Q := rfl
theorem am17 : aM d 17 [.ref o, .int x0] h Q = aW d 17 0 [.ref o, .int x0] [] h Q := rfl
theorem am18 : aM d 18 [.ref o, .int x0, .int x1] h Q = aW d 18 0 [.ref o, .int x0, .int x1, .retAddr 0, .retAddr 0, .retAddr 0] [] h Q := rfl
theorem am19 : aM d 19 [.ref o, .int x0, .int x1, .int x2] h Q = aW d 19 0 [.ref o, .int x0, .int x1, .int x2, .retAddr 0, .retAddr 0, .retAddr 0, .retAddr 0] [] h Q := rfl
theorem am20 : aM d 20 [.int x0] h Q = aW d 20 0 [.int x0] [] h Q := rfl
theorem am21 : aM d 21 [.int x0, .int x1] h Q = aW d 21 0 [.int x0, .int x1, .retAddr 0, .retAddr 0] [] h Q := rfl
theorem am22 : aM d 22 [.int x0] h Q = aW d 22 0 [.int x0] [] h Q := rfl
theorem am23 : aM d 23 [.int x0, .int x1] h Q = aW d 23 0 [.int x0, .int x1] [] h Q := rfl
theorem am24 : aM d 24 [.int x0, .int x1, .int x2] h Q = aW d 24 0 [.int x0, .int x1, .int x2] [] h Q := rfl
theorem am25 : aM d 25 [.ref o] h Q = aW d 25 0 [.ref o] [] h Q := rfl
theorem am26 : aM d 26 [.ref o, .ref p0, .ref p1] h Q = aW d 26 0 [.ref o, .ref p0, .ref p1, .retAddr 0, .retAddr 0, .retAddr 0] [] h Q := rfl
theorem am27 : aM d 27 [.ref o, .int x0, .int x1] h Q = aW d 27 0 [.ref o, .int x0, .int x1, .retAddr 0, .retAddr 0, .retAddr 0, .retAddr 0, .retAddr 0] [] h Q := rfl
theorem am28 : aM d 28 [.ref o, .int x0, .int x1] h Q = aW d 28 0 [.ref o, .int x0, .int x1] [] h Q := rfl
theorem am29 : aM d 29 [.ref o, .int x0] h Q = aW d 29 0 [.ref o, .int x0, .retAddr 0, .retAddr 0, .retAddr 0, .retAddr 0] [] h Q := rfl
theorem am30 : aM d 30 [.ref o, .int x0, .int x1, .int x2] h Q = aW d 30 0 [.ref o, .int x0, .int x1, .int x2, .retAddr 0, .retAddr 0, .retAddr 0] [] h Q := rfl
theorem am31 : aM d 31 [.ref o] h Q = aW d 31 0 [.ref o] [] h Q := rfl
theorem am32 : aM d 32 [.ref o, .ref p0] h Q = aW d 32 0 [.ref o, .ref p0, .retAddr 0, .retAddr 0] [] h Q := rfl
theorem am33 : aM d 33 [.ref o, .ref p0, .int x1] h Q = aW d 33 0 [.ref o, .ref p0, .int x1, .retAddr 0, .retAddr 0, .retAddr 0] [] h Q := rfl
theorem am34 : aM d 34 [.ref o, .ref p0, .int x1, .int x2, .int x3] h Q = aW d 34 0 [.ref o, .ref p0, .int x1, .int x2, .int x3] [] h Q := rfl
theorem am35 : aM d 35 [.ref o, .ref p0] h Q = aW d 35 0 [.ref o, .ref p0, .retAddr 0, .retAddr 0, .retAddr 0] [] h Q := rfl
theorem am36 : aM d 36 [.ref o, .ref p0, .int x1] h Q = aW d 36 0 [.ref o, .ref p0, .int x1, .retAddr 0, .retAddr 0] [] h Q := rfl
theorem am37 : aM d 37 [.ref o] h Q = aW d 37 0 [.ref o] [] h Q := rfl
theorem am38 : aM d 38 [.ref o, .ref p0] h Q = aW d 38 0 [.ref o, .ref p0, .retAddr 0, .retAddr 0] [] h Q := rfl
theorem am39 : aM d 39 [.ref o, .int x0] h Q = aW d 39 0 [.ref o, .int x0, .retAddr 0, .retAddr 0] [] h Q := rfl
theorem am40 : aM d 40 [.ref o, .int x0, .int x1] h Q = aW d 40 0 [.ref o, .int x0, .int x1, .retAddr 0, .retAddr 0, .retAddr 0] [] h Q := rfl
theorem am41 : aM d 41 [.ref o, .int x0] h Q = aW d 41 0 [.ref o, .int x0, .retAddr 0, .retAddr 0, .retAddr 0, .retAddr 0] [] h Q := rfl
theorem am42 : aM d 42 [.ref o] h Q = aW d 42 0 [.ref o] [] h Q := rfl
theorem am43 : aM d 43 [.ref o] h Q = aW d 43 0 [.ref o, .retAddr 0] [] h Q := rfl
theorem am44 : aM d 44 [.ref o, .int x0] h Q = aW d 44 0 [.ref o, .int x0] [] h Q := rfl
theorem am45 : aM d 45 [.ref o, .int x0] h Q = aW d 45 0 [.ref o, .int x0] [] h Q := rfl
theorem am46 : aM d 46 [.ref o, .int x0, .int x1, .int x2] h Q = aW d 46 0 [.ref o, .int x0, .int x1, .int x2, .retAddr 0] [] h Q := rfl
theorem am47 : aM d 47 [.ref o, .int x0] h Q = aW d 47 0 [.ref o, .int x0, .retAddr 0] [] h Q := rfl
theorem am48 : aM d 48 [.ref o, .int x0, .int x1] h Q = aW d 48 0 [.ref o, .int x0, .int x1] [] h Q := rfl
theorem am49 : aM d 49 [.ref o, .int x0, .int x1] h Q = aW d 49 0 [.ref o, .int x0, .int x1] [] h Q := rfl
theorem am50 : aM d 50 [.ref o, .int x0, .int x1] h Q = aW d 50 0 [.ref o, .int x0, .int x1] [] h Q := rfl
theorem am51 : aM d 51 [.ref o, .int x0, .ref p1] h Q = aW d 51 0 [.ref o, .int x0, .ref p1, .retAddr 0, .retAddr 0] [] h Q := rfl
theorem am52 : aM d 52 [.ref o, .int x0] h Q = aW d 52 0 [.ref o, .int x0] [] h Q := rfl
theorem am53 : aM d 53 [.ref o] h Q = aW d 53 0 [.ref o, .retAddr 0, .retAddr 0] [] h Q := rfl
theorem am54 : aM d 54 [.ref o, .int x0, .int x1] h Q = aW d 54 0 [.ref o, .int x0, .int x1, .retAddr 0, .retAddr 0] [] h Q := rfl
theorem am55 : aM d 55 [.ref o] h Q = aW d 55 0 [.ref o] [] h Q := rfl
theorem am56 : aM d 56 [.ref o, .long u0, .int x1] h Q = aW d 56 0 [.ref o, .long u0, .retAddr 1, .int x1, .retAddr 0] [] h Q := rfl
theorem am57 : aM d 57 [.ref o, .ref p0] h Q = aW d 57 0 [.ref o, .ref p0, .retAddr 0] [] h Q := rfl
theorem am58 : aM d 58 [.ref o] h Q = aW d 58 0 [.ref o, .retAddr 0, .retAddr 0] [] h Q := rfl
theorem am59 : aM d 59 [.ref o, .int x0] h Q = aW d 59 0 [.ref o, .int x0] [] h Q := rfl
theorem am60 : aM d 60 [.ref o, .int x0] h Q = aW d 60 0 [.ref o, .int x0, .retAddr 0] [] h Q := rfl
theorem am61 : aM d 61 [.ref o, .int x0] h Q = aW d 61 0 [.ref o, .int x0, .retAddr 0, .retAddr 0] [] h Q := rfl
theorem am62 : aM d 62 [.ref o, .int x0] h Q = aW d 62 0 [.ref o, .int x0, .retAddr 0] [] h Q := rfl
theorem am63 : aM d 63 [.ref o, .int x0] h Q = aW d 63 0 [.ref o, .int x0, .retAddr 0, .retAddr 0] [] h Q := rfl
theorem am64 : aM d 64 [.ref o, .int x0] h Q = aW d 64 0 [.ref o, .int x0, .retAddr 0] [] h Q := rfl
theorem am65 : aM d 65 [.ref o, .int x0] h Q = aW d 65 0 [.ref o, .int x0] [] h Q := rfl
theorem am66 : aM d 66 [.ref o] h Q = aW d 66 0 [.ref o, .retAddr 0, .retAddr 0] [] h Q := rfl
theorem am67 : aM d 67 [.ref o, .int x0] h Q = aW d 67 0 [.ref o, .int x0] [] h Q := rfl
theorem am68 : aM d 68 [.ref o] h Q = aW d 68 0 [.ref o] [] h Q := rfl
theorem am69 : aM d 69 [.ref o] h Q = aW d 69 0 [.ref o] [] h Q := rfl
theorem am70 : aM d 70 [.ref o, .int x0] h Q = aW d 70 0 [.ref o, .int x0] [] h Q := rfl
theorem am71 : aM d 71 [.ref o] h Q = aW d 71 0 [.ref o] [] h Q := rfl
theorem am72 : aM d 72 [.ref o, .ref p0, .ref p1, .int x2, .int x3] h Q = aW d 72 0 [.ref o, .ref p0, .ref p1, .int x2, .int x3, .retAddr 0, .retAddr 0, .retAddr 0, .retAddr 0] [] h Q := rfl
theorem am73 : aM d 73 [.ref o, .int x0] h Q = aW d 73 0 [.ref o, .int x0, .retAddr 0, .retAddr 0] [] h Q := rfl
theorem am74 : aM d 74 [.ref o, .int x0, .int x1] h Q = aW d 74 0 [.ref o, .int x0, .int x1, .retAddr 0, .retAddr 0, .retAddr 0, .retAddr 0] [] h Q := rfl
theorem am75 : aM d 75 [.ref o, .int x0, .int x1] h Q = aW d 75 0 [.ref o, .int x0, .int x1, .retAddr 0] [] h Q := rfl
theorem am76 : aM d 76 [.ref o, .int x0, .int x1] h Q = aW d 76 0 [.ref o, .int x0, .int x1, .retAddr 0, .retAddr 0] [] h Q := rfl
theorem am77 : aM d 77 [.ref o] h Q = aW d 77 0 [.ref o] [] h Q := rfl
theorem am78 : aM d 78 [.ref o, .int x0, .int x1] h Q = aW d 78 0 [.ref o, .int x0, .int x1, .retAddr 0] [] h Q := rfl
theorem am79 : aM d 79 [.ref o, .int x0, .int x1] h Q = aW d 79 0 [.ref o, .int x0, .int x1] [] h Q := rfl
theorem am80 : aM d 80 [.ref o, .int x0, .int x1] h Q = aW d 80 0 [.ref o, .int x0, .int x1] [] h Q := rfl
theorem am81 : aM d 81 [.ref o] h Q = aW d 81 0 [.ref o] [] h Q := rfl
theorem am82 : aM d 82 [.ref o, .ref p0, .ref p1] h Q = aW d 82 0 [.ref o, .ref p0, .ref p1] [] h Q := rfl
theorem am83 : aM d 83 [.ref o, .ref p0, .ref p1] h Q = aW d 83 0 [.ref o, .ref p0, .ref p1, .retAddr 0, .retAddr 0, .retAddr 0] [] h Q := rfl
theorem am84 : aM d 84 [.ref o, .ref p0] h Q = aW d 84 0 [.ref o, .ref p0, .retAddr 0] [] h Q := rfl
theorem am85 : aM d 85 [.ref o] h Q = aW d 85 0 [.ref o, .retAddr 0, .retAddr 0, .retAddr 0] [] h Q := rfl
theorem am86 : aM d 86 [.ref o, .int x0] h Q = aW d 86 0 [.ref o, .int x0, .retAddr 0] [] h Q := rfl
theorem am87 : aM d 87 [.ref o] h Q = aW d 87 0 [.ref o, .retAddr 0, .retAddr 0, .retAddr 0] [] h Q := rfl
theorem am88 : aM d 88 [.ref o] h Q = aW d 88 0 [.ref o, .retAddr 0, .retAddr 0, .retAddr 0] [] h Q := rfl
theorem am89 : aM d 89 [.ref o] h Q = aW d 89 0 [.ref o, .retAddr 0, .retAddr 0] [] h Q := rfl
theorem am90 : aM d 90 [.ref o, .int x0] h Q = aW d 90 0 [.ref o, .int x0] [] h Q := rfl
theorem am91 : aM d 91 [.ref o, .int x0, .int x1] h Q = aW d 91 0 [.ref o, .int x0, .int x1] [] h Q := rfl
theorem am92 : aM d 92 [.ref o, .int x0, .int x1] h Q = aW d 92 0 [.ref o, .int x0, .int x1, .retAddr 0, .retAddr 0, .retAddr 0] [] h Q := rfl
theorem am93 : aM d 93 [.ref o, .int x0] h Q = aW d 93 0 [.ref o, .int x0, .retAddr 0, .retAddr 0, .retAddr 0] [] h Q := rfl
theorem am94 : aM d 94 [.ref o] h Q = aW d 94 0 [.ref o, .retAddr 0] [] h Q := rfl
theorem am95 : aM d 95 [.ref o, .long u0, .int x1] h Q = aW d 95 0 [.ref o, .long u0, .retAddr 1, .int x1] [] h Q := rfl
theorem am96 : aM d 96 [.ref o] h Q = aW d 96 0 [.ref o, .retAddr 0, .retAddr 0] [] h Q := rfl
theorem am97 : aM d 97 [.ref o, .int x0, .int x1] h Q = aW d 97 0 [.ref o, .int x0, .int x1, .retAddr 0] [] h Q := rfl
theorem am98 : aM d 98 [.ref o, .int x0] h Q = aW d 98 0 [.ref o, .int x0, .retAddr 0, .retAddr 0] [] h Q := rfl
theorem am99 : aM d 99 [.ref o, .int x0] h Q = aW d 99 0 [.ref o, .int x0, .retAddr 0] [] h Q := rfl
theorem am100 : aM d 100 [.ref o, .int x0] h Q = aW d 100 0 [.ref o, .int x0, .retAddr 0] [] h Q := rfl
theorem am101 : aM d 101 [.ref o, .int x0] h Q = aW d 101 0 [.ref o, .int x0, .retAddr 0] [] h Q := rfl
theorem am102 : aM d 102 [.ref o, .int x0] h Q = aW d 102 0 [.ref o, .int x0, .retAddr 0] [] h Q := rfl
theorem am103 : aM d 103 [.ref o, .int x0, .int x1] h Q = aW d 103 0 [.ref o, .int x0, .int x1] [] h Q := rfl
theorem am104 : aM d 104 [.ref o, .int x0, .int x1] h Q = aW d 104 0 [.ref o, .int x0, .int x1] [] h Q := rfl
theorem am105 : aM d 105 [.ref o, .int x0] h Q = aW d 105 0 [.ref o, .int x0] [] h Q := rfl
theorem am106 : aM d 106 [.ref o, .int x0] h Q = aW d 106 0 [.ref o, .int x0, .retAddr 0] [] h Q := rfl
theorem am107 : aM d 107 [.ref o, .int x0] h Q = aW d 107 0 [.ref o, .int x0] [] h Q := rfl
theorem am108 : aM d 108 [.ref o, .int x0, .int x1] h Q = aW d 108 0 [.ref o, .int x0, .int x1, .retAddr 0] [] h Q := rfl
theorem am109 : aM d 109 [.ref o] h Q = aW d 109 0 [.ref o, .retAddr 0, .retAddr 0] [] h Q := rfl
theorem am110 : aM d 110 [.ref o, .int x0, .int x1, .int x2] h Q = aW d 110 0 [.ref o, .int x0, .int x1, .int x2, .retAddr 0, .retAddr 0] [] h Q := rfl
theorem am111 : aM d 111 [.ref o] h Q = aW d 111 0 [.ref o] [] h Q := rfl
theorem am112 : aM d 112 [.ref o, .int x0] h Q = aW d 112 0 [.ref o, .int x0] [] h Q := rfl
theorem am113 : aM d 113 [.ref o, .int x0] h Q = aW d 113 0 [.ref o, .int x0] [] h Q := rfl
theorem am114 : aM d 114 [.ref o, .int x0] h Q = aW d 114 0 [.ref o, .int x0, .retAddr 0] [] h Q := rfl
theorem am115 : aM d 115 [.ref o, .int x0] h Q = aW d 115 0 [.ref o, .int x0, .retAddr 0] [] h Q := rfl
theorem am116 : aM d 116 [.ref o] h Q = aW d 116 0 [.ref o] [] h Q := rfl
theorem am117 : aM d 117 [.ref o, .int x0, .int x1] h Q = aW d 117 0 [.ref o, .int x0, .int x1] [] h Q := rfl
theorem am118 : aM d 118 [.ref o, .int x0] h Q = aW d 118 0 [.ref o, .int x0] [] h Q := rfl
theorem am119 : aM d 119 [.ref o] h Q = aW d 119 0 [.ref o, .retAddr 0] [] h Q := rfl
theorem am120 : aM d 120 [.ref o] h Q = aW d 120 0 [.ref o] [] h Q := rfl
theorem am121 : aM d 121 [.ref o] h Q = aW d 121 0 [.ref o] [] h Q := rfl
theorem am122 : aM d 122 [.ref o, .int x0, .int x1, .int x2, .int x3] h Q = aW d 122 0 [.ref o, .int x0, .int x1, .int x2, .int x3] [] h Q := rfl
theorem am123 : aM d 123 [.ref o, .int x0] h Q = aW d 123 0 [.ref o, .int x0] [] h Q := rfl
theorem am124 : aM d 124 [.ref o, .int x0, .int x1, .int x2] h Q = aW d 124 0 [.ref o, .int x0, .int x1, .int x2] [] h Q := rfl
theorem am125 : aM d 125 [.ref o, .int x0, .int x1, .int x2] h Q = aW d 125 0 [.ref o, .int x0, .int x1, .int x2] [] h Q := rfl
theorem am126 : aM d 126 [.ref o, .int x0, .int x1, .int x2, .int x3, .int x4] h Q = aW d 126 0 [.ref o, .int x0, .int x1, .int x2, .int x3, .int x4, .retAddr 0, .retAddr 0] [] h Q := rfl
theorem am127 : aM d 127 [.ref o, .int x0, .int x1, .int x2, .int x3] h Q = aW d 127 0 [.ref o, .int x0, .int x1, .int x2, .int x3, .retAddr 0, .retAddr 0, .retAddr 0, .retAddr 0, .retAddr 0] [] h Q := rfl
theorem am128 : aM d 128 [.ref o, .int x0, .int x1, .int x2] h Q = aW d 128 0 [.ref o, .int x0, .int x1, .int x2, .retAddr 0] [] h Q := rfl
theorem am129 : aM d 129 [.int x0] h Q = aW d 129 0 [.int x0] [] h Q := rfl
theorem am130 : aM d 130 [.int x0] h Q = aW d 130 0 [.int x0] [] h Q := rfl
theorem am131 : aM d 131 [.int x0] h Q = aW d 131 0 [.int x0] [] h Q := rfl
theorem am132 : aM d 132 [.int x0, .int x1, .int x2, .int x3] h Q = aW d 132 0 [.int x0, .int x1, .int x2, .int x3] [] h Q := rfl
theorem am133 : aM d 133 [.ref o] h Q = aW d 133 0 [.ref o, .retAddr 0] [] h Q := rfl
theorem am134 : aM d 134 [.ref o] h Q = aW d 134 0 [.ref o] [] h Q := rfl
theorem am135 : aM d 135 [.ref o, .int x0] h Q = aW d 135 0 [.ref o, .int x0] [] h Q := rfl
theorem am136 : aM d 136 [.ref o, .int x0] h Q = aW d 136 0 [.ref o, .int x0, .retAddr 0, .retAddr 0] [] h Q := rfl
theorem am137 : aM d 137 [.ref o, .int x0, .int x1] h Q = aW d 137 0 [.ref o, .int x0, .int x1, .retAddr 0] [] h Q := rfl
theorem am138 : aM d 138 [.ref o] h Q = aW d 138 0 [.ref o] [] h Q := rfl
theorem am139 : aM d 139 [.int x0, .int x1, .int x2] h Q = aW d 139 0 [.int x0, .int x1, .int x2] [] h Q := rfl
theorem am140 : aM d 140 [.ref o, .long u0, .int x1] h Q = aW d 140 0 [.ref o, .long u0, .retAddr 1, .int x1, .retAddr 0] [] h Q := rfl
theorem am141 : aM d 141 [.ref o] h Q = aW d 141 0 [.ref o] [] h Q := rfl
theorem am142 : aM d 142 [.ref o] h Q = aW d 142 0 [.ref o, .retAddr 0, .retAddr 0] [] h Q := rfl
theorem am143 : aM d 143 [.ref o, .int x0] h Q = aW d 143 0 [.ref o, .int x0, .retAddr 0] [] h Q := rfl
theorem am144 : aM d 144 [.ref o, .int x0] h Q = aW d 144 0 [.ref o, .int x0, .retAddr 0, .retAddr 0, .retAddr 0] [] h Q := rfl
theorem am145 : aM d 145 [.ref o, .int x0] h Q = aW d 145 0 [.ref o, .int x0, .retAddr 0] [] h Q := rfl
theorem am146 : aM d 146 [.ref o, .int x0, .int x1, .int x2] h Q = aW d 146 0 [.ref o, .int x0, .int x1, .int x2, .retAddr 0] [] h Q := rfl
theorem am147 : aM d 147 [.ref o] h Q = aW d 147 0 [.ref o, .retAddr 0, .retAddr 0, .retAddr 0] [] h Q := rfl
theorem am148 : aM d 148 [.ref o] h Q = aW d 148 0 [.ref o, .retAddr 0, .retAddr 0, .retAddr 0] [] h Q := rfl
theorem am149 : aM d 149 [.ref o] h Q = aW d 149 0 [.ref o, .retAddr 0] [] h Q := rfl
theorem am150 : aM d 150 [.ref o] h Q = aW d 150 0 [.ref o, .retAddr 0, .retAddr 0] [] h Q := rfl
theorem am151 : aM d 151 [.ref o] h Q = aW d 151 0 [.ref o, .retAddr 0] [] h Q := rfl
theorem am152 : aM d 152 [.ref o, .int x0, .int x1] h Q = aW d 152 0 [.ref o, .int x0, .int x1, .retAddr 0] [] h Q := rfl
theorem am153 : aM d 153 [.ref o, .int x0] h Q = aW d 153 0 [.ref o, .int x0] [] h Q := rfl
theorem am154 : aM d 154 [.ref o, .int x0] h Q = aW d 154 0 [.ref o, .int x0, .retAddr 0, .retAddr 0, .retAddr 0] [] h Q := rfl
theorem am155 : aM d 155 [.int x0, .int x1] h Q = aW d 155 0 [.int x0, .int x1] [] h Q := rfl
theorem am156 : aM d 156 [.int x0, .int x1, .int x2] h Q = aW d 156 0 [.int x0, .int x1, .int x2] [] h Q := rfl
theorem am157 : aM d 157 [.int x0] h Q = aW d 157 0 [.int x0] [] h Q := rfl
theorem am158 : aM d 158 [.ref o, .int x0, .int x1, .int x2, .int x3] h Q = aW d 158 0 [.ref o, .int x0, .int x1, .int x2, .int x3] [] h Q := rfl
theorem am159 : aM d 159 [.ref o, .int x0] h Q = aW d 159 0 [.ref o, .int x0, .retAddr 0, .retAddr 0] [] h Q := rfl
theorem am160 : aM d 160 [.ref o, .int x0, .int x1] h Q = aW d 160 0 [.ref o, .int x0, .int x1, .retAddr 0] [] h Q := rfl
theorem am161 : aM d 161 [.ref o, .int x0] h Q = aW d 161 0 [.ref o, .int x0, .retAddr 0] [] h Q := rfl
theorem am162 : aM d 162 [.ref o, .int x0, .int x1] h Q = aW d 162 0 [.ref o, .int x0, .int x1, .retAddr 0, .retAddr 0] [] h Q := rfl
theorem am163 : aM d 163 [.ref o] h Q = aW d 163 0 [.ref o, .retAddr 0, .retAddr 0, .retAddr 0] [] h Q := rfl
theorem am164 : aM d 164 [.ref o, .int x0] h Q = aW d 164 0 [.ref o, .int x0, .retAddr 0] [] h Q := rfl
theorem am165 : aM d 165 [.ref o, .int x0, .int x1] h Q = aW d 165 0 [.ref o, .int x0, .int x1] [] h Q := rfl
theorem am166 : aM d 166 [.ref o, .int x0] h Q = aW d 166 0 [.ref o, .int x0, .retAddr 0, .retAddr 0, .retAddr 0] [] h Q := rfl
theorem am167 : aM d 167 [.ref o, .int x0] h Q = aW d 167 0 [.ref o, .int x0] [] h Q := rfl
theorem am168 : aM d 168 [.ref o, .int x0] h Q = aW d 168 0 [.ref o, .int x0] [] h Q := rfl
theorem am169 : aM d 169 [.ref o, .int x0] h Q = aW d 169 0 [.ref o, .int x0, .retAddr 0, .retAddr 0, .retAddr 0] [] h Q := rfl
theorem am170 : aM d 170 [.ref o, .int x0] h Q = aW d 170 0 [.ref o, .int x0, .retAddr 0, .retAddr 0, .retAddr 0, .retAddr 0] [] h Q := rfl
theorem am171 : aM d 171 [.ref o, .int x0] h Q = aW d 171 0 [.ref o, .int x0] [] h Q := rfl
theorem am172 : aM d 172 [.ref o, .int x0] h Q = aW d 172 0 [.ref o, .int x0] [] h Q := rfl
theorem am173 : aM d 173 [.ref o, .int x0] h Q = aW d 173 0 [.ref o, .int x0, .retAddr 0, .retAddr 0, .retAddr 0, .retAddr 0] [] h Q := rfl
theorem am174 : aM d 174 [.ref o, .int x0, .int x1] h Q = aW d 174 0 [.ref o, .int x0, .int x1] [] h Q := rfl
theorem am175 : aM d 175 [.ref o, .int x0, .int x1] h Q = aW d 175 0 [.ref o, .int x0, .int x1] [] h Q := rfl
theorem am176 : aM d 176 [.ref o, .int x0, .int x1] h Q = aW d 176 0 [.ref o, .int x0, .int x1, .retAddr 0] [] h Q := rfl
theorem am177 : aM d 177 [.ref o, .int x0, .int x1] h Q = aW d 177 0 [.ref o, .int x0, .int x1, .retAddr 0, .retAddr 0, .retAddr 0, .retAddr 0, .retAddr 0, .retAddr 0, .retAddr 0] [] h Q := rfl
theorem am178 : aM d 178 [.ref o, .int x0, .int x1] h Q = aW d 178 0 [.ref o, .int x0, .int x1, .retAddr 0, .retAddr 0] [] h Q := rfl
theorem am179 : aM d 179 [.ref o, .int x0] h Q = aW d 179 0 [.ref o, .int x0, .retAddr 0, .retAddr 0, .retAddr 0, .retAddr 0, .retAddr 0] [] h Q := rfl
theorem am180 : aM d 180 [.ref o, .int x0, .int x1] h Q = aW d 180 0 [.ref o, .int x0, .int x1, .retAddr 0] [] h Q := rfl
theorem am181 : aM d 181 [.int x0, .int x1, .int x2, .int x3] h Q = aW d 181 0 [.int x0, .int x1, .int x2, .int x3] [] h Q := rfl
theorem am182 : aM d 182 [.ref o, .int x0, .int x1] h Q = aW d 182 0 [.ref o, .int x0, .int x1, .retAddr 0, .retAddr 0, .retAddr 0, .retAddr 0, .retAddr 0, .retAddr 0, .retAddr 0, .retAddr 0] [] h Q := rfl
theorem am183 : aM d 183 [.ref o, .int x0] h Q = aW d 183 0 [.ref o, .int x0, .retAddr 0, .retAddr 0, .retAddr 0, .retAddr 0, .retAddr 0, .retAddr 0] [] h Q := rfl
theorem am184 : aM d 184 [.ref o, .int x0] h Q = aW d 184 0 [.ref o, .int x0, .retAddr 0] [] h Q := rfl
theorem am185 : aM d 185 [.ref o, .int x0] h Q = aW d 185 0 [.ref o, .int x0, .retAddr 0, .retAddr 0, .retAddr 0, .retAddr 0, .retAddr 0, .retAddr 0] [] h Q := rfl
theorem am186 : aM d 186 [.ref o, .int x0] h Q = aW d 186 0 [.ref o, .int x0] [] h Q := rfl
theorem am187 : aM d 187 [.ref o, .int x0, .int x1] h Q = aW d 187 0 [.ref o, .int x0, .int x1, .retAddr 0] [] h Q := rfl
theorem am188 : aM d 188 [.ref o, .int x0, .int x1] h Q = aW d 188 0 [.ref o, .int x0, .int x1, .retAddr 0, .retAddr 0, .retAddr 0, .retAddr 0] [] h Q := rfl
theorem am189 : aM d 189 [.ref o] h Q = aW d 189 0 [.ref o, .retAddr 0, .retAddr 0] [] h Q := rfl
theorem am190 : aM d 190 [.ref o, .int x0, .int x1] h Q = aW d 190 0 [.ref o, .int x0, .int x1] [] h Q := rfl
theorem am191 : aM d 191 [.ref o, .int x0, .int x1] h Q = aW d 191 0 [.ref o, .int x0, .int x1, .retAddr 0, .retAddr 0] [] h Q := rfl
theorem am192 : aM d 192 [.ref o, .int x0, .int x1] h Q = aW d 192 0 [.ref o, .int x0, .int x1, .retAddr 0, .retAddr 0, .retAddr 0] [] h Q := rfl
theorem am193 : aM d 193 [.ref o, .int x0, .int x1, .int x2] h Q = aW d 193 0 [.ref o, .int x0, .int x1, .int x2, .retAddr 0, .retAddr 0, .retAddr 0, .retAddr 0, .retAddr 0] [] h Q := rfl
theorem am194 : aM d 194 [.ref o] h Q = aW d 194 0 [.ref o] [] h Q := rfl
theorem am195 : aM d 195 [.ref o] h Q = aW d 195 0 [.ref o, .retAddr 0, .retAddr 0, .retAddr 0, .retAddr 0] [] h Q := rfl
theorem am196 : aM d 196 [.ref o, .int x0] h Q = aW d 196 0 [.ref o, .int x0, .retAddr 0, .retAddr 0, .retAddr 0] [] h Q := rfl
theorem am197 : aM d 197 [.ref o, .int x0] h Q = aW d 197 0 [.ref o, .int x0] [] h Q := rfl
theorem am198 : aM d 198 [.ref o, .int x0] h Q = aW d 198 0 [.ref o, .int x0, .retAddr 0, .retAddr 0, .retAddr 0, .retAddr 0] [] h Q := rfl
theorem am199 : aM d 199 [.ref o, .int x0] h Q = aW d 199 0 [.ref o, .int x0, .retAddr 0] [] h Q := rfl
theorem am200 : aM d 200 [.ref o] h Q = aW d 200 0 [.ref o, .retAddr 0, .retAddr 0] [] h Q := rfl
theorem am201 : aM d 201 [.ref o, .int x0] h Q = aW d 201 0 [.ref o, .int x0, .retAddr 0, .retAddr 0] [] h Q := rfl
theorem am202 : aM d 202 [.ref o, .int x0] h Q = aW d 202 0 [.ref o, .int x0, .retAddr 0, .retAddr 0, .retAddr 0, .retAddr 0, .retAddr 0, .retAddr 0, .retAddr 0] [] h Q := rfl
theorem am203 : aM d 203 [.ref o, .int x0] h Q = aW d 203 0 [.ref o, .int x0, .retAddr 0, .retAddr 0] [] h Q := rfl
theorem am204 : aM d 204 [.ref o] h Q = aW d 204 0 [.ref o, .retAddr 0, .retAddr 0, .retAddr 0, .retAddr 0] [] h Q := rfl
theorem am205 : aM d 205 [.ref o, .int x0] h Q = aW d 205 0 [.ref o, .int x0, .retAddr 0] [] h Q := rfl
theorem am206 : aM d 206 [.ref o] h Q = aW d 206 0 [.ref o, .retAddr 0, .retAddr 0, .retAddr 0, .retAddr 0, .retAddr 0, .retAddr 0] [] h Q := rfl
theorem am207 : aM d 207 [.ref o, .int x0, .int x1] h Q = aW d 207 0 [.ref o, .int x0, .int x1] [] h Q := rfl
theorem am208 : aM d 208 [.ref o, .int x0] h Q = aW d 208 0 [.ref o, .int x0, .retAddr 0] [] h Q := rfl
theorem am209 : aM d 209 [.ref o] h Q = aW d 209 0 [.ref o, .retAddr 0, .retAddr 0] [] h Q := rfl
theorem am210 : aM d 210 [.ref o] h Q = aW d 210 0 [.ref o, .retAddr 0] [] h Q := rfl
theorem am211 : aM d 211 [.ref o] h Q = aW d 211 0 [.ref o, .retAddr 0] [] h Q := rfl
theorem am212 : aM d 212 [.ref o, .int x0] h Q = aW d 212 0 [.ref o, .int x0] [] h Q := rfl
theorem am213 : aM d 213 [.ref o, .int x0, .int x1, .int x2] h Q = aW d 213 0 [.ref o, .int x0, .int x1, .int x2, .retAddr 0] [] h Q := rfl
theorem am214 : aM d 214 [.ref o, .int x0, .int x1, .int x2] h Q = aW d 214 0 [.ref o, .int x0, .int x1, .int x2] [] h Q := rfl
theorem am215 : aM d 215 [.ref o, .int x0, .int x1, .int x2, .int x3, .int x4] h Q = aW d 215 0 [.ref o, .int x0, .int x1, .int x2, .int x3, .int x4, .retAddr 0, .retAddr 0, .retAddr 0, .retAddr 0] [] h Q := rfl
theorem am216 : aM d 216 [.ref o, .int x0, .int x1, .int x2, .int x3] h Q = aW d 216 0 [.ref o, .int x0, .int x1, .int x2, .int x3, .retAddr 0, .retAddr 0, .retAddr 0, .retAddr 0, .retAddr 0] [] h Q := rfl
theorem am217 : aM d 217 [.int x0, .int x1] h Q = aW d 217 0 [.int x0, .int x1] [] h Q := rfl
theorem am218 : aM d 218 [.ref o, .int x0, .int x1, .int x2] h Q = aW d 218 0 [.ref o, .int x0, .int x1, .int x2] [] h Q := rfl
theorem am219 : aM d 219 [.int x0] h Q = aW d 219 0 [.int x0] [] h Q := rfl
theorem am220 : aM d 220 [.ref p0] h Q = aW d 220 0 [.ref p0, .retAddr 0, .retAddr 0, .retAddr 0] [] h Q := rfl
end S
