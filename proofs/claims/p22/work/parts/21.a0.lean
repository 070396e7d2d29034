def cLo (k j : Nat) : Int := cond (Nat.ble 336 k) (-2147483648) (cond (Nat.ble 168 k) (cond (Nat.ble 252 k) (cond (Nat.ble 294 k) (cond (Nat.ble 315 k) (cond (Nat.ble 325 k) (cond (Nat.ble 330 k) (cond (Nat.ble 333 k) (cond (Nat.ble 334 k) (cond (Nat.ble 335 k) ((-128)) ((-2147483648))) ((-2147483648))) ((-2147483648))) (cond (Nat.ble 327 k) ((-2147483648)) (cond (Nat.ble 326 k) (0) (cond (Nat.beq j 0) 0 ((-2147483648)))))) (cond (Nat.ble 320 k) (cond (Nat.ble 322 k) (cond (Nat.ble 323 k) (cond (Nat.ble 324 k) ((-2147483648)) (0)) ((-2147483648))) ((-2147483648))) (cond (Nat.ble 317 k) ((-2147483648)) (cond (Nat.ble 316 k) ((-2147483648)) ((-2)))))) (cond (Nat.ble 304 k) (cond (Nat.ble 309 k) (cond (Nat.ble 312 k) (cond (Nat.ble 313 k) (cond (Nat.ble 314 k) (cond (Nat.beq j 0) (-3) (cond (Nat.beq j 1) (-20) ((-2147483648)))) ((-2147483648))) ((-2))) (cond (Nat.ble 310 k) (cond (Nat.ble 311 k) (cond (Nat.beq j 0) (-3) (cond (Nat.beq j 1) (-20) ((-2147483648)))) ((-2147483648))) ((-2)))) (cond (Nat.ble 306 k) (cond (Nat.ble 307 k) (cond (Nat.ble 308 k) (cond (Nat.beq j 0) (-3) (cond (Nat.beq j 1) (-20) ((-2147483648)))) ((-2147483648))) ((-2))) (cond (Nat.ble 305 k) (cond (Nat.beq j 0) (-3) (cond (Nat.beq j 1) (-20) ((-2147483648)))) ((-2147483648))))) (cond (Nat.ble 299 k) (cond (Nat.ble 301 k) (cond (Nat.ble 302 k) (cond (Nat.ble 303 k) ((-2)) (cond (Nat.beq j 0) (-3) (cond (Nat.beq j 1) (-20) ((-2147483648))))) ((-2147483648))) (cond (Nat.ble 300 k) ((-2)) (cond (Nat.beq j 0) (-3) (cond (Nat.beq j 1) (-20) ((-2147483648)))))) (cond (Nat.ble 296 k) (cond (Nat.ble 297 k) (cond (Nat.ble 298 k) ((-2147483648)) ((-2))) (cond (Nat.beq j 0) (-3) (cond (Nat.beq j 1) (-20) ((-2147483648))))) (cond (Nat.ble 295 k) ((-2147483648)) ((-2))))))) (cond (Nat.ble 273 k) (cond (Nat.ble 283 k) (cond (Nat.ble 288 k) (cond (Nat.ble 291 k) (cond (Nat.ble 292 k) (cond (Nat.ble 293 k) (cond (Nat.beq j 0) (-3) (cond (Nat.beq j 1) (-20) ((-2147483648)))) ((-2147483648))) ((-2))) (cond (Nat.ble 289 k) (cond (Nat.ble 290 k) (cond (Nat.beq j 0) (-3) (cond (Nat.beq j 1) (-20) ((-2147483648)))) ((-2147483648))) ((-2)))) (cond (Nat.ble 285 k) (cond (Nat.ble 286 k) (cond (Nat.ble 287 k) (cond (Nat.beq j 0) (-3) (cond (Nat.beq j 1) (-20) ((-2147483648)))) ((-2147483648))) ((-2))) (cond (Nat.ble 284 k) (cond (Nat.beq j 0) (-3) (cond (Nat.beq j 1) (-20) ((-2147483648)))) ((-2147483648))))) (cond (Nat.ble 278 k) (cond (Nat.ble 280 k) (cond (Nat.ble 281 k) (cond (Nat.ble 282 k) ((-2)) (cond (Nat.beq j 0) (-3) (cond (Nat.beq j 1) (-20) ((-2147483648))))) ((-2147483648))) (cond (Nat.ble 279 k) ((-2)) (cond (Nat.beq j 0) (-3) (cond (Nat.beq j 1) (-20) ((-2147483648)))))) (cond (Nat.ble 275 k) (cond (Nat.ble 276 k) (cond (Nat.ble 277 k) ((-2147483648)) ((-2))) (cond (Nat.beq j 0) (-3) (cond (Nat.beq j 1) (-20) ((-2147483648))))) (cond (Nat.ble 274 k) ((-2147483648)) ((-2)))))) (cond (Nat.ble 262 k) (cond (Nat.ble 267 k) (cond (Nat.ble 270 k) (cond (Nat.ble 271 k) (cond (Nat.ble 272 k) (cond (Nat.beq j 0) (-3) (cond (Nat.beq j 1) (-20) ((-2147483648)))) ((-2147483648))) ((-2))) (cond (Nat.ble 268 k) (cond (Nat.ble 269 k) (cond (Nat.beq j 0) (-3) (cond (Nat.beq j 1) (-20) ((-2147483648)))) ((-2147483648))) ((-2)))) (cond (Nat.ble 264 k) (cond (Nat.ble 265 k) (cond (Nat.ble 266 k) (cond (Nat.beq j 0) (-3) (cond (Nat.beq j 1) (-20) ((-2147483648)))) ((-2147483648))) ((-2))) (cond (Nat.ble 263 k) (cond (Nat.beq j 0) (-3) (cond (Nat.beq j 1) (-20) ((-2147483648)))) ((-2147483648))))) (cond (Nat.ble 257 k) (cond (Nat.ble 259 k) (cond (Nat.ble 260 k) (cond (Nat.ble 261 k) ((-2)) (cond (Nat.beq j 0) (-3) (cond (Nat.beq j 1) (-20) ((-2147483648))))) ((-2147483648))) (cond (Nat.ble 258 k) ((-2)) (cond (Nat.beq j 0) (-3) (cond (Nat.beq j 1) (-20) ((-2147483648)))))) (cond (Nat.ble 254 k) (cond (Nat.ble 255 k) ((-2147483648)) (0)) ((-2147483648))))))) (cond (Nat.ble 210 k) (cond (Nat.ble 231 k) (cond (Nat.ble 241 k) (cond (Nat.ble 246 k) (cond (Nat.ble 249 k) ((-2147483648)) (cond (Nat.ble 247 k) (0) ((-2147483648)))) (cond (Nat.ble 243 k) (cond (Nat.ble 244 k) (cond (Nat.ble 245 k) ((-2147483648)) ((-20))) ((-3))) (cond (Nat.ble 242 k) (cond (Nat.beq j 0) 0 (cond (Nat.beq j 5) 1 (cond (Nat.beq j 6) 0 (cond (Nat.beq j 15) 0 ((-2147483648)))))) (cond (Nat.beq j 2) 0 ((-2147483648)))))) (cond (Nat.ble 236 k) (cond (Nat.ble 238 k) (cond (Nat.ble 239 k) (cond (Nat.ble 240 k) ((-2147483648)) ((-2))) (cond (Nat.beq j 0) (-3) (cond (Nat.beq j 1) (-20) ((-2147483648))))) (cond (Nat.ble 237 k) ((-2147483648)) ((-2)))) (cond (Nat.ble 233 k) (cond (Nat.ble 234 k) (cond (Nat.ble 235 k) (cond (Nat.beq j 0) (-3) (cond (Nat.beq j 1) (-20) ((-2147483648)))) ((-2147483648))) ((-2))) (cond (Nat.ble 232 k) (cond (Nat.beq j 0) (-3) (cond (Nat.beq j 1) (-20) ((-2147483648)))) ((-2147483648)))))) (cond (Nat.ble 220 k) (cond (Nat.ble 225 k) (cond (Nat.ble 228 k) (cond (Nat.ble 229 k) (cond (Nat.ble 230 k) ((-2)) (cond (Nat.beq j 0) (-3) (cond (Nat.beq j 1) (-20) ((-2147483648))))) ((-2147483648))) (cond (Nat.ble 226 k) (cond (Nat.ble 227 k) ((-2)) (cond (Nat.beq j 0) (-3) (cond (Nat.beq j 1) (-20) ((-2147483648))))) ((-2147483648)))) (cond (Nat.ble 222 k) (cond (Nat.ble 223 k) (cond (Nat.ble 224 k) ((-2)) (cond (Nat.beq j 0) (-3) (cond (Nat.beq j 1) (-20) ((-2147483648))))) ((-2147483648))) (cond (Nat.ble 221 k) ((-2)) (cond (Nat.beq j 0) (-3) (cond (Nat.beq j 1) (-20) ((-2147483648))))))) (cond (Nat.ble 215 k) (cond (Nat.ble 217 k) (cond (Nat.ble 218 k) (cond (Nat.ble 219 k) ((-2147483648)) ((-2))) (cond (Nat.beq j 0) (-3) (cond (Nat.beq j 1) (-20) ((-2147483648))))) (cond (Nat.ble 216 k) ((-2147483648)) ((-2)))) (cond (Nat.ble 212 k) (cond (Nat.ble 213 k) (cond (Nat.ble 214 k) (cond (Nat.beq j 0) (-3) (cond (Nat.beq j 1) (-20) ((-2147483648)))) ((-2147483648))) ((-2))) (cond (Nat.ble 211 k) (cond (Nat.beq j 0) (-3) (cond (Nat.beq j 1) (-20) ((-2147483648)))) ((-2147483648))))))) (cond (Nat.ble 189 k) (cond (Nat.ble 199 k) (cond (Nat.ble 204 k) (cond (Nat.ble 207 k) (cond (Nat.ble 208 k) (cond (Nat.ble 209 k) ((-2)) (cond (Nat.beq j 0) (-3) (cond (Nat.beq j 1) (-20) ((-2147483648))))) ((-2147483648))) (cond (Nat.ble 205 k) (cond (Nat.ble 206 k) ((-2)) (cond (Nat.beq j 0) (-3) (cond (Nat.beq j 1) (-20) ((-2147483648))))) ((-2147483648)))) (cond (Nat.ble 201 k) (cond (Nat.ble 202 k) (cond (Nat.ble 203 k) ((-2)) (cond (Nat.beq j 0) (-3) (cond (Nat.beq j 1) (-20) ((-2147483648))))) ((-2147483648))) (cond (Nat.ble 200 k) ((-2)) (cond (Nat.beq j 0) (-3) (cond (Nat.beq j 1) (-20) ((-2147483648))))))) (cond (Nat.ble 194 k) (cond (Nat.ble 196 k) (cond (Nat.ble 197 k) (cond (Nat.ble 198 k) ((-2147483648)) ((-2))) (cond (Nat.beq j 0) (-3) (cond (Nat.beq j 1) (-20) ((-2147483648))))) (cond (Nat.ble 195 k) ((-2147483648)) ((-2)))) (cond (Nat.ble 191 k) (cond (Nat.ble 192 k) (cond (Nat.ble 193 k) (cond (Nat.beq j 0) (-3) (cond (Nat.beq j 1) (-20) ((-2147483648)))) ((-2147483648))) ((-2))) (cond (Nat.ble 190 k) (cond (Nat.beq j 0) (-3) (cond (Nat.beq j 1) (-20) ((-2147483648)))) ((-2147483648)))))) (cond (Nat.ble 178 k) (cond (Nat.ble 183 k) (cond (Nat.ble 186 k) (cond (Nat.ble 187 k) (cond (Nat.ble 188 k) ((-2)) (cond (Nat.beq j 0) (-3) (cond (Nat.beq j 1) (-20) ((-2147483648))))) ((-2147483648))) (cond (Nat.ble 184 k) (cond (Nat.ble 185 k) ((-2)) (cond (Nat.beq j 0) (-3) (cond (Nat.beq j 1) (-20) ((-2147483648))))) ((-2147483648)))) (cond (Nat.ble 180 k) (cond (Nat.ble 181 k) (cond (Nat.ble 182 k) ((-2)) (cond (Nat.beq j 0) (-3) (cond (Nat.beq j 1) (-20) ((-2147483648))))) ((-2147483648))) (cond (Nat.ble 179 k) ((-2147483648)) (0)))) (cond (Nat.ble 173 k) ((-2147483648)) (cond (Nat.ble 170 k) (cond (Nat.ble 171 k) (0) ((-2147483648))) (cond (Nat.ble 169 k) ((-2147483648)) ((-20))))))))) (cond (Nat.ble 84 k) (cond (Nat.ble 126 k) (cond (Nat.ble 147 k) (cond (Nat.ble 157 k) (cond (Nat.ble 162 k) (cond (Nat.ble 165 k) (cond (Nat.ble 166 k) (cond (Nat.ble 167 k) ((-3)) (cond (Nat.beq j 0) 0 (cond (Nat.beq j 5) 1 (cond (Nat.beq j 6) 0 (cond (Nat.beq j 15) 0 ((-2147483648))))))) (cond (Nat.beq j 2) 0 ((-2147483648)))) (cond (Nat.ble 163 k) (cond (Nat.ble 164 k) (cond (Nat.beq j 0) 0 (cond (Nat.beq j 4) 0 (cond (Nat.beq j 5) 0 (cond (Nat.beq j 9) 0 ((-2147483648)))))) ((-128))) ((-2147483648)))) (cond (Nat.ble 159 k) (cond (Nat.ble 160 k) (cond (Nat.ble 161 k) (cond (Nat.beq j 2) 0 (cond (Nat.beq j 3) 0 (cond (Nat.beq j 4) 0 ((-2147483648))))) ((-2147483648))) ((-2147483648))) (cond (Nat.ble 158 k) ((-300000)) ((-2147483648))))) (cond (Nat.ble 152 k) (cond (Nat.ble 154 k) (cond (Nat.ble 155 k) (cond (Nat.ble 156 k) ((-128)) (cond (Nat.beq j 1) 0 (cond (Nat.beq j 4) (-300000) ((-2147483648))))) ((-128))) (cond (Nat.ble 153 k) ((-300000)) ((-2147483648)))) ((-2147483648)))) (cond (Nat.ble 136 k) (cond (Nat.ble 141 k) (cond (Nat.ble 144 k) (cond (Nat.ble 145 k) (0) ((-2147483648))) (cond (Nat.ble 142 k) (cond (Nat.ble 143 k) (cond (Nat.beq j 0) 0 (cond (Nat.beq j 3) 0 (cond (Nat.beq j 8) 0 (cond (Nat.beq j 13) 0 ((-2147483648)))))) ((-128))) ((-300000)))) ((-2147483648))) (cond (Nat.ble 131 k) (cond (Nat.ble 133 k) (cond (Nat.ble 134 k) (cond (Nat.ble 135 k) ((-2147483648)) (0)) (0)) (cond (Nat.ble 132 k) ((-2147483648)) (cond (Nat.beq j 0) 0 (cond (Nat.beq j 3) 0 (cond (Nat.beq j 8) 0 (cond (Nat.beq j 13) 0 ((-2147483648)))))))) (cond (Nat.ble 128 k) (cond (Nat.ble 129 k) (cond (Nat.ble 130 k) ((-128)) ((-300000))) ((-2147483648))) ((-2147483648)))))) (cond (Nat.ble 105 k) (cond (Nat.ble 115 k) (cond (Nat.ble 120 k) (cond (Nat.ble 123 k) ((-2147483648)) (cond (Nat.ble 121 k) (0) ((-2147483648)))) (cond (Nat.ble 117 k) (cond (Nat.ble 118 k) (cond (Nat.ble 119 k) (cond (Nat.beq j 0) 0 (cond (Nat.beq j 3) 0 (cond (Nat.beq j 8) 0 (cond (Nat.beq j 13) 0 ((-2147483648)))))) ((-128))) ((-300000))) ((-2147483648)))) (cond (Nat.ble 110 k) (cond (Nat.ble 112 k) ((-2147483648)) (cond (Nat.ble 111 k) ((-2147483648)) (0))) (cond (Nat.ble 107 k) (cond (Nat.ble 108 k) (cond (Nat.ble 109 k) (0) ((-2147483648))) (cond (Nat.beq j 0) 0 (cond (Nat.beq j 3) 0 (cond (Nat.beq j 8) 0 (cond (Nat.beq j 13) 0 ((-2147483648))))))) (cond (Nat.ble 106 k) ((-128)) ((-300000)))))) (cond (Nat.ble 94 k) (cond (Nat.ble 99 k) ((-2147483648)) (cond (Nat.ble 96 k) (cond (Nat.ble 97 k) (0) ((-2147483648))) (cond (Nat.ble 95 k) (cond (Nat.beq j 0) 0 (cond (Nat.beq j 3) 0 (cond (Nat.beq j 8) 0 (cond (Nat.beq j 13) 0 ((-2147483648)))))) ((-128))))) (cond (Nat.ble 89 k) (cond (Nat.ble 91 k) (cond (Nat.ble 92 k) (cond (Nat.ble 93 k) ((-300000)) ((-2147483648))) ((-2147483648))) ((-2147483648))) (cond (Nat.ble 86 k) (cond (Nat.ble 87 k) ((-2147483648)) (0)) (cond (Nat.ble 85 k) (0) ((-2147483648)))))))) (cond (Nat.ble 42 k) (cond (Nat.ble 63 k) (cond (Nat.ble 73 k) (cond (Nat.ble 78 k) (cond (Nat.ble 81 k) (cond (Nat.ble 82 k) (cond (Nat.ble 83 k) (cond (Nat.beq j 0) 0 (cond (Nat.beq j 3) 0 (cond (Nat.beq j 8) 0 (cond (Nat.beq j 13) 0 ((-2147483648)))))) ((-128))) ((-300000))) ((-2147483648))) (cond (Nat.ble 75 k) ((-2147483648)) (0))) (cond (Nat.ble 68 k) (cond (Nat.ble 70 k) (cond (Nat.ble 71 k) (cond (Nat.ble 72 k) ((-2147483648)) (cond (Nat.beq j 0) 0 (cond (Nat.beq j 3) 0 (cond (Nat.beq j 8) 0 (cond (Nat.beq j 13) 0 ((-2147483648))))))) ((-128))) (cond (Nat.ble 69 k) ((-300000)) ((-2147483648)))) ((-2147483648)))) (cond (Nat.ble 52 k) (cond (Nat.ble 57 k) (cond (Nat.ble 60 k) (cond (Nat.ble 61 k) (0) ((-2147483648))) (cond (Nat.ble 58 k) (cond (Nat.ble 59 k) (cond (Nat.beq j 0) 0 (cond (Nat.beq j 3) 0 (cond (Nat.beq j 8) 0 (cond (Nat.beq j 13) 0 ((-2147483648)))))) ((-128))) ((-300000)))) ((-2147483648))) (cond (Nat.ble 47 k) (cond (Nat.ble 49 k) (cond (Nat.ble 50 k) (cond (Nat.ble 51 k) ((-2147483648)) (0)) (0)) (cond (Nat.ble 48 k) ((-2147483648)) (cond (Nat.beq j 0) 0 (cond (Nat.beq j 3) 0 (cond (Nat.beq j 8) 0 (cond (Nat.beq j 13) 0 ((-2147483648)))))))) (cond (Nat.ble 44 k) (cond (Nat.ble 45 k) (cond (Nat.ble 46 k) ((-128)) ((-300000))) ((-2147483648))) ((-2147483648)))))) (cond (Nat.ble 21 k) (cond (Nat.ble 31 k) (cond (Nat.ble 36 k) (cond (Nat.ble 39 k) ((-2147483648)) (cond (Nat.ble 37 k) (0) ((-2147483648)))) (cond (Nat.ble 33 k) (cond (Nat.ble 34 k) (cond (Nat.ble 35 k) (cond (Nat.beq j 0) 0 (cond (Nat.beq j 3) 0 (cond (Nat.beq j 8) 0 (cond (Nat.beq j 13) 0 ((-2147483648)))))) (0)) ((-2147483648))) (cond (Nat.ble 32 k) ((-2147483648)) (cond (Nat.beq j 1) 0 (cond (Nat.beq j 2) 0 ((-2147483648))))))) (cond (Nat.ble 26 k) (cond (Nat.ble 28 k) (cond (Nat.ble 29 k) (cond (Nat.ble 30 k) ((-128)) ((-300000))) ((-2147483648))) ((-2147483648))) (cond (Nat.ble 23 k) ((-2147483648)) (0)))) (cond (Nat.ble 10 k) (cond (Nat.ble 15 k) (cond (Nat.ble 18 k) (cond (Nat.ble 19 k) (cond (Nat.ble 20 k) ((-2147483648)) (cond (Nat.beq j 0) 0 (cond (Nat.beq j 3) 0 (cond (Nat.beq j 8) 0 (cond (Nat.beq j 13) 0 ((-2147483648))))))) ((-128))) (cond (Nat.ble 16 k) (cond (Nat.ble 17 k) ((-300000)) ((-2147483648))) ((-2147483648)))) (cond (Nat.ble 12 k) ((-2147483648)) (cond (Nat.ble 11 k) ((-2147483648)) (0)))) (cond (Nat.ble 5 k) (cond (Nat.ble 7 k) (cond (Nat.ble 8 k) (cond (Nat.ble 9 k) (0) ((-2147483648))) (cond (Nat.beq j 0) 0 (cond (Nat.beq j 3) 0 (cond (Nat.beq j 8) 0 (cond (Nat.beq j 13) 0 ((-2147483648))))))) (cond (Nat.ble 6 k) (cond (Nat.beq j 10) 0 ((-2147483648))) ((-2147483648)))) ((-2147483648))))))))
def cHi (k j : Nat) : Int := cond (Nat.ble 336 k) 2147483647 (cond (Nat.ble 168 k) (cond (Nat.ble 252 k) (cond (Nat.ble 294 k) (cond (Nat.ble 315 k) (cond (Nat.ble 325 k) (cond (Nat.ble 330 k) (cond (Nat.ble 333 k) (cond (Nat.ble 334 k) (cond (Nat.ble 335 k) (127) (2147483647)) (2147483647)) (2147483647)) (cond (Nat.ble 327 k) (2147483647) (cond (Nat.ble 326 k) (20) (cond (Nat.beq j 0) 1 (2147483647))))) (cond (Nat.ble 320 k) (cond (Nat.ble 322 k) (cond (Nat.ble 323 k) (cond (Nat.ble 324 k) (2147483647) (1)) (2147483647)) (2147483647)) (cond (Nat.ble 317 k) (2147483647) (cond (Nat.ble 316 k) (2147483647) (59))))) (cond (Nat.ble 304 k) (cond (Nat.ble 309 k) (cond (Nat.ble 312 k) (cond (Nat.ble 313 k) (cond (Nat.ble 314 k) (cond (Nat.beq j 0) 3 (cond (Nat.beq j 1) 20 (2147483647))) (2147483647)) (59)) (cond (Nat.ble 310 k) (cond (Nat.ble 311 k) (cond (Nat.beq j 0) 3 (cond (Nat.beq j 1) 20 (2147483647))) (2147483647)) (59))) (cond (Nat.ble 306 k) (cond (Nat.ble 307 k) (cond (Nat.ble 308 k) (cond (Nat.beq j 0) 3 (cond (Nat.beq j 1) 20 (2147483647))) (2147483647)) (59)) (cond (Nat.ble 305 k) (cond (Nat.beq j 0) 3 (cond (Nat.beq j 1) 20 (2147483647))) (2147483647)))) (cond (Nat.ble 299 k) (cond (Nat.ble 301 k) (cond (Nat.ble 302 k) (cond (Nat.ble 303 k) (59) (cond (Nat.beq j 0) 3 (cond (Nat.beq j 1) 20 (2147483647)))) (2147483647)) (cond (Nat.ble 300 k) (59) (cond (Nat.beq j 0) 3 (cond (Nat.beq j 1) 20 (2147483647))))) (cond (Nat.ble 296 k) (cond (Nat.ble 297 k) (cond (Nat.ble 298 k) (2147483647) (59)) (cond (Nat.beq j 0) 3 (cond (Nat.beq j 1) 20 (2147483647)))) (cond (Nat.ble 295 k) (2147483647) (59)))))) (cond (Nat.ble 273 k) (cond (Nat.ble 283 k) (cond (Nat.ble 288 k) (cond (Nat.ble 291 k) (cond (Nat.ble 292 k) (cond (Nat.ble 293 k) (cond (Nat.beq j 0) 3 (cond (Nat.beq j 1) 20 (2147483647))) (2147483647)) (59)) (cond (Nat.ble 289 k) (cond (Nat.ble 290 k) (cond (Nat.beq j 0) 3 (cond (Nat.beq j 1) 20 (2147483647))) (2147483647)) (59))) (cond (Nat.ble 285 k) (cond (Nat.ble 286 k) (cond (Nat.ble 287 k) (cond (Nat.beq j 0) 3 (cond (Nat.beq j 1) 20 (2147483647))) (2147483647)) (59)) (cond (Nat.ble 284 k) (cond (Nat.beq j 0) 3 (cond (Nat.beq j 1) 20 (2147483647))) (2147483647)))) (cond (Nat.ble 278 k) (cond (Nat.ble 280 k) (cond (Nat.ble 281 k) (cond (Nat.ble 282 k) (59) (cond (Nat.beq j 0) 3 (cond (Nat.beq j 1) 20 (2147483647)))) (2147483647)) (cond (Nat.ble 279 k) (59) (cond (Nat.beq j 0) 3 (cond (Nat.beq j 1) 20 (2147483647))))) (cond (Nat.ble 275 k) (cond (Nat.ble 276 k) (cond (Nat.ble 277 k) (2147483647) (59)) (cond (Nat.beq j 0) 3 (cond (Nat.beq j 1) 20 (2147483647)))) (cond (Nat.ble 274 k) (2147483647) (59))))) (cond (Nat.ble 262 k) (cond (Nat.ble 267 k) (cond (Nat.ble 270 k) (cond (Nat.ble 271 k) (cond (Nat.ble 272 k) (cond (Nat.beq j 0) 3 (cond (Nat.beq j 1) 20 (2147483647))) (2147483647)) (59)) (cond (Nat.ble 268 k) (cond (Nat.ble 269 k) (cond (Nat.beq j 0) 3 (cond (Nat.beq j 1) 20 (2147483647))) (2147483647)) (59))) (cond (Nat.ble 264 k) (cond (Nat.ble 265 k) (cond (Nat.ble 266 k) (cond (Nat.beq j 0) 3 (cond (Nat.beq j 1) 20 (2147483647))) (2147483647)) (59)) (cond (Nat.ble 263 k) (cond (Nat.beq j 0) 3 (cond (Nat.beq j 1) 20 (2147483647))) (2147483647)))) (cond (Nat.ble 257 k) (cond (Nat.ble 259 k) (cond (Nat.ble 260 k) (cond (Nat.ble 261 k) (59) (cond (Nat.beq j 0) 3 (cond (Nat.beq j 1) 20 (2147483647)))) (2147483647)) (cond (Nat.ble 258 k) (59) (cond (Nat.beq j 0) 3 (cond (Nat.beq j 1) 20 (2147483647))))) (cond (Nat.ble 254 k) (cond (Nat.ble 255 k) (2147483647) (127)) (2147483647)))))) (cond (Nat.ble 210 k) (cond (Nat.ble 231 k) (cond (Nat.ble 241 k) (cond (Nat.ble 246 k) (cond (Nat.ble 249 k) (2147483647) (cond (Nat.ble 247 k) (cond (Nat.ble 248 k) (7) (59)) (2147483647))) (cond (Nat.ble 243 k) (cond (Nat.ble 244 k) (cond (Nat.ble 245 k) (2147483647) (20)) (3)) (cond (Nat.ble 242 k) (cond (Nat.beq j 0) 287 (cond (Nat.beq j 5) 2147483647 (cond (Nat.beq j 6) 60 (cond (Nat.beq j 15) 60 (2147483647))))) (cond (Nat.beq j 2) 20 (2147483647))))) (cond (Nat.ble 236 k) (cond (Nat.ble 238 k) (cond (Nat.ble 239 k) (cond (Nat.ble 240 k) (2147483647) (59)) (cond (Nat.beq j 0) 3 (cond (Nat.beq j 1) 20 (2147483647)))) (cond (Nat.ble 237 k) (2147483647) (59))) (cond (Nat.ble 233 k) (cond (Nat.ble 234 k) (cond (Nat.ble 235 k) (cond (Nat.beq j 0) 3 (cond (Nat.beq j 1) 20 (2147483647))) (2147483647)) (59)) (cond (Nat.ble 232 k) (cond (Nat.beq j 0) 3 (cond (Nat.beq j 1) 20 (2147483647))) (2147483647))))) (cond (Nat.ble 220 k) (cond (Nat.ble 225 k) (cond (Nat.ble 228 k) (cond (Nat.ble 229 k) (cond (Nat.ble 230 k) (59) (cond (Nat.beq j 0) 3 (cond (Nat.beq j 1) 20 (2147483647)))) (2147483647)) (cond (Nat.ble 226 k) (cond (Nat.ble 227 k) (59) (cond (Nat.beq j 0) 3 (cond (Nat.beq j 1) 20 (2147483647)))) (2147483647))) (cond (Nat.ble 222 k) (cond (Nat.ble 223 k) (cond (Nat.ble 224 k) (59) (cond (Nat.beq j 0) 3 (cond (Nat.beq j 1) 20 (2147483647)))) (2147483647)) (cond (Nat.ble 221 k) (59) (cond (Nat.beq j 0) 3 (cond (Nat.beq j 1) 20 (2147483647)))))) (cond (Nat.ble 215 k) (cond (Nat.ble 217 k) (cond (Nat.ble 218 k) (cond (Nat.ble 219 k) (2147483647) (59)) (cond (Nat.beq j 0) 3 (cond (Nat.beq j 1) 20 (2147483647)))) (cond (Nat.ble 216 k) (2147483647) (59))) (cond (Nat.ble 212 k) (cond (Nat.ble 213 k) (cond (Nat.ble 214 k) (cond (Nat.beq j 0) 3 (cond (Nat.beq j 1) 20 (2147483647))) (2147483647)) (59)) (cond (Nat.ble 211 k) (cond (Nat.beq j 0) 3 (cond (Nat.beq j 1) 20 (2147483647))) (2147483647)))))) (cond (Nat.ble 189 k) (cond (Nat.ble 199 k) (cond (Nat.ble 204 k) (cond (Nat.ble 207 k) (cond (Nat.ble 208 k) (cond (Nat.ble 209 k) (59) (cond (Nat.beq j 0) 3 (cond (Nat.beq j 1) 20 (2147483647)))) (2147483647)) (cond (Nat.ble 205 k) (cond (Nat.ble 206 k) (59) (cond (Nat.beq j 0) 3 (cond (Nat.beq j 1) 20 (2147483647)))) (2147483647))) (cond (Nat.ble 201 k) (cond (Nat.ble 202 k) (cond (Nat.ble 203 k) (59) (cond (Nat.beq j 0) 3 (cond (Nat.beq j 1) 20 (2147483647)))) (2147483647)) (cond (Nat.ble 200 k) (59) (cond (Nat.beq j 0) 3 (cond (Nat.beq j 1) 20 (2147483647)))))) (cond (Nat.ble 194 k) (cond (Nat.ble 196 k) (cond (Nat.ble 197 k) (cond (Nat.ble 198 k) (2147483647) (59)) (cond (Nat.beq j 0) 3 (cond (Nat.beq j 1) 20 (2147483647)))) (cond (Nat.ble 195 k) (2147483647) (59))) (cond (Nat.ble 191 k) (cond (Nat.ble 192 k) (cond (Nat.ble 193 k) (cond (Nat.beq j 0) 3 (cond (Nat.beq j 1) 20 (2147483647))) (2147483647)) (59)) (cond (Nat.ble 190 k) (cond (Nat.beq j 0) 3 (cond (Nat.beq j 1) 20 (2147483647))) (2147483647))))) (cond (Nat.ble 178 k) (cond (Nat.ble 183 k) (cond (Nat.ble 186 k) (cond (Nat.ble 187 k) (cond (Nat.ble 188 k) (59) (cond (Nat.beq j 0) 3 (cond (Nat.beq j 1) 20 (2147483647)))) (2147483647)) (cond (Nat.ble 184 k) (cond (Nat.ble 185 k) (59) (cond (Nat.beq j 0) 3 (cond (Nat.beq j 1) 20 (2147483647)))) (2147483647))) (cond (Nat.ble 180 k) (cond (Nat.ble 181 k) (cond (Nat.ble 182 k) (59) (cond (Nat.beq j 0) 3 (cond (Nat.beq j 1) 20 (2147483647)))) (2147483647)) (cond (Nat.ble 179 k) (2147483647) (127)))) (cond (Nat.ble 173 k) (2147483647) (cond (Nat.ble 170 k) (cond (Nat.ble 171 k) (cond (Nat.ble 172 k) (7) (59)) (2147483647)) (cond (Nat.ble 169 k) (2147483647) (20)))))))) (cond (Nat.ble 84 k) (cond (Nat.ble 126 k) (cond (Nat.ble 147 k) (cond (Nat.ble 157 k) (cond (Nat.ble 162 k) (cond (Nat.ble 165 k) (cond (Nat.ble 166 k) (cond (Nat.ble 167 k) (3) (cond (Nat.beq j 0) 287 (cond (Nat.beq j 5) 2147483647 (cond (Nat.beq j 6) 60 (cond (Nat.beq j 15) 60 (2147483647)))))) (cond (Nat.beq j 2) 20 (2147483647))) (cond (Nat.ble 163 k) (cond (Nat.ble 164 k) (cond (Nat.beq j 0) 1 (cond (Nat.beq j 4) 20 (cond (Nat.beq j 5) 12 (cond (Nat.beq j 9) 20 (2147483647))))) (127)) (2147483647))) (cond (Nat.ble 159 k) (cond (Nat.ble 160 k) (cond (Nat.ble 161 k) (cond (Nat.beq j 2) 500 (cond (Nat.beq j 3) 500 (cond (Nat.beq j 4) 30 (2147483647)))) (2147483647)) (2147483647)) (cond (Nat.ble 158 k) (300000) (2147483647)))) (cond (Nat.ble 152 k) (cond (Nat.ble 154 k) (cond (Nat.ble 155 k) (cond (Nat.ble 156 k) (127) (cond (Nat.beq j 1) 500 (cond (Nat.beq j 4) 300000 (2147483647)))) (127)) (cond (Nat.ble 153 k) (300000) (2147483647))) (2147483647))) (cond (Nat.ble 136 k) (cond (Nat.ble 141 k) (cond (Nat.ble 144 k) (cond (Nat.ble 145 k) (cond (Nat.ble 146 k) (7) (1)) (2147483647)) (cond (Nat.ble 142 k) (cond (Nat.ble 143 k) (cond (Nat.beq j 0) 8 (cond (Nat.beq j 3) 60 (cond (Nat.beq j 8) 12 (cond (Nat.beq j 13) 500 (2147483647))))) (127)) (300000))) (2147483647)) (cond (Nat.ble 131 k) (cond (Nat.ble 133 k) (cond (Nat.ble 134 k) (cond (Nat.ble 135 k) (2147483647) (7)) (1)) (cond (Nat.ble 132 k) (2147483647) (cond (Nat.beq j 0) 8 (cond (Nat.beq j 3) 60 (cond (Nat.beq j 8) 12 (cond (Nat.beq j 13) 500 (2147483647))))))) (cond (Nat.ble 128 k) (cond (Nat.ble 129 k) (cond (Nat.ble 130 k) (127) (300000)) (2147483647)) (2147483647))))) (cond (Nat.ble 105 k) (cond (Nat.ble 115 k) (cond (Nat.ble 120 k) (cond (Nat.ble 123 k) (2147483647) (cond (Nat.ble 121 k) (cond (Nat.ble 122 k) (7) (1)) (2147483647))) (cond (Nat.ble 117 k) (cond (Nat.ble 118 k) (cond (Nat.ble 119 k) (cond (Nat.beq j 0) 8 (cond (Nat.beq j 3) 60 (cond (Nat.beq j 8) 12 (cond (Nat.beq j 13) 500 (2147483647))))) (127)) (300000)) (2147483647))) (cond (Nat.ble 110 k) (cond (Nat.ble 112 k) (2147483647) (cond (Nat.ble 111 k) (2147483647) (7))) (cond (Nat.ble 107 k) (cond (Nat.ble 108 k) (cond (Nat.ble 109 k) (1) (2147483647)) (cond (Nat.beq j 0) 8 (cond (Nat.beq j 3) 60 (cond (Nat.beq j 8) 12 (cond (Nat.beq j 13) 500 (2147483647)))))) (cond (Nat.ble 106 k) (127) (300000))))) (cond (Nat.ble 94 k) (cond (Nat.ble 99 k) (2147483647) (cond (Nat.ble 96 k) (cond (Nat.ble 97 k) (cond (Nat.ble 98 k) (7) (1)) (2147483647)) (cond (Nat.ble 95 k) (cond (Nat.beq j 0) 8 (cond (Nat.beq j 3) 60 (cond (Nat.beq j 8) 12 (cond (Nat.beq j 13) 500 (2147483647))))) (127)))) (cond (Nat.ble 89 k) (cond (Nat.ble 91 k) (cond (Nat.ble 92 k) (cond (Nat.ble 93 k) (300000) (2147483647)) (2147483647)) (2147483647)) (cond (Nat.ble 86 k) (cond (Nat.ble 87 k) (2147483647) (7)) (cond (Nat.ble 85 k) (1) (2147483647))))))) (cond (Nat.ble 42 k) (cond (Nat.ble 63 k) (cond (Nat.ble 73 k) (cond (Nat.ble 78 k) (cond (Nat.ble 81 k) (cond (Nat.ble 82 k) (cond (Nat.ble 83 k) (cond (Nat.beq j 0) 8 (cond (Nat.beq j 3) 60 (cond (Nat.beq j 8) 12 (cond (Nat.beq j 13) 500 (2147483647))))) (127)) (300000)) (2147483647)) (cond (Nat.ble 75 k) (2147483647) (cond (Nat.ble 74 k) (7) (1)))) (cond (Nat.ble 68 k) (cond (Nat.ble 70 k) (cond (Nat.ble 71 k) (cond (Nat.ble 72 k) (2147483647) (cond (Nat.beq j 0) 8 (cond (Nat.beq j 3) 60 (cond (Nat.beq j 8) 12 (cond (Nat.beq j 13) 500 (2147483647)))))) (127)) (cond (Nat.ble 69 k) (300000) (2147483647))) (2147483647))) (cond (Nat.ble 52 k) (cond (Nat.ble 57 k) (cond (Nat.ble 60 k) (cond (Nat.ble 61 k) (cond (Nat.ble 62 k) (7) (1)) (2147483647)) (cond (Nat.ble 58 k) (cond (Nat.ble 59 k) (cond (Nat.beq j 0) 8 (cond (Nat.beq j 3) 60 (cond (Nat.beq j 8) 12 (cond (Nat.beq j 13) 500 (2147483647))))) (127)) (300000))) (2147483647)) (cond (Nat.ble 47 k) (cond (Nat.ble 49 k) (cond (Nat.ble 50 k) (cond (Nat.ble 51 k) (2147483647) (7)) (1)) (cond (Nat.ble 48 k) (2147483647) (cond (Nat.beq j 0) 8 (cond (Nat.beq j 3) 60 (cond (Nat.beq j 8) 12 (cond (Nat.beq j 13) 500 (2147483647))))))) (cond (Nat.ble 44 k) (cond (Nat.ble 45 k) (cond (Nat.ble 46 k) (127) (300000)) (2147483647)) (2147483647))))) (cond (Nat.ble 21 k) (cond (Nat.ble 31 k) (cond (Nat.ble 36 k) (cond (Nat.ble 39 k) (2147483647) (cond (Nat.ble 37 k) (cond (Nat.ble 38 k) (7) (1)) (2147483647))) (cond (Nat.ble 33 k) (cond (Nat.ble 34 k) (cond (Nat.ble 35 k) (cond (Nat.beq j 0) 8 (cond (Nat.beq j 3) 60 (cond (Nat.beq j 8) 12 (cond (Nat.beq j 13) 500 (2147483647))))) (1)) (2147483647)) (cond (Nat.ble 32 k) (2147483647) (cond (Nat.beq j 1) 7 (cond (Nat.beq j 2) 8 (2147483647)))))) (cond (Nat.ble 26 k) (cond (Nat.ble 28 k) (cond (Nat.ble 29 k) (cond (Nat.ble 30 k) (127) (300000)) (2147483647)) (2147483647)) (cond (Nat.ble 23 k) (2147483647) (cond (Nat.ble 22 k) (7) (1))))) (cond (Nat.ble 10 k) (cond (Nat.ble 15 k) (cond (Nat.ble 18 k) (cond (Nat.ble 19 k) (cond (Nat.ble 20 k) (2147483647) (cond (Nat.beq j 0) 8 (cond (Nat.beq j 3) 60 (cond (Nat.beq j 8) 12 (cond (Nat.beq j 13) 500 (2147483647)))))) (127)) (cond (Nat.ble 16 k) (cond (Nat.ble 17 k) (300000) (2147483647)) (2147483647))) (cond (Nat.ble 12 k) (2147483647) (cond (Nat.ble 11 k) (2147483647) (7)))) (cond (Nat.ble 5 k) (cond (Nat.ble 7 k) (cond (Nat.ble 8 k) (cond (Nat.ble 9 k) (1) (2147483647)) (cond (Nat.beq j 0) 8 (cond (Nat.beq j 3) 60 (cond (Nat.beq j 8) 12 (cond (Nat.beq j 13) 500 (2147483647)))))) (cond (Nat.ble 6 k) (cond (Nat.beq j 10) 128 (2147483647)) (2147483647))) (2147483647)))))))
theorem lin100000 : (-100000 : Int32).toInt = (-100000) := by decide
theorem lin9999 : (-9999 : Int32).toInt = (-9999) := by decide
theorem lin999 : (-999 : Int32).toInt = (-999) := by decide
theorem lin99 : (-99 : Int32).toInt = (-99) := by decide
theorem lin50 : (-50 : Int32).toInt = (-50) := by decide
theorem lin20 : (-20 : Int32).toInt = (-20) := by decide
theorem lin5 : (-5 : Int32).toInt = (-5) := by decide
theorem lin3 : (-3 : Int32).toInt = (-3) := by decide
theorem lin2 : (-2 : Int32).toInt = (-2) := by decide
theorem lin1 : (-1 : Int32).toInt = (-1) := by decide
theorem li0 : (0 : Int32).toInt = 0 := by decide
theorem li1 : (1 : Int32).toInt = 1 := by decide
theorem li2 : (2 : Int32).toInt = 2 := by decide
theorem li3 : (3 : Int32).toInt = 3 := by decide
theorem li4 : (4 : Int32).toInt = 4 := by decide
theorem li5 : (5 : Int32).toInt = 5 := by decide
theorem li6 : (6 : Int32).toInt = 6 := by decide
theorem li7 : (7 : Int32).toInt = 7 := by decide
theorem li8 : (8 : Int32).toInt = 8 := by decide
theorem li9 : (9 : Int32).toInt = 9 := by decide
theorem li10 : (10 : Int32).toInt = 10 := by decide
theorem li11 : (11 : Int32).toInt = 11 := by decide
theorem li12 : (12 : Int32).toInt = 12 := by decide
theorem li14 : (14 : Int32).toInt = 14 := by decide
theorem li16 : (16 : Int32).toInt = 16 := by decide
theorem li19 : (19 : Int32).toInt = 19 := by decide
theorem li20 : (20 : Int32).toInt = 20 := by decide
theorem li24 : (24 : Int32).toInt = 24 := by decide
theorem li30 : (30 : Int32).toInt = 30 := by decide
theorem li44 : (44 : Int32).toInt = 44 := by decide
theorem li45 : (45 : Int32).toInt = 45 := by decide
theorem li48 : (48 : Int32).toInt = 48 := by decide
theorem li50 : (50 : Int32).toInt = 50 := by decide
theorem li57 : (57 : Int32).toInt = 57 := by decide
theorem li59 : (59 : Int32).toInt = 59 := by decide
theorem li60 : (60 : Int32).toInt = 60 := by decide
theorem li63 : (63 : Int32).toInt = 63 := by decide
theorem li99 : (99 : Int32).toInt = 99 := by decide
theorem li100 : (100 : Int32).toInt = 100 := by decide
theorem li103 : (103 : Int32).toInt = 103 := by decide
theorem li109 : (109 : Int32).toInt = 109 := by decide
theorem li110 : (110 : Int32).toInt = 110 := by decide
theorem li111 : (111 : Int32).toInt = 111 := by decide
theorem li113 : (113 : Int32).toInt = 113 := by decide
theorem li114 : (114 : Int32).toInt = 114 := by decide
theorem li115 : (115 : Int32).toInt = 115 := by decide
theorem li117 : (117 : Int32).toInt = 117 := by decide
theorem li118 : (118 : Int32).toInt = 118 := by decide
theorem li119 : (119 : Int32).toInt = 119 := by decide
theorem li127 : (127 : Int32).toInt = 127 := by decide
theorem li128 : (128 : Int32).toInt = 128 := by decide
theorem li200 : (200 : Int32).toInt = 200 := by decide
theorem li255 : (255 : Int32).toInt = 255 := by decide
theorem li287 : (287 : Int32).toInt = 287 := by decide
theorem li500 : (500 : Int32).toInt = 500 := by decide
theorem li999 : (999 : Int32).toInt = 999 := by decide
theorem li1000 : (1000 : Int32).toInt = 1000 := by decide
theorem li9999 : (9999 : Int32).toInt = 9999 := by decide
theorem li10000 : (10000 : Int32).toInt = 10000 := by decide
theorem li252645135 : (252645135 : Int32).toInt = 252645135 := by decide
theorem li858993459 : (858993459 : Int32).toInt = 858993459 := by decide
theorem li1431655765 : (1431655765 : Int32).toInt = 1431655765 := by decide
theorem lln1000000000000 : (-1000000000000 : Int64).toInt = (-1000000000000) := by decide
theorem lln2 : (-2 : Int64).toInt = (-2) := by decide
theorem ll0 : (0 : Int64).toInt = 0 := by decide
theorem ll1 : (1 : Int64).toInt = 1 := by decide
theorem mf14 : zmf 14 6 11 1 6 := by unfold zmf; decide +kernel
theorem mf15 : zmf 15 2 7 0 2 := by unfold zmf; decide +kernel
theorem mf16 : zmf 16 2 7 0 3 := by unfold zmf; decide +kernel
theorem mf17 : zmf 17 1 7 0 1 := by unfold zmf; decide +kernel
theorem mf18 : zmf 18 2 11 2 2 := by unfold zmf; decide +kernel
theorem mf19 : zmf 19 2 7 1 2 := by unfold zmf; decide +kernel
theorem mf20 : zmf 20 2 99 0 2 := by unfold zmf; decide +kernel
theorem mf21 : zmf 21 2 99 0 2 := by unfold zmf; decide +kernel
theorem mf22 : zmf 22 1 11 7 2 := by unfold zmf; decide +kernel
theorem mf23 : zmf 23 2 6 2 2 := by unfold zmf; decide +kernel
theorem mf24 : zmf 24 3 6 1 3 := by unfold zmf; decide +kernel
theorem mf25 : zmf 25 3 3 6 4 := by unfold zmf; decide +kernel
theorem mf26 : zmf 26 1 7 0 1 := by unfold zmf; decide +kernel
theorem mf27 : zmf 27 1 7 0 1 := by unfold zmf; decide +kernel
theorem mf28 : zmf 28 3 3 5 7 := by unfold zmf; decide +kernel
theorem mf29 : zmf 29 1 7 0 1 := by unfold zmf; decide +kernel
theorem mf30 : zmf 30 1 7 1 2 := by unfold zmf; decide +kernel
theorem mf31 : zmf 31 1 7 0 1 := by unfold zmf; decide +kernel
theorem mf32 : zmf 32 1 3 0 1 := by unfold zmf; decide +kernel
theorem mf33 : zmf 33 2 3 0 2 := by unfold zmf; decide +kernel
theorem mf34 : zmf 34 2 7 0 2 := by unfold zmf; decide +kernel
theorem mf35 : zmf 35 1 7 2 4 := by unfold zmf; decide +kernel
theorem mf36 : zmf 36 1 11 0 1 := by unfold zmf; decide +kernel
theorem mf37 : zmf 37 1 7 0 1 := by unfold zmf; decide +kernel
theorem mf38 : zmf 38 5 3 2 5 := by unfold zmf; decide +kernel
theorem mf39 : zmf 39 3 11 0 3 := by unfold zmf; decide +kernel
theorem mf40 : zmf 40 3 3 1 3 := by unfold zmf; decide +kernel
theorem mf41 : zmf 41 2 6 0 2 := by unfold zmf; decide +kernel
theorem mf42 : zmf 42 1 11 0 1 := by unfold zmf; decide +kernel
theorem mf43 : zmf 43 2 3 1 2 := by unfold zmf; decide +kernel
theorem mf44 : zmf 44 2 3 1 2 := by unfold zmf; decide +kernel
theorem mf45 : zmf 45 1 3 0 1 := by unfold zmf; decide +kernel
theorem mf46 : zmf 46 1 7 0 1 := by unfold zmf; decide +kernel
theorem mf47 : zmf 47 2 7 1 2 := by unfold zmf; decide +kernel
theorem mf48 : zmf 48 3 3 4 4 := by unfold zmf; decide +kernel
theorem mf49 : zmf 49 2 6 0 2 := by unfold zmf; decide +kernel
theorem mf50 : zmf 50 5 6 2 5 := by unfold zmf; decide +kernel
theorem mf51 : zmf 51 4 6 1 4 := by unfold zmf; decide +kernel
theorem mf52 : zmf 52 4 6 3 6 := by unfold zmf; decide +kernel
theorem mf53 : zmf 53 3 6 1 3 := by unfold zmf; decide +kernel
theorem mf54 : zmf 54 2 99 0 3 := by unfold zmf; decide +kernel
theorem mf55 : zmf 55 3 6 1 3 := by unfold zmf; decide +kernel
theorem mf56 : zmf 56 3 6 0 3 := by unfold zmf; decide +kernel
theorem mf57 : zmf 57 1 7 0 1 := by unfold zmf; decide +kernel
theorem mf58 : zmf 58 2 2 3 2 := by unfold zmf; decide +kernel
theorem mf59 : zmf 59 1 11 1 1 := by unfold zmf; decide +kernel
theorem mf60 : zmf 60 1 4 0 1 := by unfold zmf; decide +kernel
theorem mf61 : zmf 61 1 1 0 1 := by unfold zmf; decide +kernel
theorem mf82 : zmf 82 1 11 6 4 := by unfold zmf; decide +kernel
theorem mf83 : zmf 83 2 3 4 3 := by unfold zmf; decide +kernel
theorem mf84 : zmf 84 3 3 3 7 := by unfold zmf; decide +kernel
theorem mf85 : zmf 85 1 3 0 1 := by unfold zmf; decide +kernel
theorem mf86 : zmf 86 2 11 5 2 := by unfold zmf; decide +kernel
theorem mf87 : zmf 87 2 3 1 2 := by unfold zmf; decide +kernel
theorem mf88 : zmf 88 3 3 1 3 := by unfold zmf; decide +kernel
theorem mf89 : zmf 89 4 11 4 4 := by unfold zmf; decide +kernel
theorem mf90 : zmf 90 2 11 4 2 := by unfold zmf; decide +kernel
theorem mf91 : zmf 91 2 6 0 2 := by unfold zmf; decide +kernel
theorem mf92 : zmf 92 1 6 2 3 := by unfold zmf; decide +kernel
theorem mf93 : zmf 93 2 6 1 2 := by unfold zmf; decide +kernel
theorem mf94 : zmf 94 2 11 4 2 := by unfold zmf; decide +kernel
theorem mf95 : zmf 95 2 11 4 3 := by unfold zmf; decide +kernel
theorem mf96 : zmf 96 2 6 0 2 := by unfold zmf; decide +kernel
theorem mf97 : zmf 97 1 11 0 1 := by unfold zmf; decide +kernel
theorem mf98 : zmf 98 1 11 0 1 := by unfold zmf; decide +kernel
theorem mf99 : zmf 99 2 11 3 2 := by unfold zmf; decide +kernel
theorem mf100 : zmf 100 1 6 0 3 := by unfold zmf; decide +kernel
theorem mf101 : zmf 101 1 2 0 1 := by unfold zmf; decide +kernel
theorem mf102 : zmf 102 3 11 3 3 := by unfold zmf; decide +kernel
theorem mf103 : zmf 103 2 6 2 4 := by unfold zmf; decide +kernel
theorem mf104 : zmf 104 3 11 6 3 := by unfold zmf; decide +kernel
theorem mf105 : zmf 105 2 4 5 3 := by unfold zmf; decide +kernel
theorem mf106 : zmf 106 4 0 4 6 := by unfold zmf; decide +kernel
theorem mf107 : zmf 107 3 5 3 4 := by unfold zmf; decide +kernel
theorem mf108 : zmf 108 3 5 0 8 := by unfold zmf; decide +kernel
theorem mf109 : zmf 109 2 5 2 6 := by unfold zmf; decide +kernel
theorem mf110 : zmf 110 1 5 0 1 := by unfold zmf; decide +kernel
theorem mf111 : zmf 111 2 0 2 5 := by unfold zmf; decide +kernel
theorem mf112 : zmf 112 1 5 1 3 := by unfold zmf; decide +kernel
theorem mf113 : zmf 113 1 99 0 1 := by unfold zmf; decide +kernel
theorem mf114 : zmf 114 2 5 1 10 := by unfold zmf; decide +kernel
theorem mf115 : zmf 115 2 5 0 2 := by unfold zmf; decide +kernel
theorem mf116 : zmf 116 2 5 0 2 := by unfold zmf; decide +kernel
theorem mf117 : zmf 117 2 5 0 4 := by unfold zmf; decide +kernel
theorem mf118 : zmf 118 1 5 0 1 := by unfold zmf; decide +kernel
theorem mf119 : zmf 119 1 5 0 1 := by unfold zmf; decide +kernel
theorem mf120 : zmf 120 5 8 0 6 := by unfold zmf; decide +kernel
theorem mf121 : zmf 121 2 5 1 10 := by unfold zmf; decide +kernel
theorem mf122 : zmf 122 1 99 0 1 := by unfold zmf; decide +kernel
theorem mf123 : zmf 123 2 5 0 4 := by unfold zmf; decide +kernel
theorem mf124 : zmf 124 2 4 1 5 := by unfold zmf; decide +kernel
theorem mf125 : zmf 125 1 0 0 1 := by unfold zmf; decide +kernel
theorem mf126 : zmf 126 2 0 0 2 := by unfold zmf; decide +kernel
theorem mf127 : zmf 127 2 4 3 5 := by unfold zmf; decide +kernel
theorem mf128 : zmf 128 2 6 2 4 := by unfold zmf; decide +kernel
theorem mf129 : zmf 129 4 4 1 5 := by unfold zmf; decide +kernel
theorem mf130 : zmf 130 2 6 0 2 := by unfold zmf; decide +kernel
theorem mf131 : zmf 131 2 4 4 4 := by unfold zmf; decide +kernel
theorem mf132 : zmf 132 2 8 3 19 := by unfold zmf; decide +kernel
theorem mf133 : zmf 133 3 8 2 3 := by unfold zmf; decide +kernel
theorem mf134 : zmf 134 2 99 0 4 := by unfold zmf; decide +kernel
theorem mf135 : zmf 135 2 8 3 7 := by unfold zmf; decide +kernel
theorem mf136 : zmf 136 1 99 0 2 := by unfold zmf; decide +kernel
theorem mf137 : zmf 137 1 4 3 3 := by unfold zmf; decide +kernel
theorem mf138 : zmf 138 2 4 2 3 := by unfold zmf; decide +kernel
theorem mf139 : zmf 139 1 8 1 1 := by unfold zmf; decide +kernel
theorem mf140 : zmf 140 2 99 0 6 := by unfold zmf; decide +kernel
theorem mf141 : zmf 141 2 4 3 5 := by unfold zmf; decide +kernel
theorem mf142 : zmf 142 2 4 0 2 := by unfold zmf; decide +kernel
theorem mf143 : zmf 143 3 11 6 3 := by unfold zmf; decide +kernel
theorem mf144 : zmf 144 1 4 0 1 := by unfold zmf; decide +kernel
theorem mf145 : zmf 145 3 4 2 6 := by unfold zmf; decide +kernel
theorem mf146 : zmf 146 3 4 1 3 := by unfold zmf; decide +kernel
theorem mf147 : zmf 147 4 11 2 4 := by unfold zmf; decide +kernel
theorem mf148 : zmf 148 4 11 3 4 := by unfold zmf; decide +kernel
theorem mf149 : zmf 149 4 6 2 9 := by unfold zmf; decide +kernel
theorem mf150 : zmf 150 2 11 7 2 := by unfold zmf; decide +kernel
theorem mf151 : zmf 151 2 11 6 2 := by unfold zmf; decide +kernel
theorem mf152 : zmf 152 1 4 0 1 := by unfold zmf; decide +kernel
theorem mf153 : zmf 153 3 1 5 3 := by unfold zmf; decide +kernel
theorem mf154 : zmf 154 3 1 4 6 := by unfold zmf; decide +kernel
theorem mf155 : zmf 155 1 4 1 1 := by unfold zmf; decide +kernel
theorem mf156 : zmf 156 1 0 0 1 := by unfold zmf; decide +kernel
theorem mf157 : zmf 157 5 1 3 9 := by unfold zmf; decide +kernel
theorem mf158 : zmf 158 3 1 1 8 := by unfold zmf; decide +kernel
theorem mf159 : zmf 159 1 5 0 1 := by unfold zmf; decide +kernel
theorem mf160 : zmf 160 2 5 0 2 := by unfold zmf; decide +kernel
theorem mf161 : zmf 161 2 5 0 2 := by unfold zmf; decide +kernel
theorem mf162 : zmf 162 4 1 2 6 := by unfold zmf; decide +kernel
theorem mf163 : zmf 163 2 4 1 2 := by unfold zmf; decide +kernel
theorem mf164 : zmf 164 5 1 1 6 := by unfold zmf; decide +kernel
theorem mf165 : zmf 165 1 1 0 1 := by unfold zmf; decide +kernel
theorem mf166 : zmf 166 1 4 2 2 := by unfold zmf; decide +kernel
theorem mf167 : zmf 167 1 4 1 4 := by unfold zmf; decide +kernel
theorem mf168 : zmf 168 1 4 1 3 := by unfold zmf; decide +kernel
theorem mf169 : zmf 169 3 11 6 4 := by unfold zmf; decide +kernel
theorem mf170 : zmf 170 2 4 3 2 := by unfold zmf; decide +kernel
theorem mf171 : zmf 171 2 4 2 5 := by unfold zmf; decide +kernel
theorem mf172 : zmf 172 3 11 6 4 := by unfold zmf; decide +kernel
theorem mf173 : zmf 173 3 11 6 4 := by unfold zmf; decide +kernel
theorem mf174 : zmf 174 2 11 2 6 := by unfold zmf; decide +kernel
theorem mf175 : zmf 175 2 11 1 11 := by unfold zmf; decide +kernel
theorem mf176 : zmf 176 2 11 2 6 := by unfold zmf; decide +kernel
theorem mf177 : zmf 177 3 11 6 3 := by unfold zmf; decide +kernel
theorem mf178 : zmf 178 2 4 0 2 := by unfold zmf; decide +kernel
theorem mf179 : zmf 179 2 4 1 3 := by unfold zmf; decide +kernel
theorem mf185 : zmf 185 2 6 0 3 := by unfold zmf; decide +kernel
theorem mf187 : zmf 187 1 11 6 3 := by unfold zmf; decide +kernel
theorem mf188 : zmf 188 6 11 7 7 := by unfold zmf; decide +kernel
theorem mf189 : zmf 189 3 11 1 3 := by unfold zmf; decide +kernel
theorem mf190 : zmf 190 2 11 1 2 := by unfold zmf; decide +kernel
theorem mf191 : zmf 191 7 10 1 13 := by unfold zmf; decide +kernel
theorem mf192 : zmf 192 2 10 0 4 := by unfold zmf; decide +kernel
theorem mf193 : zmf 193 4 11 7 6 := by unfold zmf; decide +kernel
theorem mf194 : zmf 194 2 11 6 2 := by unfold zmf; decide +kernel
theorem mf195 : zmf 195 3 4 5 3 := by unfold zmf; decide +kernel
theorem mf196 : zmf 196 2 11 6 3 := by unfold zmf; decide +kernel
theorem mf197 : zmf 197 1 4 4 5 := by unfold zmf; decide +kernel
theorem mf198 : zmf 198 2 4 3 5 := by unfold zmf; decide +kernel
theorem mf199 : zmf 199 2 4 3 6 := by unfold zmf; decide +kernel
theorem mf200 : zmf 200 4 11 6 16 := by unfold zmf; decide +kernel
theorem mf201 : zmf 201 3 11 6 4 := by unfold zmf; decide +kernel
theorem mf202 : zmf 202 3 8 2 5 := by unfold zmf; decide +kernel
theorem mf203 : zmf 203 2 11 6 5 := by unfold zmf; decide +kernel
theorem mf204 : zmf 204 3 11 6 9 := by unfold zmf; decide +kernel
theorem mf205 : zmf 205 3 11 6 8 := by unfold zmf; decide +kernel
theorem mf206 : zmf 206 3 11 4 5 := by unfold zmf; decide +kernel
theorem mf207 : zmf 207 3 11 6 3 := by unfold zmf; decide +kernel
theorem mf208 : zmf 208 3 1 1 5 := by unfold zmf; decide +kernel
theorem mf209 : zmf 209 4 1 0 4 := by unfold zmf; decide +kernel
theorem mf210 : zmf 210 3 11 2 8 := by unfold zmf; decide +kernel
theorem mf211 : zmf 211 3 6 1 5 := by unfold zmf; decide +kernel
theorem mf212 : zmf 212 1 11 4 1 := by unfold zmf; decide +kernel
theorem mf213 : zmf 213 2 2 3 2 := by unfold zmf; decide +kernel
theorem mf214 : zmf 214 2 11 4 2 := by unfold zmf; decide +kernel
theorem mf215 : zmf 215 3 2 3 3 := by unfold zmf; decide +kernel
theorem mf216 : zmf 216 2 11 4 2 := by unfold zmf; decide +kernel
theorem mf217 : zmf 217 2 2 0 2 := by unfold zmf; decide +kernel
theorem mf218 : zmf 218 3 2 3 3 := by unfold zmf; decide +kernel
theorem mf219 : zmf 219 1 11 3 2 := by unfold zmf; decide +kernel
theorem mf220 : zmf 220 2 11 0 2 := by unfold zmf; decide +kernel
theorem mf221 : zmf 221 2 11 1 3 := by unfold zmf; decide +kernel
theorem mf222 : zmf 222 4 11 2 5 := by unfold zmf; decide +kernel
theorem mf223 : zmf 223 2 11 0 2 := by unfold zmf; decide +kernel
theorem mr14 : (mt 14).2.2.2.1 = some .int := by decide +kernel
theorem mr15 : (mt 15).2.2.2.1 = some .boolean := by decide +kernel
theorem mr16 : (mt 16).2.2.2.1 = none := by decide +kernel
theorem mr17 : (mt 17).2.2.2.1 = some .int := by decide +kernel
theorem mr18 : (mt 18).2.2.2.1 = some .int := by decide +kernel
theorem mr19 : (mt 19).2.2.2.1 = none := by decide +kernel
theorem mr20 : (mt 20).2.2.2.1 = some .int := by decide +kernel
theorem mr21 : (mt 21).2.2.2.1 = some .int := by decide +kernel
theorem mr22 : (mt 22).2.2.2.1 = some .int := by decide +kernel
theorem mr23 : (mt 23).2.2.2.1 = none := by decide +kernel
theorem mr24 : (mt 24).2.2.2.1 = none := by decide +kernel
theorem mr25 : (mt 25).2.2.2.1 = some .int := by decide +kernel
theorem mr26 : (mt 26).2.2.2.1 = none := by decide +kernel
theorem mr27 : (mt 27).2.2.2.1 = some .boolean := by decide +kernel
theorem mr28 : (mt 28).2.2.2.1 = some .boolean := by decide +kernel
theorem mr29 : (mt 29).2.2.2.1 = some .int := by decide +kernel
theorem mr30 : (mt 30).2.2.2.1 = some .int := by decide +kernel
theorem mr31 : (mt 31).2.2.2.1 = some .int := by decide +kernel
theorem mr32 : (mt 32).2.2.2.1 = some .int := by decide +kernel
theorem mr33 : (mt 33).2.2.2.1 = some .boolean := by decide +kernel
theorem mr34 : (mt 34).2.2.2.1 = some .boolean := by decide +kernel
theorem mr35 : (mt 35).2.2.2.1 = some .boolean := by decide +kernel
theorem mr36 : (mt 36).2.2.2.1 = some .boolean := by decide +kernel
theorem mr37 : (mt 37).2.2.2.1 = some .int := by decide +kernel
theorem mr38 : (mt 38).2.2.2.1 = some .boolean := by decide +kernel
theorem mr39 : (mt 39).2.2.2.1 = some .boolean := by decide +kernel
theorem mr40 : (mt 40).2.2.2.1 = some .boolean := by decide +kernel
theorem mr41 : (mt 41).2.2.2.1 = some .boolean := by decide +kernel
theorem mr42 : (mt 42).2.2.2.1 = some .boolean := by decide +kernel
theorem mr43 : (mt 43).2.2.2.1 = some .boolean := by decide +kernel
theorem mr44 : (mt 44).2.2.2.1 = some .boolean := by decide +kernel
theorem mr45 : (mt 45).2.2.2.1 = some .int := by decide +kernel
theorem mr46 : (mt 46).2.2.2.1 = some .int := by decide +kernel
theorem mr47 : (mt 47).2.2.2.1 = some .boolean := by decide +kernel
theorem mr48 : (mt 48).2.2.2.1 = some .boolean := by decide +kernel
theorem mr49 : (mt 49).2.2.2.1 = some .boolean := by decide +kernel
theorem mr50 : (mt 50).2.2.2.1 = some .int := by decide +kernel
theorem mr51 : (mt 51).2.2.2.1 = some .boolean := by decide +kernel
theorem mr52 : (mt 52).2.2.2.1 = some .boolean := by decide +kernel
theorem mr53 : (mt 53).2.2.2.1 = some .int := by decide +kernel
theorem mr54 : (mt 54).2.2.2.1 = some .int := by decide +kernel
theorem mr55 : (mt 55).2.2.2.1 = some .int := by decide +kernel
theorem mr56 : (mt 56).2.2.2.1 = none := by decide +kernel
theorem mr57 : (mt 57).2.2.2.1 = some .int := by decide +kernel
theorem mr58 : (mt 58).2.2.2.1 = none := by decide +kernel
theorem mr59 : (mt 59).2.2.2.1 = none := by decide +kernel
theorem mr60 : (mt 60).2.2.2.1 = none := by decide +kernel
theorem mr61 : (mt 61).2.2.2.1 = none := by decide +kernel
theorem mr82 : (mt 82).2.2.2.1 = some .int := by decide +kernel
theorem mr83 : (mt 83).2.2.2.1 = some .int := by decide +kernel
theorem mr84 : (mt 84).2.2.2.1 = some .boolean := by decide +kernel
theorem mr85 : (mt 85).2.2.2.1 = some .int := by decide +kernel
theorem mr86 : (mt 86).2.2.2.1 = some .int := by decide +kernel
theorem mr87 : (mt 87).2.2.2.1 = some .int := by decide +kernel
theorem mr88 : (mt 88).2.2.2.1 = some .int := by decide +kernel
theorem mr89 : (mt 89).2.2.2.1 = some .int := by decide +kernel
theorem mr90 : (mt 90).2.2.2.1 = some .int := by decide +kernel
theorem mr91 : (mt 91).2.2.2.1 = some .boolean := by decide +kernel
theorem mr92 : (mt 92).2.2.2.1 = some .int := by decide +kernel
theorem mr93 : (mt 93).2.2.2.1 = some .boolean := by decide +kernel
theorem mr94 : (mt 94).2.2.2.1 = some .int := by decide +kernel
theorem mr95 : (mt 95).2.2.2.1 = some .int := by decide +kernel
theorem mr96 : (mt 96).2.2.2.1 = some .int := by decide +kernel
theorem mr97 : (mt 97).2.2.2.1 = some .int := by decide +kernel
theorem mr98 : (mt 98).2.2.2.1 = some .int := by decide +kernel
theorem mr99 : (mt 99).2.2.2.1 = some .int := by decide +kernel
theorem mr100 : (mt 100).2.2.2.1 = some .int := by decide +kernel
theorem mr101 : (mt 101).2.2.2.1 = some .int := by decide +kernel
theorem mr102 : (mt 102).2.2.2.1 = some .int := by decide +kernel
theorem mr103 : (mt 103).2.2.2.1 = some .int := by decide +kernel
theorem mr104 : (mt 104).2.2.2.1 = some .int := by decide +kernel
theorem mr105 : (mt 105).2.2.2.1 = some (.object "TrackVotes$Picture") := by decide +kernel
theorem mr106 : (mt 106).2.2.2.1 = none := by decide +kernel
theorem mr107 : (mt 107).2.2.2.1 = none := by decide +kernel
theorem mr108 : (mt 108).2.2.2.1 = none := by decide +kernel
theorem mr109 : (mt 109).2.2.2.1 = none := by decide +kernel
theorem mr110 : (mt 110).2.2.2.1 = some .int := by decide +kernel
theorem mr111 : (mt 111).2.2.2.1 = some .int := by decide +kernel
theorem mr112 : (mt 112).2.2.2.1 = some .int := by decide +kernel
theorem mr113 : (mt 113).2.2.2.1 = some .int := by decide +kernel
theorem mr114 : (mt 114).2.2.2.1 = none := by decide +kernel
theorem mr115 : (mt 115).2.2.2.1 = some .int := by decide +kernel
theorem mr116 : (mt 116).2.2.2.1 = some .int := by decide +kernel
theorem mr117 : (mt 117).2.2.2.1 = some .int := by decide +kernel
theorem mr118 : (mt 118).2.2.2.1 = some .int := by decide +kernel
theorem mr119 : (mt 119).2.2.2.1 = some .int := by decide +kernel
theorem mr120 : (mt 120).2.2.2.1 = none := by decide +kernel
theorem mr121 : (mt 121).2.2.2.1 = none := by decide +kernel
theorem mr122 : (mt 122).2.2.2.1 = some .int := by decide +kernel
theorem mr123 : (mt 123).2.2.2.1 = none := by decide +kernel
theorem mr124 : (mt 124).2.2.2.1 = some .int := by decide +kernel
theorem mr125 : (mt 125).2.2.2.1 = some .int := by decide +kernel
theorem mr126 : (mt 126).2.2.2.1 = some (.object "TrackVotes$Track") := by decide +kernel
theorem mr127 : (mt 127).2.2.2.1 = none := by decide +kernel
theorem mr128 : (mt 128).2.2.2.1 = some .int := by decide +kernel
theorem mr129 : (mt 129).2.2.2.1 = none := by decide +kernel
theorem mr130 : (mt 130).2.2.2.1 = some .boolean := by decide +kernel
theorem mr131 : (mt 131).2.2.2.1 = none := by decide +kernel
theorem mr132 : (mt 132).2.2.2.1 = none := by decide +kernel
theorem mr133 : (mt 133).2.2.2.1 = some .long := by decide +kernel
theorem mr134 : (mt 134).2.2.2.1 = some .long := by decide +kernel
theorem mr135 : (mt 135).2.2.2.1 = none := by decide +kernel
theorem mr136 : (mt 136).2.2.2.1 = some .long := by decide +kernel
theorem mr137 : (mt 137).2.2.2.1 = none := by decide +kernel
theorem mr138 : (mt 138).2.2.2.1 = some .int := by decide +kernel
theorem mr139 : (mt 139).2.2.2.1 = some .int := by decide +kernel
theorem mr140 : (mt 140).2.2.2.1 = some .long := by decide +kernel
theorem mr141 : (mt 141).2.2.2.1 = none := by decide +kernel
theorem mr142 : (mt 142).2.2.2.1 = some .int := by decide +kernel
theorem mr143 : (mt 143).2.2.2.1 = some .int := by decide +kernel
theorem mr144 : (mt 144).2.2.2.1 = some .int := by decide +kernel
theorem mr145 : (mt 145).2.2.2.1 = some .int := by decide +kernel
theorem mr146 : (mt 146).2.2.2.1 = some .int := by decide +kernel
theorem mr147 : (mt 147).2.2.2.1 = some .int := by decide +kernel
theorem mr148 : (mt 148).2.2.2.1 = some .int := by decide +kernel
theorem mr149 : (mt 149).2.2.2.1 = some .int := by decide +kernel
theorem mr150 : (mt 150).2.2.2.1 = some .int := by decide +kernel
theorem mr151 : (mt 151).2.2.2.1 = some .int := by decide +kernel
theorem mr152 : (mt 152).2.2.2.1 = some .int := by decide +kernel
theorem mr153 : (mt 153).2.2.2.1 = some (.object "TrackVotes$Ghosts") := by decide +kernel
theorem mr154 : (mt 154).2.2.2.1 = none := by decide +kernel
theorem mr155 : (mt 155).2.2.2.1 = some (.object "TrackVotes$Plane") := by decide +kernel
theorem mr156 : (mt 156).2.2.2.1 = some (.object "TrackVotes$Plane") := by decide +kernel
theorem mr157 : (mt 157).2.2.2.1 = none := by decide +kernel
theorem mr158 : (mt 158).2.2.2.1 = some .int := by decide +kernel
theorem mr159 : (mt 159).2.2.2.1 = some .int := by decide +kernel
theorem mr160 : (mt 160).2.2.2.1 = some .int := by decide +kernel
theorem mr161 : (mt 161).2.2.2.1 = some .int := by decide +kernel
theorem mr162 : (mt 162).2.2.2.1 = some .boolean := by decide +kernel
theorem mr163 : (mt 163).2.2.2.1 = some (.object "TrackVotes$Track") := by decide +kernel
theorem mr164 : (mt 164).2.2.2.1 = none := by decide +kernel
theorem mr165 : (mt 165).2.2.2.1 = some .int := by decide +kernel
theorem mr166 : (mt 166).2.2.2.1 = some .int := by decide +kernel
theorem mr167 : (mt 167).2.2.2.1 = some .int := by decide +kernel
theorem mr168 : (mt 168).2.2.2.1 = some .int := by decide +kernel
theorem mr169 : (mt 169).2.2.2.1 = some .int := by decide +kernel
theorem mr170 : (mt 170).2.2.2.1 = some .int := by decide +kernel
theorem mr171 : (mt 171).2.2.2.1 = some .int := by decide +kernel
theorem mr172 : (mt 172).2.2.2.1 = some .int := by decide +kernel
theorem mr173 : (mt 173).2.2.2.1 = some .long := by decide +kernel
theorem mr174 : (mt 174).2.2.2.1 = some .long := by decide +kernel
theorem mr175 : (mt 175).2.2.2.1 = some .long := by decide +kernel
theorem mr176 : (mt 176).2.2.2.1 = some .long := by decide +kernel
theorem mr177 : (mt 177).2.2.2.1 = some .int := by decide +kernel
theorem mr178 : (mt 178).2.2.2.1 = some .int := by decide +kernel
theorem mr179 : (mt 179).2.2.2.1 = some .int := by decide +kernel
theorem mr185 : (mt 185).2.2.2.1 = some .boolean := by decide +kernel
theorem mr187 : (mt 187).2.2.2.1 = some .int := by decide +kernel
theorem mr188 : (mt 188).2.2.2.1 = some .int := by decide +kernel
theorem mr189 : (mt 189).2.2.2.1 = some .boolean := by decide +kernel
theorem mr190 : (mt 190).2.2.2.1 = some .int := by decide +kernel
theorem mr191 : (mt 191).2.2.2.1 = none := by decide +kernel
theorem mr192 : (mt 192).2.2.2.1 = some .int := by decide +kernel
theorem mr193 : (mt 193).2.2.2.1 = some .int := by decide +kernel
theorem mr194 : (mt 194).2.2.2.1 = some .int := by decide +kernel
theorem mr195 : (mt 195).2.2.2.1 = some .int := by decide +kernel
theorem mr196 : (mt 196).2.2.2.1 = some .int := by decide +kernel
theorem mr197 : (mt 197).2.2.2.1 = some .int := by decide +kernel
theorem mr198 : (mt 198).2.2.2.1 = some .int := by decide +kernel
theorem mr199 : (mt 199).2.2.2.1 = some .int := by decide +kernel
theorem mr200 : (mt 200).2.2.2.1 = some .long := by decide +kernel
theorem mr201 : (mt 201).2.2.2.1 = some .int := by decide +kernel
theorem mr202 : (mt 202).2.2.2.1 = some .int := by decide +kernel
theorem mr203 : (mt 203).2.2.2.1 = some .int := by decide +kernel
theorem mr204 : (mt 204).2.2.2.1 = some .int := by decide +kernel
theorem mr205 : (mt 205).2.2.2.1 = some .int := by decide +kernel
theorem mr206 : (mt 206).2.2.2.1 = some .int := by decide +kernel
theorem mr207 : (mt 207).2.2.2.1 = some .int := by decide +kernel
theorem mr208 : (mt 208).2.2.2.1 = some .int := by decide +kernel
theorem mr209 : (mt 209).2.2.2.1 = some .int := by decide +kernel
theorem mr210 : (mt 210).2.2.2.1 = some .int := by decide +kernel
theorem mr211 : (mt 211).2.2.2.1 = some .int := by decide +kernel
theorem mr212 : (mt 212).2.2.2.1 = some .int := by decide +kernel
theorem mr213 : (mt 213).2.2.2.1 = some .boolean := by decide +kernel
theorem mr214 : (mt 214).2.2.2.1 = some .boolean := by decide +kernel
theorem mr215 : (mt 215).2.2.2.1 = some .boolean := by decide +kernel
theorem mr216 : (mt 216).2.2.2.1 = some .boolean := by decide +kernel
theorem mr217 : (mt 217).2.2.2.1 = some .boolean := by decide +kernel
theorem mr218 : (mt 218).2.2.2.1 = some .boolean := by decide +kernel
theorem mr219 : (mt 219).2.2.2.1 = some .int := by decide +kernel
theorem mr220 : (mt 220).2.2.2.1 = none := by decide +kernel
theorem mr221 : (mt 221).2.2.2.1 = none := by decide +kernel
theorem mr222 : (mt 222).2.2.2.1 = none := by decide +kernel
theorem mr223 : (mt 223).2.2.2.1 = some .int := by decide +kernel
theorem t14_0 : zT 14 0 = some (.aload_n 0, 1, 0, 0, 0, 0) := (congrArg (fun t => List.lookup 0 t) gt14).trans rfl
theorem t14_1 : zT 14 1 = some (.getfield 29, 3, 11, 3, 0, 601) := (congrArg (fun t => List.lookup 1 t) gt14).trans rfl
theorem t14_4 : zT 14 4 = some (.bipush 20, 2, 0, 0, 20, 0) := (congrArg (fun t => List.lookup 4 t) gt14).trans rfl
theorem t14_6 : zT 14 6 = some (.invokevirtual 82, 3, 15, 0, 0, 642) := (congrArg (fun t => List.lookup 6 t) gt14).trans rfl
theorem t14_9 : zT 14 9 = some (.ifCond .ne 5, 3, 14, 0, 0, 0) := (congrArg (fun t => List.lookup 9 t) gt14).trans rfl
theorem t14_12 : zT 14 12 = some (.iconst (-1), 1, 0, 0, (-1), 0) := (congrArg (fun t => List.lookup 12 t) gt14).trans rfl
theorem t14_13 : zT 14 13 = some (.ireturn, 1, 0, 0, 0, 0) := (congrArg (fun t => List.lookup 13 t) gt14).trans rfl
theorem t14_14 : zT 14 14 = some (.aload_n 0, 1, 0, 0, 0, 0) := (congrArg (fun t => List.lookup 14 t) gt14).trans rfl
theorem t14_15 : zT 14 15 = some (.getfield 29, 3, 11, 3, 0, 601) := (congrArg (fun t => List.lookup 15 t) gt14).trans rfl
theorem t14_18 : zT 14 18 = some (.iload_n 1, 1, 1, 0, 0, 0) := (congrArg (fun t => List.lookup 18 t) gt14).trans rfl
theorem t14_19 : zT 14 19 = some (.invokevirtual 86, 3, 16, 0, 0, 646) := (congrArg (fun t => List.lookup 19 t) gt14).trans rfl
theorem t14_22 : zT 14 22 = some (.aload_n 0, 1, 0, 0, 0, 0) := (congrArg (fun t => List.lookup 22 t) gt14).trans rfl
theorem t14_23 : zT 14 23 = some (.getfield 29, 3, 11, 3, 0, 601) := (congrArg (fun t => List.lookup 23 t) gt14).trans rfl
theorem t14_26 : zT 14 26 = some (.iload_n 2, 1, 2, 0, 0, 0) := (congrArg (fun t => List.lookup 26 t) gt14).trans rfl
theorem t14_27 : zT 14 27 = some (.invokevirtual 86, 3, 16, 0, 0, 646) := (congrArg (fun t => List.lookup 27 t) gt14).trans rfl
theorem t14_30 : zT 14 30 = some (.aload_n 0, 1, 0, 0, 0, 0) := (congrArg (fun t => List.lookup 30 t) gt14).trans rfl
theorem t14_31 : zT 14 31 = some (.getfield 29, 3, 11, 3, 0, 601) := (congrArg (fun t => List.lookup 31 t) gt14).trans rfl
theorem t14_34 : zT 14 34 = some (.iload_n 3, 1, 3, 0, 0, 0) := (congrArg (fun t => List.lookup 34 t) gt14).trans rfl
theorem t14_35 : zT 14 35 = some (.invokevirtual 86, 3, 16, 0, 0, 646) := (congrArg (fun t => List.lookup 35 t) gt14).trans rfl
theorem t14_38 : zT 14 38 = some (.aload_n 0, 1, 0, 0, 0, 0) := (congrArg (fun t => List.lookup 38 t) gt14).trans rfl
theorem t14_39 : zT 14 39 = some (.getfield 29, 3, 11, 3, 0, 601) := (congrArg (fun t => List.lookup 39 t) gt14).trans rfl
theorem t14_42 : zT 14 42 = some (.iload 4, 2, 0, 0, 0, 0) := (congrArg (fun t => List.lookup 42 t) gt14).trans rfl
theorem t14_44 : zT 14 44 = some (.invokevirtual 86, 3, 16, 0, 0, 646) := (congrArg (fun t => List.lookup 44 t) gt14).trans rfl
theorem t14_47 : zT 14 47 = some (.aload_n 0, 1, 0, 0, 0, 0) := (congrArg (fun t => List.lookup 47 t) gt14).trans rfl
theorem t14_48 : zT 14 48 = some (.getfield 29, 3, 11, 3, 0, 601) := (congrArg (fun t => List.lookup 48 t) gt14).trans rfl
theorem t14_51 : zT 14 51 = some (.iload 5, 2, 0, 0, 0, 0) := (congrArg (fun t => List.lookup 51 t) gt14).trans rfl
theorem t14_53 : zT 14 53 = some (.invokevirtual 86, 3, 16, 0, 0, 646) := (congrArg (fun t => List.lookup 53 t) gt14).trans rfl
theorem t14_56 : zT 14 56 = some (.aload_n 0, 1, 0, 0, 0, 0) := (congrArg (fun t => List.lookup 56 t) gt14).trans rfl
theorem t14_57 : zT 14 57 = some (.getfield 29, 3, 11, 3, 0, 601) := (congrArg (fun t => List.lookup 57 t) gt14).trans rfl
theorem t14_60 : zT 14 60 = some (.invokevirtual 90, 3, 17, 0, 0, 650) := (congrArg (fun t => List.lookup 60 t) gt14).trans rfl
theorem t14_63 : zT 14 63 = some (.ireturn, 1, 0, 0, 0, 0) := (congrArg (fun t => List.lookup 63 t) gt14).trans rfl
theorem t15_0 : zT 15 0 = some (.aload_n 0, 1, 0, 0, 0, 0) := (congrArg (fun t => List.lookup 0 t) gt15).trans rfl
theorem t15_1 : zT 15 1 = some (.getfield 15, 3, 7, 1, 0, 261) := (congrArg (fun t => List.lookup 1 t) gt15).trans rfl
theorem t15_4 : zT 15 4 = some (.iload_n 1, 1, 1, 0, 0, 0) := (congrArg (fun t => List.lookup 4 t) gt15).trans rfl
theorem t15_5 : zT 15 5 = some (.iadd, 1, 0, 0, 0, 0) := (congrArg (fun t => List.lookup 5 t) gt15).trans rfl
theorem t15_6 : zT 15 6 = some (.sipush 500, 3, 0, 0, 500, 0) := (congrArg (fun t => List.lookup 6 t) gt15).trans rfl
theorem t15_9 : zT 15 9 = some (.if_icmp .gt 7, 3, 16, 0, 0, 0) := (congrArg (fun t => List.lookup 9 t) gt15).trans rfl
theorem t15_12 : zT 15 12 = some (.iconst 1, 1, 0, 0, 1, 0) := (congrArg (fun t => List.lookup 12 t) gt15).trans rfl
theorem t15_13 : zT 15 13 = some (.goto 4, 3, 17, 0, 0, 0) := (congrArg (fun t => List.lookup 13 t) gt15).trans rfl
theorem t15_16 : zT 15 16 = some (.iconst 0, 1, 0, 0, 0, 0) := (congrArg (fun t => List.lookup 16 t) gt15).trans rfl
theorem t15_17 : zT 15 17 = some (.ireturn, 1, 0, 0, 0, 0) := (congrArg (fun t => List.lookup 17 t) gt15).trans rfl
theorem t16_0 : zT 16 0 = some (.bipush 24, 2, 0, 0, 24, 0) := (congrArg (fun t => List.lookup 0 t) gt16).trans rfl
theorem t16_2 : zT 16 2 = some (.istore_n 2, 1, 2, 0, 0, 0) := (congrArg (fun t => List.lookup 2 t) gt16).trans rfl
theorem t16_3 : zT 16 3 = some (.iload_n 2, 1, 2, 0, 0, 0) := (congrArg (fun t => List.lookup 3 t) gt16).trans rfl
theorem t16_4 : zT 16 4 = some (.ifCond .lt 42, 3, 46, 0, 0, 0) := (congrArg (fun t => List.lookup 4 t) gt16).trans rfl
theorem t16_7 : zT 16 7 = some (.aload_n 0, 1, 0, 0, 0, 0) := (congrArg (fun t => List.lookup 7 t) gt16).trans rfl
theorem t16_8 : zT 16 8 = some (.getfield 15, 3, 7, 1, 0, 261) := (congrArg (fun t => List.lookup 8 t) gt16).trans rfl
theorem t16_11 : zT 16 11 = some (.sipush 500, 3, 0, 0, 500, 0) := (congrArg (fun t => List.lookup 11 t) gt16).trans rfl
theorem t16_14 : zT 16 14 = some (.if_icmp .ge 32, 3, 46, 0, 0, 0) := (congrArg (fun t => List.lookup 14 t) gt16).trans rfl
theorem t16_17 : zT 16 17 = some (.aload_n 0, 1, 0, 0, 0, 0) := (congrArg (fun t => List.lookup 17 t) gt16).trans rfl
theorem t16_18 : zT 16 18 = some (.getfield 9, 3, 7, 0, 0, 260) := (congrArg (fun t => List.lookup 18 t) gt16).trans rfl
theorem t16_21 : zT 16 21 = some (.aload_n 0, 1, 0, 0, 0, 0) := (congrArg (fun t => List.lookup 21 t) gt16).trans rfl
theorem t16_22 : zT 16 22 = some (.getfield 15, 3, 7, 1, 0, 261) := (congrArg (fun t => List.lookup 22 t) gt16).trans rfl
theorem t16_25 : zT 16 25 = some (.iload_n 1, 1, 1, 0, 0, 0) := (congrArg (fun t => List.lookup 25 t) gt16).trans rfl
theorem t16_26 : zT 16 26 = some (.iload_n 2, 1, 2, 0, 0, 0) := (congrArg (fun t => List.lookup 26 t) gt16).trans rfl
theorem t16_27 : zT 16 27 = some (.iushr, 1, 0, 0, 0, 0) := (congrArg (fun t => List.lookup 27 t) gt16).trans rfl
theorem t16_28 : zT 16 28 = some (.i2b, 1, 0, 0, 0, 0) := (congrArg (fun t => List.lookup 28 t) gt16).trans rfl
theorem t16_29 : zT 16 29 = some (.bastore, 1, 0, 0, 0, 0) := (congrArg (fun t => List.lookup 29 t) gt16).trans rfl
theorem t16_30 : zT 16 30 = some (.aload_n 0, 1, 0, 0, 0, 0) := (congrArg (fun t => List.lookup 30 t) gt16).trans rfl
theorem t16_31 : zT 16 31 = some (.dup, 1, 0, 0, 0, 0) := (congrArg (fun t => List.lookup 31 t) gt16).trans rfl
theorem t16_32 : zT 16 32 = some (.getfield 15, 3, 7, 1, 0, 261) := (congrArg (fun t => List.lookup 32 t) gt16).trans rfl
theorem t16_35 : zT 16 35 = some (.iconst 1, 1, 0, 0, 1, 0) := (congrArg (fun t => List.lookup 35 t) gt16).trans rfl
theorem t16_36 : zT 16 36 = some (.iadd, 1, 0, 0, 0, 0) := (congrArg (fun t => List.lookup 36 t) gt16).trans rfl
theorem t16_37 : zT 16 37 = some (.putfield 15, 3, 7, 1, 0, 261) := (congrArg (fun t => List.lookup 37 t) gt16).trans rfl
theorem t16_40 : zT 16 40 = some (.iinc 2 (-8), 3, 0, 0, 0, 0) := (congrArg (fun t => List.lookup 40 t) gt16).trans rfl
theorem t16_43 : zT 16 43 = some (.goto (-40), 3, 3, 0, 0, 0) := (congrArg (fun t => List.lookup 43 t) gt16).trans rfl
theorem t16_46 : zT 16 46 = some (.return_, 1, 0, 0, 0, 0) := (congrArg (fun t => List.lookup 46 t) gt16).trans rfl
theorem t17_0 : zT 17 0 = some (.aload_n 0, 1, 0, 0, 0, 0) := (congrArg (fun t => List.lookup 0 t) gt17).trans rfl
theorem t17_1 : zT 17 1 = some (.getfield 15, 3, 7, 1, 0, 261) := (congrArg (fun t => List.lookup 1 t) gt17).trans rfl
theorem t17_4 : zT 17 4 = some (.ireturn, 1, 0, 0, 0, 0) := (congrArg (fun t => List.lookup 4 t) gt17).trans rfl
theorem t18_0 : zT 18 0 = some (.iload_n 1, 1, 1, 0, 0, 0) := (congrArg (fun t => List.lookup 0 t) gt18).trans rfl
theorem t18_1 : zT 18 1 = some (.ifCond .lt 14, 3, 15, 0, 0, 0) := (congrArg (fun t => List.lookup 1 t) gt18).trans rfl
theorem t18_4 : zT 18 4 = some (.iload_n 1, 1, 1, 0, 0, 0) := (congrArg (fun t => List.lookup 4 t) gt18).trans rfl
theorem t18_5 : zT 18 5 = some (.aload_n 0, 1, 0, 0, 0, 0) := (congrArg (fun t => List.lookup 5 t) gt18).trans rfl
theorem t18_6 : zT 18 6 = some (.getfield 29, 3, 11, 3, 0, 601) := (congrArg (fun t => List.lookup 6 t) gt18).trans rfl
theorem t18_9 : zT 18 9 = some (.invokevirtual 90, 3, 17, 0, 0, 650) := (congrArg (fun t => List.lookup 9 t) gt18).trans rfl
theorem t18_12 : zT 18 12 = some (.if_icmp .le 5, 3, 17, 0, 0, 0) := (congrArg (fun t => List.lookup 12 t) gt18).trans rfl
theorem t18_15 : zT 18 15 = some (.iconst (-1), 1, 0, 0, (-1), 0) := (congrArg (fun t => List.lookup 15 t) gt18).trans rfl
theorem t18_16 : zT 18 16 = some (.ireturn, 1, 0, 0, 0, 0) := (congrArg (fun t => List.lookup 16 t) gt18).trans rfl
theorem t18_17 : zT 18 17 = some (.aload_n 0, 1, 0, 0, 0, 0) := (congrArg (fun t => List.lookup 17 t) gt18).trans rfl
theorem t18_18 : zT 18 18 = some (.getfield 29, 3, 11, 3, 0, 601) := (congrArg (fun t => List.lookup 18 t) gt18).trans rfl
theorem t18_21 : zT 18 21 = some (.iload_n 1, 1, 1, 0, 0, 0) := (congrArg (fun t => List.lookup 21 t) gt18).trans rfl
theorem t18_22 : zT 18 22 = some (.invokevirtual 94, 3, 19, 0, 0, 658) := (congrArg (fun t => List.lookup 22 t) gt18).trans rfl
theorem t18_25 : zT 18 25 = some (.iload_n 1, 1, 1, 0, 0, 0) := (congrArg (fun t => List.lookup 25 t) gt18).trans rfl
theorem t18_26 : zT 18 26 = some (.ireturn, 1, 0, 0, 0, 0) := (congrArg (fun t => List.lookup 26 t) gt18).trans rfl
theorem t19_0 : zT 19 0 = some (.aload_n 0, 1, 0, 0, 0, 0) := (congrArg (fun t => List.lookup 0 t) gt19).trans rfl
theorem t19_1 : zT 19 1 = some (.iconst 0, 1, 0, 0, 0, 0) := (congrArg (fun t => List.lookup 1 t) gt19).trans rfl
theorem t19_2 : zT 19 2 = some (.iload_n 1, 1, 1, 0, 0, 0) := (congrArg (fun t => List.lookup 2 t) gt19).trans rfl
theorem t19_3 : zT 19 3 = some (.aload_n 0, 1, 0, 0, 0, 0) := (congrArg (fun t => List.lookup 3 t) gt19).trans rfl
theorem t19_4 : zT 19 4 = some (.getfield 15, 3, 7, 1, 0, 261) := (congrArg (fun t => List.lookup 4 t) gt19).trans rfl
theorem t19_7 : zT 19 7 = some (.invokestatic 31, 3, 20, 1, 0, 662) := (congrArg (fun t => List.lookup 7 t) gt19).trans rfl
theorem t19_10 : zT 19 10 = some (.invokestatic 37, 3, 21, 1, 0, 665) := (congrArg (fun t => List.lookup 10 t) gt19).trans rfl
theorem t19_13 : zT 19 13 = some (.putfield 15, 3, 7, 1, 0, 261) := (congrArg (fun t => List.lookup 13 t) gt19).trans rfl
theorem t19_16 : zT 19 16 = some (.return_, 1, 0, 0, 0, 0) := (congrArg (fun t => List.lookup 16 t) gt19).trans rfl
theorem t20_0 : zT 20 0 = some (.iload_n 0, 1, 0, 0, 0, 0) := (congrArg (fun t => List.lookup 0 t) gt20).trans rfl
theorem t20_1 : zT 20 1 = some (.iload_n 1, 1, 1, 0, 0, 0) := (congrArg (fun t => List.lookup 1 t) gt20).trans rfl
theorem t20_2 : zT 20 2 = some (.if_icmp .gt 7, 3, 9, 0, 0, 0) := (congrArg (fun t => List.lookup 2 t) gt20).trans rfl
theorem t20_5 : zT 20 5 = some (.iload_n 0, 1, 0, 0, 0, 0) := (congrArg (fun t => List.lookup 5 t) gt20).trans rfl
theorem t20_6 : zT 20 6 = some (.goto 4, 3, 10, 0, 0, 0) := (congrArg (fun t => List.lookup 6 t) gt20).trans rfl
theorem t20_9 : zT 20 9 = some (.iload_n 1, 1, 1, 0, 0, 0) := (congrArg (fun t => List.lookup 9 t) gt20).trans rfl
theorem t20_10 : zT 20 10 = some (.ireturn, 1, 0, 0, 0, 0) := (congrArg (fun t => List.lookup 10 t) gt20).trans rfl
theorem t21_0 : zT 21 0 = some (.iload_n 0, 1, 0, 0, 0, 0) := (congrArg (fun t => List.lookup 0 t) gt21).trans rfl
theorem t21_1 : zT 21 1 = some (.iload_n 1, 1, 1, 0, 0, 0) := (congrArg (fun t => List.lookup 1 t) gt21).trans rfl
theorem t21_2 : zT 21 2 = some (.if_icmp .lt 7, 3, 9, 0, 0, 0) := (congrArg (fun t => List.lookup 2 t) gt21).trans rfl
theorem t21_5 : zT 21 5 = some (.iload_n 0, 1, 0, 0, 0, 0) := (congrArg (fun t => List.lookup 5 t) gt21).trans rfl
theorem t21_6 : zT 21 6 = some (.goto 4, 3, 10, 0, 0, 0) := (congrArg (fun t => List.lookup 6 t) gt21).trans rfl
theorem t21_9 : zT 21 9 = some (.iload_n 1, 1, 1, 0, 0, 0) := (congrArg (fun t => List.lookup 9 t) gt21).trans rfl
theorem t21_10 : zT 21 10 = some (.ireturn, 1, 0, 0, 0, 0) := (congrArg (fun t => List.lookup 10 t) gt21).trans rfl
theorem t22_0 : zT 22 0 = some (.aload_n 0, 1, 0, 0, 0, 0) := (congrArg (fun t => List.lookup 0 t) gt22).trans rfl
theorem t22_1 : zT 22 1 = some (.getfield 16, 3, 11, 1, 0, 599) := (congrArg (fun t => List.lookup 1 t) gt22).trans rfl
theorem t22_4 : zT 22 4 = some (.aload_n 0, 1, 0, 0, 0, 0) := (congrArg (fun t => List.lookup 4 t) gt22).trans rfl
theorem t22_5 : zT 22 5 = some (.getfield 12, 3, 11, 0, 0, 598) := (congrArg (fun t => List.lookup 5 t) gt22).trans rfl
theorem t22_8 : zT 22 8 = some (.invokevirtual 97, 3, 23, 0, 0, 672) := (congrArg (fun t => List.lookup 8 t) gt22).trans rfl
theorem t22_11 : zT 22 11 = some (.aload_n 0, 1, 0, 0, 0, 0) := (congrArg (fun t => List.lookup 11 t) gt22).trans rfl
theorem t22_12 : zT 22 12 = some (.getfield 36, 3, 11, 4, 0, 602) := (congrArg (fun t => List.lookup 12 t) gt22).trans rfl
theorem t22_15 : zT 22 15 = some (.aload_n 0, 1, 0, 0, 0, 0) := (congrArg (fun t => List.lookup 15 t) gt22).trans rfl
theorem t22_16 : zT 22 16 = some (.getfield 29, 3, 11, 3, 0, 601) := (congrArg (fun t => List.lookup 16 t) gt22).trans rfl
theorem t22_19 : zT 22 19 = some (.aload_n 0, 1, 0, 0, 0, 0) := (congrArg (fun t => List.lookup 19 t) gt22).trans rfl
theorem t22_20 : zT 22 20 = some (.getfield 16, 3, 11, 1, 0, 599) := (congrArg (fun t => List.lookup 20 t) gt22).trans rfl
theorem t22_23 : zT 22 23 = some (.invokevirtual 101, 3, 25, 0, 0, 685) := (congrArg (fun t => List.lookup 23 t) gt22).trans rfl
theorem t22_26 : zT 22 26 = some (.istore_n 1, 1, 1, 0, 0, 0) := (congrArg (fun t => List.lookup 26 t) gt22).trans rfl
theorem t22_27 : zT 22 27 = some (.aload_n 0, 1, 0, 0, 0, 0) := (congrArg (fun t => List.lookup 27 t) gt22).trans rfl
theorem t22_28 : zT 22 28 = some (.aload_n 0, 1, 0, 0, 0, 0) := (congrArg (fun t => List.lookup 28 t) gt22).trans rfl
theorem t22_29 : zT 22 29 = some (.getfield 29, 3, 11, 3, 0, 601) := (congrArg (fun t => List.lookup 29 t) gt22).trans rfl
theorem t22_32 : zT 22 32 = some (.invokevirtual 105, 3, 57, 0, 0, 813) := (congrArg (fun t => List.lookup 32 t) gt22).trans rfl
theorem t22_35 : zT 22 35 = some (.putfield 76, 3, 11, 11, 0, 609) := (congrArg (fun t => List.lookup 35 t) gt22).trans rfl
theorem t22_38 : zT 22 38 = some (.aload_n 0, 1, 0, 0, 0, 0) := (congrArg (fun t => List.lookup 38 t) gt22).trans rfl
theorem t22_39 : zT 22 39 = some (.getfield 29, 3, 11, 3, 0, 601) := (congrArg (fun t => List.lookup 39 t) gt22).trans rfl
theorem t22_42 : zT 22 42 = some (.iconst 0, 1, 0, 0, 0, 0) := (congrArg (fun t => List.lookup 42 t) gt22).trans rfl
theorem t22_43 : zT 22 43 = some (.invokevirtual 94, 3, 19, 0, 0, 658) := (congrArg (fun t => List.lookup 43 t) gt22).trans rfl
theorem t22_46 : zT 22 46 = some (.iload_n 1, 1, 1, 0, 0, 0) := (congrArg (fun t => List.lookup 46 t) gt22).trans rfl
theorem t22_47 : zT 22 47 = some (.iconst (-1), 1, 0, 0, (-1), 0) := (congrArg (fun t => List.lookup 47 t) gt22).trans rfl
theorem t22_48 : zT 22 48 = some (.if_icmp .ne 5, 3, 53, 0, 0, 0) := (congrArg (fun t => List.lookup 48 t) gt22).trans rfl
theorem t22_51 : zT 22 51 = some (.iconst (-1), 1, 0, 0, (-1), 0) := (congrArg (fun t => List.lookup 51 t) gt22).trans rfl
theorem t22_52 : zT 22 52 = some (.ireturn, 1, 0, 0, 0, 0) := (congrArg (fun t => List.lookup 52 t) gt22).trans rfl
theorem t22_53 : zT 22 53 = some (.aload_n 0, 1, 0, 0, 0, 0) := (congrArg (fun t => List.lookup 53 t) gt22).trans rfl
theorem t22_54 : zT 22 54 = some (.getfield 22, 3, 11, 2, 0, 600) := (congrArg (fun t => List.lookup 54 t) gt22).trans rfl
theorem t22_57 : zT 22 57 = some (.aload_n 0, 1, 0, 0, 0, 0) := (congrArg (fun t => List.lookup 57 t) gt22).trans rfl
theorem t22_58 : zT 22 58 = some (.getfield 12, 3, 11, 0, 0, 598) := (congrArg (fun t => List.lookup 58 t) gt22).trans rfl
theorem t22_61 : zT 22 61 = some (.invokevirtual 108, 3, 58, 0, 0, 817) := (congrArg (fun t => List.lookup 61 t) gt22).trans rfl
theorem t22_64 : zT 22 64 = some (.aload_n 0, 1, 0, 0, 0, 0) := (congrArg (fun t => List.lookup 64 t) gt22).trans rfl
theorem t22_65 : zT 22 65 = some (.getfield 12, 3, 11, 0, 0, 598) := (congrArg (fun t => List.lookup 65 t) gt22).trans rfl
theorem t22_68 : zT 22 68 = some (.aload_n 0, 1, 0, 0, 0, 0) := (congrArg (fun t => List.lookup 68 t) gt22).trans rfl
theorem t22_69 : zT 22 69 = some (.getfield 16, 3, 11, 1, 0, 599) := (congrArg (fun t => List.lookup 69 t) gt22).trans rfl
theorem t22_72 : zT 22 72 = some (.invokevirtual 97, 3, 23, 0, 0, 672) := (congrArg (fun t => List.lookup 72 t) gt22).trans rfl
theorem t22_75 : zT 22 75 = some (.aload_n 0, 1, 0, 0, 0, 0) := (congrArg (fun t => List.lookup 75 t) gt22).trans rfl
theorem t22_76 : zT 22 76 = some (.invokevirtual 111, 3, 59, 0, 0, 823) := (congrArg (fun t => List.lookup 76 t) gt22).trans rfl
theorem t22_79 : zT 22 79 = some (.iload_n 1, 1, 1, 0, 0, 0) := (congrArg (fun t => List.lookup 79 t) gt22).trans rfl
theorem t22_80 : zT 22 80 = some (.ireturn, 1, 0, 0, 0, 0) := (congrArg (fun t => List.lookup 80 t) gt22).trans rfl
theorem t23_0 : zT 23 0 = some (.aload_n 0, 1, 0, 0, 0, 0) := (congrArg (fun t => List.lookup 0 t) gt23).trans rfl
theorem t23_1 : zT 23 1 = some (.aload_n 1, 1, 1, 0, 0, 0) := (congrArg (fun t => List.lookup 1 t) gt23).trans rfl
theorem t23_2 : zT 23 2 = some (.getfield 9, 3, 6, 0, 0, 151) := (congrArg (fun t => List.lookup 2 t) gt23).trans rfl
theorem t23_5 : zT 23 5 = some (.putfield 9, 3, 6, 0, 0, 151) := (congrArg (fun t => List.lookup 5 t) gt23).trans rfl
theorem t23_8 : zT 23 8 = some (.aload_n 1, 1, 1, 0, 0, 0) := (congrArg (fun t => List.lookup 8 t) gt23).trans rfl
theorem t23_9 : zT 23 9 = some (.getfield 15, 3, 6, 1, 0, 157) := (congrArg (fun t => List.lookup 9 t) gt23).trans rfl
theorem t23_12 : zT 23 12 = some (.iconst 0, 1, 0, 0, 0, 0) := (congrArg (fun t => List.lookup 12 t) gt23).trans rfl
theorem t23_13 : zT 23 13 = some (.aload_n 0, 1, 0, 0, 0, 0) := (congrArg (fun t => List.lookup 13 t) gt23).trans rfl
theorem t23_14 : zT 23 14 = some (.getfield 15, 3, 6, 1, 0, 157) := (congrArg (fun t => List.lookup 14 t) gt23).trans rfl
theorem t23_17 : zT 23 17 = some (.iconst 0, 1, 0, 0, 0, 0) := (congrArg (fun t => List.lookup 17 t) gt23).trans rfl
theorem t23_18 : zT 23 18 = some (.aload_n 0, 1, 0, 0, 0, 0) := (congrArg (fun t => List.lookup 18 t) gt23).trans rfl
theorem t23_19 : zT 23 19 = some (.getfield 9, 3, 6, 0, 0, 151) := (congrArg (fun t => List.lookup 19 t) gt23).trans rfl
theorem t23_22 : zT 23 22 = some (.invokestatic 68, 3, 0, 6, 0, 676) := (congrArg (fun t => List.lookup 22 t) gt23).trans rfl
theorem t23_25 : zT 23 25 = some (.aload_n 1, 1, 1, 0, 0, 0) := (congrArg (fun t => List.lookup 25 t) gt23).trans rfl
theorem t23_26 : zT 23 26 = some (.getfield 19, 3, 6, 2, 0, 161) := (congrArg (fun t => List.lookup 26 t) gt23).trans rfl
theorem t23_29 : zT 23 29 = some (.iconst 0, 1, 0, 0, 0, 0) := (congrArg (fun t => List.lookup 29 t) gt23).trans rfl
theorem t23_30 : zT 23 30 = some (.aload_n 0, 1, 0, 0, 0, 0) := (congrArg (fun t => List.lookup 30 t) gt23).trans rfl
theorem t23_31 : zT 23 31 = some (.getfield 19, 3, 6, 2, 0, 161) := (congrArg (fun t => List.lookup 31 t) gt23).trans rfl
theorem t23_34 : zT 23 34 = some (.iconst 0, 1, 0, 0, 0, 0) := (congrArg (fun t => List.lookup 34 t) gt23).trans rfl
theorem t23_35 : zT 23 35 = some (.aload_n 0, 1, 0, 0, 0, 0) := (congrArg (fun t => List.lookup 35 t) gt23).trans rfl
theorem t23_36 : zT 23 36 = some (.getfield 9, 3, 6, 0, 0, 151) := (congrArg (fun t => List.lookup 36 t) gt23).trans rfl
theorem t23_39 : zT 23 39 = some (.invokestatic 68, 3, 0, 6, 0, 676) := (congrArg (fun t => List.lookup 39 t) gt23).trans rfl
theorem t23_42 : zT 23 42 = some (.aload_n 0, 1, 0, 0, 0, 0) := (congrArg (fun t => List.lookup 42 t) gt23).trans rfl
theorem t23_43 : zT 23 43 = some (.aload_n 1, 1, 1, 0, 0, 0) := (congrArg (fun t => List.lookup 43 t) gt23).trans rfl
theorem t23_44 : zT 23 44 = some (.getfield 23, 3, 6, 3, 0, 164) := (congrArg (fun t => List.lookup 44 t) gt23).trans rfl
theorem t23_47 : zT 23 47 = some (.putfield 23, 3, 6, 3, 0, 164) := (congrArg (fun t => List.lookup 47 t) gt23).trans rfl
theorem t23_50 : zT 23 50 = some (.aload_n 1, 1, 1, 0, 0, 0) := (congrArg (fun t => List.lookup 50 t) gt23).trans rfl
theorem t23_51 : zT 23 51 = some (.getfield 26, 3, 6, 4, 0, 168) := (congrArg (fun t => List.lookup 51 t) gt23).trans rfl
theorem t23_54 : zT 23 54 = some (.iconst 0, 1, 0, 0, 0, 0) := (congrArg (fun t => List.lookup 54 t) gt23).trans rfl
theorem t23_55 : zT 23 55 = some (.aload_n 0, 1, 0, 0, 0, 0) := (congrArg (fun t => List.lookup 55 t) gt23).trans rfl
theorem t23_56 : zT 23 56 = some (.getfield 26, 3, 6, 4, 0, 168) := (congrArg (fun t => List.lookup 56 t) gt23).trans rfl
theorem t23_59 : zT 23 59 = some (.iconst 0, 1, 0, 0, 0, 0) := (congrArg (fun t => List.lookup 59 t) gt23).trans rfl
theorem t23_60 : zT 23 60 = some (.aload_n 0, 1, 0, 0, 0, 0) := (congrArg (fun t => List.lookup 60 t) gt23).trans rfl
theorem t23_61 : zT 23 61 = some (.getfield 23, 3, 6, 3, 0, 164) := (congrArg (fun t => List.lookup 61 t) gt23).trans rfl
theorem t23_64 : zT 23 64 = some (.invokestatic 68, 3, 0, 6, 0, 676) := (congrArg (fun t => List.lookup 64 t) gt23).trans rfl
theorem t23_67 : zT 23 67 = some (.aload_n 1, 1, 1, 0, 0, 0) := (congrArg (fun t => List.lookup 67 t) gt23).trans rfl
theorem t23_68 : zT 23 68 = some (.getfield 29, 3, 6, 5, 0, 171) := (congrArg (fun t => List.lookup 68 t) gt23).trans rfl
theorem t23_71 : zT 23 71 = some (.iconst 0, 1, 0, 0, 0, 0) := (congrArg (fun t => List.lookup 71 t) gt23).trans rfl
theorem t23_72 : zT 23 72 = some (.aload_n 0, 1, 0, 0, 0, 0) := (congrArg (fun t => List.lookup 72 t) gt23).trans rfl
theorem t23_73 : zT 23 73 = some (.getfield 29, 3, 6, 5, 0, 171) := (congrArg (fun t => List.lookup 73 t) gt23).trans rfl
theorem t23_76 : zT 23 76 = some (.iconst 0, 1, 0, 0, 0, 0) := (congrArg (fun t => List.lookup 76 t) gt23).trans rfl
theorem t23_77 : zT 23 77 = some (.aload_n 0, 1, 0, 0, 0, 0) := (congrArg (fun t => List.lookup 77 t) gt23).trans rfl
theorem t23_78 : zT 23 78 = some (.getfield 23, 3, 6, 3, 0, 164) := (congrArg (fun t => List.lookup 78 t) gt23).trans rfl
theorem t23_81 : zT 23 81 = some (.invokestatic 68, 3, 0, 6, 0, 676) := (congrArg (fun t => List.lookup 81 t) gt23).trans rfl
theorem t23_84 : zT 23 84 = some (.aload_n 1, 1, 1, 0, 0, 0) := (congrArg (fun t => List.lookup 84 t) gt23).trans rfl
theorem t23_85 : zT 23 85 = some (.getfield 32, 3, 6, 6, 0, 175) := (congrArg (fun t => List.lookup 85 t) gt23).trans rfl
theorem t23_88 : zT 23 88 = some (.iconst 0, 1, 0, 0, 0, 0) := (congrArg (fun t => List.lookup 88 t) gt23).trans rfl
theorem t23_89 : zT 23 89 = some (.aload_n 0, 1, 0, 0, 0, 0) := (congrArg (fun t => List.lookup 89 t) gt23).trans rfl
theorem t23_90 : zT 23 90 = some (.getfield 32, 3, 6, 6, 0, 175) := (congrArg (fun t => List.lookup 90 t) gt23).trans rfl
theorem t23_93 : zT 23 93 = some (.iconst 0, 1, 0, 0, 0, 0) := (congrArg (fun t => List.lookup 93 t) gt23).trans rfl
theorem t23_94 : zT 23 94 = some (.aload_n 0, 1, 0, 0, 0, 0) := (congrArg (fun t => List.lookup 94 t) gt23).trans rfl
theorem t23_95 : zT 23 95 = some (.getfield 23, 3, 6, 3, 0, 164) := (congrArg (fun t => List.lookup 95 t) gt23).trans rfl
theorem t23_98 : zT 23 98 = some (.invokestatic 68, 3, 0, 6, 0, 676) := (congrArg (fun t => List.lookup 98 t) gt23).trans rfl
theorem t23_101 : zT 23 101 = some (.aload_n 1, 1, 1, 0, 0, 0) := (congrArg (fun t => List.lookup 101 t) gt23).trans rfl
theorem t23_102 : zT 23 102 = some (.getfield 35, 3, 6, 7, 0, 177) := (congrArg (fun t => List.lookup 102 t) gt23).trans rfl
theorem t23_105 : zT 23 105 = some (.iconst 0, 1, 0, 0, 0, 0) := (congrArg (fun t => List.lookup 105 t) gt23).trans rfl
theorem t23_106 : zT 23 106 = some (.aload_n 0, 1, 0, 0, 0, 0) := (congrArg (fun t => List.lookup 106 t) gt23).trans rfl
theorem t23_107 : zT 23 107 = some (.getfield 35, 3, 6, 7, 0, 177) := (congrArg (fun t => List.lookup 107 t) gt23).trans rfl
theorem t23_110 : zT 23 110 = some (.iconst 0, 1, 0, 0, 0, 0) := (congrArg (fun t => List.lookup 110 t) gt23).trans rfl
theorem t23_111 : zT 23 111 = some (.aload_n 0, 1, 0, 0, 0, 0) := (congrArg (fun t => List.lookup 111 t) gt23).trans rfl
theorem t23_112 : zT 23 112 = some (.getfield 23, 3, 6, 3, 0, 164) := (congrArg (fun t => List.lookup 112 t) gt23).trans rfl
theorem t23_115 : zT 23 115 = some (.invokestatic 68, 3, 0, 6, 0, 676) := (congrArg (fun t => List.lookup 115 t) gt23).trans rfl
theorem t23_118 : zT 23 118 = some (.aload_n 0, 1, 0, 0, 0, 0) := (congrArg (fun t => List.lookup 118 t) gt23).trans rfl
theorem t23_119 : zT 23 119 = some (.aload_n 1, 1, 1, 0, 0, 0) := (congrArg (fun t => List.lookup 119 t) gt23).trans rfl
theorem t23_120 : zT 23 120 = some (.getfield 38, 3, 6, 8, 0, 180) := (congrArg (fun t => List.lookup 120 t) gt23).trans rfl
theorem t23_123 : zT 23 123 = some (.putfield 38, 3, 6, 8, 0, 180) := (congrArg (fun t => List.lookup 123 t) gt23).trans rfl
theorem t23_126 : zT 23 126 = some (.aload_n 1, 1, 1, 0, 0, 0) := (congrArg (fun t => List.lookup 126 t) gt23).trans rfl
theorem t23_127 : zT 23 127 = some (.getfield 41, 3, 6, 9, 0, 184) := (congrArg (fun t => List.lookup 127 t) gt23).trans rfl
theorem t23_130 : zT 23 130 = some (.iconst 0, 1, 0, 0, 0, 0) := (congrArg (fun t => List.lookup 130 t) gt23).trans rfl
theorem t23_131 : zT 23 131 = some (.aload_n 0, 1, 0, 0, 0, 0) := (congrArg (fun t => List.lookup 131 t) gt23).trans rfl
theorem t23_132 : zT 23 132 = some (.getfield 41, 3, 6, 9, 0, 184) := (congrArg (fun t => List.lookup 132 t) gt23).trans (by decide +kernel)
theorem t23_135 : zT 23 135 = some (.iconst 0, 1, 0, 0, 0, 0) := (congrArg (fun t => List.lookup 135 t) gt23).trans (by decide +kernel)
theorem t23_136 : zT 23 136 = some (.aload_n 0, 1, 0, 0, 0, 0) := (congrArg (fun t => List.lookup 136 t) gt23).trans (by decide +kernel)
theorem t23_137 : zT 23 137 = some (.getfield 38, 3, 6, 8, 0, 180) := (congrArg (fun t => List.lookup 137 t) gt23).trans (by decide +kernel)
theorem t23_140 : zT 23 140 = some (.invokestatic 68, 3, 0, 6, 0, 676) := (congrArg (fun t => List.lookup 140 t) gt23).trans (by decide +kernel)
theorem t23_143 : zT 23 143 = some (.aload_n 1, 1, 1, 0, 0, 0) := (congrArg (fun t => List.lookup 143 t) gt23).trans (by decide +kernel)
theorem t23_144 : zT 23 144 = some (.getfield 44, 3, 6, 10, 0, 186) := (congrArg (fun t => List.lookup 144 t) gt23).trans (by decide +kernel)
theorem t23_147 : zT 23 147 = some (.iconst 0, 1, 0, 0, 0, 0) := (congrArg (fun t => List.lookup 147 t) gt23).trans (by decide +kernel)
theorem t23_148 : zT 23 148 = some (.aload_n 0, 1, 0, 0, 0, 0) := (congrArg (fun t => List.lookup 148 t) gt23).trans (by decide +kernel)
theorem t23_149 : zT 23 149 = some (.getfield 44, 3, 6, 10, 0, 186) := (congrArg (fun t => List.lookup 149 t) gt23).trans (by decide +kernel)
theorem t23_152 : zT 23 152 = some (.iconst 0, 1, 0, 0, 0, 0) := (congrArg (fun t => List.lookup 152 t) gt23).trans (by decide +kernel)
theorem t23_153 : zT 23 153 = some (.aload_n 0, 1, 0, 0, 0, 0) := (congrArg (fun t => List.lookup 153 t) gt23).trans (by decide +kernel)
theorem t23_154 : zT 23 154 = some (.getfield 38, 3, 6, 8, 0, 180) := (congrArg (fun t => List.lookup 154 t) gt23).trans (by decide +kernel)
theorem t23_157 : zT 23 157 = some (.invokestatic 68, 3, 0, 6, 0, 676) := (congrArg (fun t => List.lookup 157 t) gt23).trans (by decide +kernel)
theorem t23_160 : zT 23 160 = some (.aload_n 1, 1, 1, 0, 0, 0) := (congrArg (fun t => List.lookup 160 t) gt23).trans (by decide +kernel)
theorem t23_161 : zT 23 161 = some (.getfield 47, 3, 6, 11, 0, 188) := (congrArg (fun t => List.lookup 161 t) gt23).trans (by decide +kernel)
theorem t23_164 : zT 23 164 = some (.iconst 0, 1, 0, 0, 0, 0) := (congrArg (fun t => List.lookup 164 t) gt23).trans (by decide +kernel)
theorem t23_165 : zT 23 165 = some (.aload_n 0, 1, 0, 0, 0, 0) := (congrArg (fun t => List.lookup 165 t) gt23).trans (by decide +kernel)
theorem t23_166 : zT 23 166 = some (.getfield 47, 3, 6, 11, 0, 188) := (congrArg (fun t => List.lookup 166 t) gt23).trans (by decide +kernel)
theorem t23_169 : zT 23 169 = some (.iconst 0, 1, 0, 0, 0, 0) := (congrArg (fun t => List.lookup 169 t) gt23).trans (by decide +kernel)
theorem t23_170 : zT 23 170 = some (.aload_n 0, 1, 0, 0, 0, 0) := (congrArg (fun t => List.lookup 170 t) gt23).trans (by decide +kernel)
theorem t23_171 : zT 23 171 = some (.getfield 38, 3, 6, 8, 0, 180) := (congrArg (fun t => List.lookup 171 t) gt23).trans (by decide +kernel)
theorem t23_174 : zT 23 174 = some (.invokestatic 68, 3, 0, 6, 0, 676) := (congrArg (fun t => List.lookup 174 t) gt23).trans (by decide +kernel)
theorem t23_177 : zT 23 177 = some (.aload_n 1, 1, 1, 0, 0, 0) := (congrArg (fun t => List.lookup 177 t) gt23).trans (by decide +kernel)
theorem t23_178 : zT 23 178 = some (.getfield 58, 3, 6, 12, 0, 190) := (congrArg (fun t => List.lookup 178 t) gt23).trans (by decide +kernel)
theorem t23_181 : zT 23 181 = some (.iconst 0, 1, 0, 0, 0, 0) := (congrArg (fun t => List.lookup 181 t) gt23).trans (by decide +kernel)
theorem t23_182 : zT 23 182 = some (.aload_n 0, 1, 0, 0, 0, 0) := (congrArg (fun t => List.lookup 182 t) gt23).trans (by decide +kernel)
theorem t23_183 : zT 23 183 = some (.getfield 58, 3, 6, 12, 0, 190) := (congrArg (fun t => List.lookup 183 t) gt23).trans (by decide +kernel)
theorem t23_186 : zT 23 186 = some (.iconst 0, 1, 0, 0, 0, 0) := (congrArg (fun t => List.lookup 186 t) gt23).trans (by decide +kernel)
theorem t23_187 : zT 23 187 = some (.bipush 9, 2, 0, 0, 9, 0) := (congrArg (fun t => List.lookup 187 t) gt23).trans (by decide +kernel)
theorem t23_189 : zT 23 189 = some (.invokestatic 68, 3, 0, 6, 0, 676) := (congrArg (fun t => List.lookup 189 t) gt23).trans (by decide +kernel)
theorem t23_192 : zT 23 192 = some (.aload_n 0, 1, 0, 0, 0, 0) := (congrArg (fun t => List.lookup 192 t) gt23).trans (by decide +kernel)
theorem t23_193 : zT 23 193 = some (.aload_n 1, 1, 1, 0, 0, 0) := (congrArg (fun t => List.lookup 193 t) gt23).trans (by decide +kernel)
theorem t23_194 : zT 23 194 = some (.getfield 64, 3, 6, 14, 0, 193) := (congrArg (fun t => List.lookup 194 t) gt23).trans (by decide +kernel)
theorem t23_197 : zT 23 197 = some (.aload_n 1, 1, 1, 0, 0, 0) := (congrArg (fun t => List.lookup 197 t) gt23).trans (by decide +kernel)
theorem t23_198 : zT 23 198 = some (.getfield 61, 3, 6, 13, 0, 191) := (congrArg (fun t => List.lookup 198 t) gt23).trans (by decide +kernel)
theorem t23_201 : zT 23 201 = some (.invokevirtual 74, 3, 24, 0, 0, 679) := (congrArg (fun t => List.lookup 201 t) gt23).trans (by decide +kernel)
theorem t23_204 : zT 23 204 = some (.return_, 1, 0, 0, 0, 0) := (congrArg (fun t => List.lookup 204 t) gt23).trans (by decide +kernel)
theorem t24_0 : zT 24 0 = some (.aload_n 0, 1, 0, 0, 0, 0) := (congrArg (fun t => List.lookup 0 t) gt24).trans rfl
theorem t24_1 : zT 24 1 = some (.iconst 0, 1, 0, 0, 0, 0) := (congrArg (fun t => List.lookup 1 t) gt24).trans rfl
theorem t24_2 : zT 24 2 = some (.iload_n 2, 1, 2, 0, 0, 0) := (congrArg (fun t => List.lookup 2 t) gt24).trans rfl
theorem t24_3 : zT 24 3 = some (.sipush 500, 3, 0, 0, 500, 0) := (congrArg (fun t => List.lookup 3 t) gt24).trans rfl
theorem t24_6 : zT 24 6 = some (.invokestatic 78, 3, 20, 1, 0, 683) := (congrArg (fun t => List.lookup 6 t) gt24).trans rfl
theorem t24_9 : zT 24 9 = some (.invokestatic 84, 3, 21, 1, 0, 684) := (congrArg (fun t => List.lookup 9 t) gt24).trans rfl
