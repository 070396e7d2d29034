def cLo (k j : Nat) : Int := cond (Nat.ble 336 k) (-2147483648) (cond (Nat.ble 168 k) (cond (Nat.ble 252 k) (cond (Nat.ble 294 k) (cond (Nat.ble 315 k) (cond (Nat.ble 325 k) (cond (Nat.ble 330 k) (cond (Nat.ble 333 k) (cond (Nat.ble 334 k) (cond (Nat.ble 335 k) ((-128)) ((-2147483648))) ((-2147483648))) ((-2147483648))) (cond (Nat.ble 327 k) ((-2147483648)) (cond (Nat.ble 326 k) (0) (cond (Nat.beq j 0) 0 ((-2147483648)))))) (cond (Nat.ble 320 k) (cond (Nat.ble 322 k) (cond (Nat.ble 323 k) (cond (Nat.ble 324 k) ((-2147483648)) (0)) ((-2147483648))) ((-2147483648))) (cond (Nat.ble 317 k) ((-2147483648)) (cond (Nat.ble 316 k) ((-2147483648)) ((-2)))))) (cond (Nat.ble 304 k) (cond (Nat.ble 309 k) (cond (Nat.ble 312 k) (cond (Nat.ble 313 k) (cond (Nat.ble 314 k) (cond (Nat.beq j 0) (-3) (cond (Nat.beq j 1) (-20) ((-2147483648)))) ((-2147483648))) ((-2))) (cond (Nat.ble 310 k) (cond (Nat.ble 311 k) (cond (Nat.beq j 0) (-3) (cond (Nat.beq j 1) (-20) ((-2147483648)))) ((-2147483648))) ((-2)))) (cond (Nat.ble 306 k) (cond (Nat.ble 307 k) (cond (Nat.ble 308 k) (cond (Nat.beq j 0) (-3) (cond (Nat.beq j 1) (-20) ((-2147483648)))) ((-2147483648))) ((-2))) (cond (Nat.ble 305 k) (cond (Nat.beq j 0) (-3) (cond (Nat.beq j 1) (-20) ((-2147483648)))) ((-2147483648))))) (cond (Nat.ble 299 k) (cond (Nat.ble 301 k) (cond (Nat.ble 302 k) (cond (Nat.ble 303 k) ((-2)) (cond (Nat.beq j 0) (-3) (cond (Nat.beq j 1) (-20) ((-2147483648))))) ((-2147483648))) (cond (Nat.ble 300 k) ((-2)) (cond (Nat.beq j 0) (-3) (cond (Nat.beq j 1) (-20) ((-2147483648)))))) (cond (Nat.ble 296 k) (cond (Nat.ble 297 k) (cond (Nat.ble 298 k) ((-2147483648)) ((-2))) (cond (Nat.beq j 0) (-3) (cond (Nat.beq j 1) (-20) ((-2147483648))))) (cond (Nat.ble 295 k) ((-2147483648)) ((-2))))))) (cond (Nat.ble 273 k) (cond (Nat.ble 283 k) (cond (Nat.ble 288 k) (cond (Nat.ble 291 k) (cond (Nat.ble 292 k) (cond (Nat.ble 293 k) (cond (Nat.beq j 0) (-3) (cond (Nat.beq j 1) (-20) ((-2147483648)))) ((-2147483648))) ((-2))) (cond (Nat.ble 289 k) (cond (Nat.ble 290 k) (cond (Nat.beq j 0) (-3) (cond (Nat.beq j 1) (-20) ((-2147483648)))) ((-2147483648))) ((-2)))) (cond (Nat.ble 285 k) (cond (Nat.ble 286 k) (cond (Nat.ble 287 k) (cond (Nat.beq j 0) (-3) (cond (Nat.beq j 1) (-20) ((-2147483648)))) ((-2147483648))) ((-2))) (cond (Nat.ble 284 k) (cond (Nat.beq j 0) (-3) (cond (Nat.beq j 1) (-20) ((-2147483648)))) ((-2147483648))))) (cond (Nat.ble 278 k) (cond (Nat.ble 280 k) (cond (Nat.ble 281 k) (cond (Nat.ble 282 k) ((-2)) (cond (Nat.beq j 0) (-3) (cond (Nat.beq j 1) (-20) ((-2147483648))))) ((-2147483648))) (cond (Nat.ble 279 k) ((-2)) (cond (Nat.beq j 0) (-3) (cond (Nat.beq j 1) (-20) ((-2147483648)))))) (cond (Nat.ble 275 k) (cond (Nat.ble 276 k) (cond (Nat.ble 277 k) ((-2147483648)) ((-2))) (cond (Nat.beq j 0) (-3) (cond (Nat.beq j 1) (-20) ((-2147483648))))) (cond (Nat.ble 274 k) ((-2147483648)) ((-2)))))) (cond (Nat.ble 262 k) (cond (Nat.ble 267 k) (cond (Nat.ble 270 k) (cond (Nat.ble 271 k) (cond (Nat.ble 272 k) (cond (Nat.beq j 0) (-3) (cond (Nat.beq j 1) (-20) ((-2147483648)))) ((-2147483648))) ((-2))) (cond (Nat.ble 268 k) (cond (Nat.ble 269 k) (cond (Nat.beq j 0) (-3) (cond (Nat.beq j 1) (-20) ((-2147483648)))) ((-2147483648))) ((-2)))) (cond (Nat.ble 264 k) (cond (Nat.ble 265 k) (cond (Nat.ble 266 k) (cond (Nat.beq j 0) (-3) (cond (Nat.beq j 1) (-20) ((-2147483648)))) ((-2147483648))) ((-2))) (cond (Nat.ble 263 k) (cond (Nat.beq j 0) (-3) (cond (Nat.beq j 1) (-20) ((-2147483648)))) ((-2147483648))))) (cond (Nat.ble 257 k) (cond (Nat.ble 259 k) (cond (Nat.ble 260 k) (cond (Nat.ble 261 k) ((-2)) (cond (Nat.beq j 0) (-3) (cond (Nat.beq j 1) (-20) ((-2147483648))))) ((-2147483648))) (cond (Nat.ble 258 k) ((-2)) (cond (Nat.beq j 0) (-3) (cond (Nat.beq j 1) (-20) ((-2147483648)))))) (cond (Nat.ble 254 k) (cond (Nat.ble 255 k) ((-2147483648)) (0)) ((-2147483648))))))) (cond (Nat.ble 210 k) (cond (Nat.ble 231 k) (cond (Nat.ble 241 k) (cond (Nat.ble 246 k) (cond (Nat.ble 249 k) ((-2147483648)) (cond (Nat.ble 247 k) (0) ((-2147483648)))) (cond (Nat.ble 243 k) (cond (Nat.ble 244 k) (cond (Nat.ble 245 k) ((-2147483648)) ((-20))) ((-3))) (cond (Nat.ble 242 k) (cond (Nat.beq j 0) 0 (cond (Nat.beq j 5) 1 (cond (Nat.beq j 6) 0 (cond (Nat.beq j 15) 0 ((-2147483648)))))) (cond (Nat.beq j 2) 0 ((-2147483648)))))) (cond (Nat.ble 236 k) (cond (Nat.ble 238 k) (cond (Nat.ble 239 k) (cond (Nat.ble 240 k) ((-2147483648)) ((-2))) (cond (Nat.beq j 0) (-3) (cond (Nat.beq j 1) (-20) ((-2147483648))))) (cond (Nat.ble 237 k) ((-2147483648)) ((-2)))) (cond (Nat.ble 233 k) (cond (Nat.ble 234 k) (cond (Nat.ble 235 k) (cond (Nat.beq j 0) (-3) (cond (Nat.beq j 1) (-20) ((-2147483648)))) ((-2147483648))) ((-2))) (cond (Nat.ble 232 k) (cond (Nat.beq j 0) (-3) (cond (Nat.beq j 1) (-20) ((-2147483648)))) ((-2147483648)))))) (cond (Nat.ble 220 k) (cond (Nat.ble 225 k) (cond (Nat.ble 228 k) (cond (Nat.ble 229 k) (cond (Nat.ble 230 k) ((-2)) (cond (Nat.beq j 0) (-3) (cond (Nat.beq j 1) (-20) ((-2147483648))))) ((-2147483648))) (cond (Nat.ble 226 k) (cond (Nat.ble 227 k) ((-2)) (cond (Nat.beq j 0) (-3) (cond (Nat.beq j 1) (-20) ((-2147483648))))) ((-2147483648)))) (cond (Nat.ble 222 k) (cond (Nat.ble 223 k) (cond (Nat.ble 224 k) ((-2)) (cond (Nat.beq j 0) (-3) (cond (Nat.beq j 1) (-20) ((-2147483648))))) ((-2147483648))) (cond (Nat.ble 221 k) ((-2)) (cond (Nat.beq j 0) (-3) (cond (Nat.beq j 1) (-20) ((-2147483648))))))) (cond (Nat.ble 215 k) (cond (Nat.ble 217 k) (cond (Nat.ble 218 k) (cond (Nat.ble 219 k) ((-2147483648)) ((-2))) (cond (Nat.beq j 0) (-3) (cond (Nat.beq j 1) (-20) ((-2147483648))))) (cond (Nat.ble 216 k) ((-2147483648)) ((-2)))) (cond (Nat.ble 212 k) (cond (Nat.ble 213 k) (cond (Nat.ble 214 k) (cond (Nat.beq j 0) (-3) (cond (Nat.beq j 1) (-20) ((-2147483648)))) ((-2147483648))) ((-2))) (cond (Nat.ble 211 k) (cond (Nat.beq j 0) (-3) (cond (Nat.beq j 1) (-20) ((-2147483648)))) ((-2147483648))))))) (cond (Nat.ble 189 k) (cond (Nat.ble 199 k) (cond (Nat.ble 204 k) (cond (Nat.ble 207 k) (cond (Nat.ble 208 k) (cond (Nat.ble 209 k) ((-2)) (cond (Nat.beq j 0) (-3) (cond (Nat.beq j 1) (-20) ((-2147483648))))) ((-2147483648))) (cond (Nat.ble 205 k) (cond (Nat.ble 206 k) ((-2)) (cond (Nat.beq j 0) (-3) (cond (Nat.beq j 1) (-20) ((-2147483648))))) ((-2147483648)))) (cond (Nat.ble 201 k) (cond (Nat.ble 202 k) (cond (Nat.ble 203 k) ((-2)) (cond (Nat.beq j 0) (-3) (cond (Nat.beq j 1) (-20) ((-2147483648))))) ((-2147483648))) (cond (Nat.ble 200 k) ((-2)) (cond (Nat.beq j 0) (-3) (cond (Nat.beq j 1) (-20) ((-2147483648))))))) (cond (Nat.ble 194 k) (cond (Nat.ble 196 k) (cond (Nat.ble 197 k) (cond (Nat.ble 198 k) ((-2147483648)) ((-2))) (cond (Nat.beq j 0) (-3) (cond (Nat.beq j 1) (-20) ((-2147483648))))) (cond (Nat.ble 195 k) ((-2147483648)) ((-2)))) (cond (Nat.ble 191 k) (cond (Nat.ble 192 k) (cond (Nat.ble 193 k) (cond (Nat.beq j 0) (-3) (cond (Nat.beq j 1) (-20) ((-2147483648)))) ((-2147483648))) ((-2))) (cond (Nat.ble 190 k) (cond (Nat.beq j 0) (-3) (cond (Nat.beq j 1) (-20) ((-2147483648)))) ((-2147483648)))))) (cond (Nat.ble 178 k) (cond (Nat.ble 183 k) (cond (Nat.ble 186 k) (cond (Nat.ble 187 k) (cond (Nat.ble 188 k) ((-2)) (cond (Nat.beq j 0) (-3) (cond (Nat.beq j 1) (-20) ((-2147483648))))) ((-2147483648))) (cond (Nat.ble 184 k) (cond (Nat.ble 185 k) ((-2)) (cond (Nat.beq j 0) (-3) (cond (Nat.beq j 1) (-20) ((-2147483648))))) ((-2147483648)))) (cond (Nat.ble 180 k) (cond (Nat.ble 181 k) (cond (Nat.ble 182 k) ((-2)) (cond (Nat.beq j 0) (-3) (cond (Nat.beq j 1) (-20) ((-2147483648))))) ((-2147483648))) (cond (Nat.ble 179 k) ((-2147483648)) (0)))) (cond (Nat.ble 173 k) ((-2147483648)) (cond (Nat.ble 170 k) (cond (Nat.ble 171 k) (0) ((-2147483648))) (cond (Nat.ble 169 k) ((-2147483648)) ((-20))))))))) (cond (Nat.ble 84 k) (cond (Nat.ble 126 k) (cond (Nat.ble 147 k) (cond (Nat.ble 157 k) (cond (Nat.ble 162 k) (cond (Nat.ble 165 k) (cond (Nat.ble 166 k) (cond (Nat.ble 167 k) ((-3)) (cond (Nat.beq j 0) 0 (cond (Nat.beq j 5) 1 (cond (Nat.beq j 6) 0 (cond (Nat.beq j 15) 0 ((-2147483648))))))) (cond (Nat.beq j 2) 0 ((-2147483648)))) (cond (Nat.ble 163 k) (cond (Nat.ble 164 k) (cond (Nat.beq j 0) 0 (cond (Nat.beq j 4) 0 (cond (Nat.beq j 5) 0 (cond (Nat.beq j 9) 0 ((-2147483648)))))) ((-128))) ((-2147483648)))) (cond (Nat.ble 159 k) (cond (Nat.ble 160 k) (cond (Nat.ble 161 k) (cond (Nat.beq j 2) 0 (cond (Nat.beq j 3) 0 (cond (Nat.beq j 4) 0 ((-2147483648))))) ((-2147483648))) ((-2147483648))) ((-2147483648)))) (cond (Nat.ble 152 k) (cond (Nat.ble 154 k) (cond (Nat.ble 155 k) (cond (Nat.ble 156 k) ((-128)) (cond (Nat.beq j 1) 0 ((-2147483648)))) ((-128))) ((-2147483648))) ((-2147483648)))) (cond (Nat.ble 136 k) (cond (Nat.ble 141 k) (cond (Nat.ble 144 k) (cond (Nat.ble 145 k) (0) ((-2147483648))) (cond (Nat.ble 142 k) (cond (Nat.ble 143 k) (cond (Nat.beq j 0) 0 (cond (Nat.beq j 3) 0 (cond (Nat.beq j 8) 0 (cond (Nat.beq j 13) 0 ((-2147483648)))))) ((-128))) ((-2147483648)))) ((-2147483648))) (cond (Nat.ble 131 k) (cond (Nat.ble 133 k) (cond (Nat.ble 134 k) (cond (Nat.ble 135 k) ((-2147483648)) (0)) (0)) (cond (Nat.ble 132 k) ((-2147483648)) (cond (Nat.beq j 0) 0 (cond (Nat.beq j 3) 0 (cond (Nat.beq j 8) 0 (cond (Nat.beq j 13) 0 ((-2147483648)))))))) (cond (Nat.ble 128 k) (cond (Nat.ble 129 k) (cond (Nat.ble 130 k) ((-128)) ((-2147483648))) ((-2147483648))) ((-2147483648)))))) (cond (Nat.ble 105 k) (cond (Nat.ble 115 k) (cond (Nat.ble 120 k) (cond (Nat.ble 123 k) ((-2147483648)) (cond (Nat.ble 121 k) (0) ((-2147483648)))) (cond (Nat.ble 117 k) (cond (Nat.ble 118 k) (cond (Nat.ble 119 k) (cond (Nat.beq j 0) 0 (cond (Nat.beq j 3) 0 (cond (Nat.beq j 8) 0 (cond (Nat.beq j 13) 0 ((-2147483648)))))) ((-128))) ((-2147483648))) ((-2147483648)))) (cond (Nat.ble 110 k) (cond (Nat.ble 112 k) ((-2147483648)) (cond (Nat.ble 111 k) ((-2147483648)) (0))) (cond (Nat.ble 107 k) (cond (Nat.ble 108 k) (cond (Nat.ble 109 k) (0) ((-2147483648))) (cond (Nat.beq j 0) 0 (cond (Nat.beq j 3) 0 (cond (Nat.beq j 8) 0 (cond (Nat.beq j 13) 0 ((-2147483648))))))) (cond (Nat.ble 106 k) ((-128)) ((-2147483648)))))) (cond (Nat.ble 94 k) (cond (Nat.ble 99 k) ((-2147483648)) (cond (Nat.ble 96 k) (cond (Nat.ble 97 k) (0) ((-2147483648))) (cond (Nat.ble 95 k) (cond (Nat.beq j 0) 0 (cond (Nat.beq j 3) 0 (cond (Nat.beq j 8) 0 (cond (Nat.beq j 13) 0 ((-2147483648)))))) ((-128))))) (cond (Nat.ble 89 k) ((-2147483648)) (cond (Nat.ble 86 k) (cond (Nat.ble 87 k) ((-2147483648)) (0)) (cond (Nat.ble 85 k) (0) ((-2147483648)))))))) (cond (Nat.ble 42 k) (cond (Nat.ble 63 k) (cond (Nat.ble 73 k) (cond (Nat.ble 78 k) (cond (Nat.ble 81 k) (cond (Nat.ble 82 k) (cond (Nat.ble 83 k) (cond (Nat.beq j 0) 0 (cond (Nat.beq j 3) 0 (cond (Nat.beq j 8) 0 (cond (Nat.beq j 13) 0 ((-2147483648)))))) ((-128))) ((-2147483648))) ((-2147483648))) (cond (Nat.ble 75 k) ((-2147483648)) (0))) (cond (Nat.ble 68 k) (cond (Nat.ble 70 k) (cond (Nat.ble 71 k) (cond (Nat.ble 72 k) ((-2147483648)) (cond (Nat.beq j 0) 0 (cond (Nat.beq j 3) 0 (cond (Nat.beq j 8) 0 (cond (Nat.beq j 13) 0 ((-2147483648))))))) ((-128))) ((-2147483648))) ((-2147483648)))) (cond (Nat.ble 52 k) (cond (Nat.ble 57 k) (cond (Nat.ble 60 k) (cond (Nat.ble 61 k) (0) ((-2147483648))) (cond (Nat.ble 58 k) (cond (Nat.ble 59 k) (cond (Nat.beq j 0) 0 (cond (Nat.beq j 3) 0 (cond (Nat.beq j 8) 0 (cond (Nat.beq j 13) 0 ((-2147483648)))))) ((-128))) ((-2147483648)))) ((-2147483648))) (cond (Nat.ble 47 k) (cond (Nat.ble 49 k) (cond (Nat.ble 50 k) (cond (Nat.ble 51 k) ((-2147483648)) (0)) (0)) (cond (Nat.ble 48 k) ((-2147483648)) (cond (Nat.beq j 0) 0 (cond (Nat.beq j 3) 0 (cond (Nat.beq j 8) 0 (cond (Nat.beq j 13) 0 ((-2147483648)))))))) (cond (Nat.ble 44 k) (cond (Nat.ble 45 k) (cond (Nat.ble 46 k) ((-128)) ((-2147483648))) ((-2147483648))) ((-2147483648)))))) (cond (Nat.ble 21 k) (cond (Nat.ble 31 k) (cond (Nat.ble 36 k) (cond (Nat.ble 39 k) ((-2147483648)) (cond (Nat.ble 37 k) (0) ((-2147483648)))) (cond (Nat.ble 33 k) (cond (Nat.ble 34 k) (cond (Nat.ble 35 k) (cond (Nat.beq j 0) 0 (cond (Nat.beq j 3) 0 (cond (Nat.beq j 8) 0 (cond (Nat.beq j 13) 0 ((-2147483648)))))) (0)) ((-2147483648))) (cond (Nat.ble 32 k) ((-2147483648)) (cond (Nat.beq j 1) 0 (cond (Nat.beq j 2) 0 ((-2147483648))))))) (cond (Nat.ble 26 k) (cond (Nat.ble 28 k) (cond (Nat.ble 29 k) (cond (Nat.ble 30 k) ((-128)) ((-2147483648))) ((-2147483648))) ((-2147483648))) (cond (Nat.ble 23 k) ((-2147483648)) (0)))) (cond (Nat.ble 10 k) (cond (Nat.ble 15 k) (cond (Nat.ble 18 k) (cond (Nat.ble 19 k) (cond (Nat.ble 20 k) ((-2147483648)) (cond (Nat.beq j 0) 0 (cond (Nat.beq j 3) 0 (cond (Nat.beq j 8) 0 (cond (Nat.beq j 13) 0 ((-2147483648))))))) ((-128))) ((-2147483648))) (cond (Nat.ble 12 k) ((-2147483648)) (cond (Nat.ble 11 k) ((-2147483648)) (0)))) (cond (Nat.ble 5 k) (cond (Nat.ble 7 k) (cond (Nat.ble 8 k) (cond (Nat.ble 9 k) (0) ((-2147483648))) (cond (Nat.beq j 0) 0 (cond (Nat.beq j 3) 0 (cond (Nat.beq j 8) 0 (cond (Nat.beq j 13) 0 ((-2147483648))))))) (cond (Nat.ble 6 k) (cond (Nat.beq j 10) 0 ((-2147483648))) ((-2147483648)))) ((-2147483648))))))))
def cHi (k j : Nat) : Int := cond (Nat.ble 336 k) 2147483647 (cond (Nat.ble 168 k) (cond (Nat.ble 252 k) (cond (Nat.ble 294 k) (cond (Nat.ble 315 k) (cond (Nat.ble 325 k) (cond (Nat.ble 330 k) (cond (Nat.ble 333 k) (cond (Nat.ble 334 k) (cond (Nat.ble 335 k) (127) (2147483647)) (2147483647)) (2147483647)) (cond (Nat.ble 327 k) (2147483647) (cond (Nat.ble 326 k) (20) (cond (Nat.beq j 0) 1 (2147483647))))) (cond (Nat.ble 320 k) (cond (Nat.ble 322 k) (cond (Nat.ble 323 k) (cond (Nat.ble 324 k) (2147483647) (1)) (2147483647)) (2147483647)) (cond (Nat.ble 317 k) (2147483647) (cond (Nat.ble 316 k) (2147483647) (59))))) (cond (Nat.ble 304 k) (cond (Nat.ble 309 k) (cond (Nat.ble 312 k) (cond (Nat.ble 313 k) (cond (Nat.ble 314 k) (cond (Nat.beq j 0) 3 (cond (Nat.beq j 1) 20 (2147483647))) (2147483647)) (59)) (cond (Nat.ble 310 k) (cond (Nat.ble 311 k) (cond (Nat.beq j 0) 3 (cond (Nat.beq j 1) 20 (2147483647))) (2147483647)) (59))) (cond (Nat.ble 306 k) (cond (Nat.ble 307 k) (cond (Nat.ble 308 k) (cond (Nat.beq j 0) 3 (cond (Nat.beq j 1) 20 (2147483647))) (2147483647)) (59)) (cond (Nat.ble 305 k) (cond (Nat.beq j 0) 3 (cond (Nat.beq j 1) 20 (2147483647))) (2147483647)))) (cond (Nat.ble 299 k) (cond (Nat.ble 301 k) (cond (Nat.ble 302 k) (cond (Nat.ble 303 k) (59) (cond (Nat.beq j 0) 3 (cond (Nat.beq j 1) 20 (2147483647)))) (2147483647)) (cond (Nat.ble 300 k) (59) (cond (Nat.beq j 0) 3 (cond (Nat.beq j 1) 20 (2147483647))))) (cond (Nat.ble 296 k) (cond (Nat.ble 297 k) (cond (Nat.ble 298 k) (2147483647) (59)) (cond (Nat.beq j 0) 3 (cond (Nat.beq j 1) 20 (2147483647)))) (cond (Nat.ble 295 k) (2147483647) (59)))))) (cond (Nat.ble 273 k) (cond (Nat.ble 283 k) (cond (Nat.ble 288 k) (cond (Nat.ble 291 k) (cond (Nat.ble 292 k) (cond (Nat.ble 293 k) (cond (Nat.beq j 0) 3 (cond (Nat.beq j 1) 20 (2147483647))) (2147483647)) (59)) (cond (Nat.ble 289 k) (cond (Nat.ble 290 k) (cond (Nat.beq j 0) 3 (cond (Nat.beq j 1) 20 (2147483647))) (2147483647)) (59))) (cond (Nat.ble 285 k) (cond (Nat.ble 286 k) (cond (Nat.ble 287 k) (cond (Nat.beq j 0) 3 (cond (Nat.beq j 1) 20 (2147483647))) (2147483647)) (59)) (cond (Nat.ble 284 k) (cond (Nat.beq j 0) 3 (cond (Nat.beq j 1) 20 (2147483647))) (2147483647)))) (cond (Nat.ble 278 k) (cond (Nat.ble 280 k) (cond (Nat.ble 281 k) (cond (Nat.ble 282 k) (59) (cond (Nat.beq j 0) 3 (cond (Nat.beq j 1) 20 (2147483647)))) (2147483647)) (cond (Nat.ble 279 k) (59) (cond (Nat.beq j 0) 3 (cond (Nat.beq j 1) 20 (2147483647))))) (cond (Nat.ble 275 k) (cond (Nat.ble 276 k) (cond (Nat.ble 277 k) (2147483647) (59)) (cond (Nat.beq j 0) 3 (cond (Nat.beq j 1) 20 (2147483647)))) (cond (Nat.ble 274 k) (2147483647) (59))))) (cond (Nat.ble 262 k) (cond (Nat.ble 267 k) (cond (Nat.ble 270 k) (cond (Nat.ble 271 k) (cond (Nat.ble 272 k) (cond (Nat.beq j 0) 3 (cond (Nat.beq j 1) 20 (2147483647))) (2147483647)) (59)) (cond (Nat.ble 268 k) (cond (Nat.ble 269 k) (cond (Nat.beq j 0) 3 (cond (Nat.beq j 1) 20 (2147483647))) (2147483647)) (59))) (cond (Nat.ble 264 k) (cond (Nat.ble 265 k) (cond (Nat.ble 266 k) (cond (Nat.beq j 0) 3 (cond (Nat.beq j 1) 20 (2147483647))) (2147483647)) (59)) (cond (Nat.ble 263 k) (cond (Nat.beq j 0) 3 (cond (Nat.beq j 1) 20 (2147483647))) (2147483647)))) (cond (Nat.ble 257 k) (cond (Nat.ble 259 k) (cond (Nat.ble 260 k) (cond (Nat.ble 261 k) (59) (cond (Nat.beq j 0) 3 (cond (Nat.beq j 1) 20 (2147483647)))) (2147483647)) (cond (Nat.ble 258 k) (59) (cond (Nat.beq j 0) 3 (cond (Nat.beq j 1) 20 (2147483647))))) (cond (Nat.ble 254 k) (cond (Nat.ble 255 k) (2147483647) (127)) (2147483647)))))) (cond (Nat.ble 210 k) (cond (Nat.ble 231 k) (cond (Nat.ble 241 k) (cond (Nat.ble 246 k) (cond (Nat.ble 249 k) (2147483647) (cond (Nat.ble 247 k) (cond (Nat.ble 248 k) (7) (59)) (2147483647))) (cond (Nat.ble 243 k) (cond (Nat.ble 244 k) (cond (Nat.ble 245 k) (2147483647) (20)) (3)) (cond (Nat.ble 242 k) (cond (Nat.beq j 0) 287 (cond (Nat.beq j 5) 2147483647 (cond (Nat.beq j 6) 60 (cond (Nat.beq j 15) 60 (2147483647))))) (cond (Nat.beq j 2) 20 (2147483647))))) (cond (Nat.ble 236 k) (cond (Nat.ble 238 k) (cond (Nat.ble 239 k) (cond (Nat.ble 240 k) (2147483647) (59)) (cond (Nat.beq j 0) 3 (cond (Nat.beq j 1) 20 (2147483647)))) (cond (Nat.ble 237 k) (2147483647) (59))) (cond (Nat.ble 233 k) (cond (Nat.ble 234 k) (cond (Nat.ble 235 k) (cond (Nat.beq j 0) 3 (cond (Nat.beq j 1) 20 (2147483647))) (2147483647)) (59)) (cond (Nat.ble 232 k) (cond (Nat.beq j 0) 3 (cond (Nat.beq j 1) 20 (2147483647))) (2147483647))))) (cond (Nat.ble 220 k) (cond (Nat.ble 225 k) (cond (Nat.ble 228 k) (cond (Nat.ble 229 k) (cond (Nat.ble 230 k) (59) (cond (Nat.beq j 0) 3 (cond (Nat.beq j 1) 20 (2147483647)))) (2147483647)) (cond (Nat.ble 226 k) (cond (Nat.ble 227 k) (59) (cond (Nat.beq j 0) 3 (cond (Nat.beq j 1) 20 (2147483647)))) (2147483647))) (cond (Nat.ble 222 k) (cond (Nat.ble 223 k) (cond (Nat.ble 224 k) (59) (cond (Nat.beq j 0) 3 (cond (Nat.beq j 1) 20 (2147483647)))) (2147483647)) (cond (Nat.ble 221 k) (59) (cond (Nat.beq j 0) 3 (cond (Nat.beq j 1) 20 (2147483647)))))) (cond (Nat.ble 215 k) (cond (Nat.ble 217 k) (cond (Nat.ble 218 k) (cond (Nat.ble 219 k) (2147483647) (59)) (cond (Nat.beq j 0) 3 (cond (Nat.beq j 1) 20 (2147483647)))) (cond (Nat.ble 216 k) (2147483647) (59))) (cond (Nat.ble 212 k) (cond (Nat.ble 213 k) (cond (Nat.ble 214 k) (cond (Nat.beq j 0) 3 (cond (Nat.beq j 1) 20 (2147483647))) (2147483647)) (59)) (cond (Nat.ble 211 k) (cond (Nat.beq j 0) 3 (cond (Nat.beq j 1) 20 (2147483647))) (2147483647)))))) (cond (Nat.ble 189 k) (cond (Nat.ble 199 k) (cond (Nat.ble 204 k) (cond (Nat.ble 207 k) (cond (Nat.ble 208 k) (cond (Nat.ble 209 k) (59) (cond (Nat.beq j 0) 3 (cond (Nat.beq j 1) 20 (2147483647)))) (2147483647)) (cond (Nat.ble 205 k) (cond (Nat.ble 206 k) (59) (cond (Nat.beq j 0) 3 (cond (Nat.beq j 1) 20 (2147483647)))) (2147483647))) (cond (Nat.ble 201 k) (cond (Nat.ble 202 k) (cond (Nat.ble 203 k) (59) (cond (Nat.beq j 0) 3 (cond (Nat.beq j 1) 20 (2147483647)))) (2147483647)) (cond (Nat.ble 200 k) (59) (cond (Nat.beq j 0) 3 (cond (Nat.beq j 1) 20 (2147483647)))))) (cond (Nat.ble 194 k) (cond (Nat.ble 196 k) (cond (Nat.ble 197 k) (cond (Nat.ble 198 k) (2147483647) (59)) (cond (Nat.beq j 0) 3 (cond (Nat.beq j 1) 20 (2147483647)))) (cond (Nat.ble 195 k) (2147483647) (59))) (cond (Nat.ble 191 k) (cond (Nat.ble 192 k) (cond (Nat.ble 193 k) (cond (Nat.beq j 0) 3 (cond (Nat.beq j 1) 20 (2147483647))) (2147483647)) (59)) (cond (Nat.ble 190 k) (cond (Nat.beq j 0) 3 (cond (Nat.beq j 1) 20 (2147483647))) (2147483647))))) (cond (Nat.ble 178 k) (cond (Nat.ble 183 k) (cond (Nat.ble 186 k) (cond (Nat.ble 187 k) (cond (Nat.ble 188 k) (59) (cond (Nat.beq j 0) 3 (cond (Nat.beq j 1) 20 (2147483647)))) (2147483647)) (cond (Nat.ble 184 k) (cond (Nat.ble 185 k) (59) (cond (Nat.beq j 0) 3 (cond (Nat.beq j 1) 20 (2147483647)))) (2147483647))) (cond (Nat.ble 180 k) (cond (Nat.ble 181 k) (cond (Nat.ble 182 k) (59) (cond (Nat.beq j 0) 3 (cond (Nat.beq j 1) 20 (2147483647)))) (2147483647)) (cond (Nat.ble 179 k) (2147483647) (127)))) (cond (Nat.ble 173 k) (2147483647) (cond (Nat.ble 170 k) (cond (Nat.ble 171 k) (cond (Nat.ble 172 k) (7) (59)) (2147483647)) (cond (Nat.ble 169 k) (2147483647) (20)))))))) (cond (Nat.ble 84 k) (cond (Nat.ble 126 k) (cond (Nat.ble 147 k) (cond (Nat.ble 157 k) (cond (Nat.ble 162 k) (cond (Nat.ble 165 k) (cond (Nat.ble 166 k) (cond (Nat.ble 167 k) (3) (cond (Nat.beq j 0) 287 (cond (Nat.beq j 5) 2147483647 (cond (Nat.beq j 6) 60 (cond (Nat.beq j 15) 60 (2147483647)))))) (cond (Nat.beq j 2) 20 (2147483647))) (cond (Nat.ble 163 k) (cond (Nat.ble 164 k) (cond (Nat.beq j 0) 1 (cond (Nat.beq j 4) 20 (cond (Nat.beq j 5) 12 (cond (Nat.beq j 9) 20 (2147483647))))) (127)) (2147483647))) (cond (Nat.ble 159 k) (cond (Nat.ble 160 k) (cond (Nat.ble 161 k) (cond (Nat.beq j 2) 500 (cond (Nat.beq j 3) 500 (cond (Nat.beq j 4) 30 (2147483647)))) (2147483647)) (2147483647)) (2147483647))) (cond (Nat.ble 152 k) (cond (Nat.ble 154 k) (cond (Nat.ble 155 k) (cond (Nat.ble 156 k) (127) (cond (Nat.beq j 1) 500 (2147483647))) (127)) (2147483647)) (2147483647))) (cond (Nat.ble 136 k) (cond (Nat.ble 141 k) (cond (Nat.ble 144 k) (cond (Nat.ble 145 k) (cond (Nat.ble 146 k) (7) (1)) (2147483647)) (cond (Nat.ble 142 k) (cond (Nat.ble 143 k) (cond (Nat.beq j 0) 8 (cond (Nat.beq j 3) 60 (cond (Nat.beq j 8) 12 (cond (Nat.beq j 13) 500 (2147483647))))) (127)) (2147483647))) (2147483647)) (cond (Nat.ble 131 k) (cond (Nat.ble 133 k) (cond (Nat.ble 134 k) (cond (Nat.ble 135 k) (2147483647) (7)) (1)) (cond (Nat.ble 132 k) (2147483647) (cond (Nat.beq j 0) 8 (cond (Nat.beq j 3) 60 (cond (Nat.beq j 8) 12 (cond (Nat.beq j 13) 500 (2147483647))))))) (cond (Nat.ble 128 k) (cond (Nat.ble 129 k) (cond (Nat.ble 130 k) (127) (2147483647)) (2147483647)) (2147483647))))) (cond (Nat.ble 105 k) (cond (Nat.ble 115 k) (cond (Nat.ble 120 k) (cond (Nat.ble 123 k) (2147483647) (cond (Nat.ble 121 k) (cond (Nat.ble 122 k) (7) (1)) (2147483647))) (cond (Nat.ble 117 k) (cond (Nat.ble 118 k) (cond (Nat.ble 119 k) (cond (Nat.beq j 0) 8 (cond (Nat.beq j 3) 60 (cond (Nat.beq j 8) 12 (cond (Nat.beq j 13) 500 (2147483647))))) (127)) (2147483647)) (2147483647))) (cond (Nat.ble 110 k) (cond (Nat.ble 112 k) (2147483647) (cond (Nat.ble 111 k) (2147483647) (7))) (cond (Nat.ble 107 k) (cond (Nat.ble 108 k) (cond (Nat.ble 109 k) (1) (2147483647)) (cond (Nat.beq j 0) 8 (cond (Nat.beq j 3) 60 (cond (Nat.beq j 8) 12 (cond (Nat.beq j 13) 500 (2147483647)))))) (cond (Nat.ble 106 k) (127) (2147483647))))) (cond (Nat.ble 94 k) (cond (Nat.ble 99 k) (2147483647) (cond (Nat.ble 96 k) (cond (Nat.ble 97 k) (cond (Nat.ble 98 k) (7) (1)) (2147483647)) (cond (Nat.ble 95 k) (cond (Nat.beq j 0) 8 (cond (Nat.beq j 3) 60 (cond (Nat.beq j 8) 12 (cond (Nat.beq j 13) 500 (2147483647))))) (127)))) (cond (Nat.ble 89 k) (2147483647) (cond (Nat.ble 86 k) (cond (Nat.ble 87 k) (2147483647) (7)) (cond (Nat.ble 85 k) (1) (2147483647))))))) (cond (Nat.ble 42 k) (cond (Nat.ble 63 k) (cond (Nat.ble 73 k) (cond (Nat.ble 78 k) (cond (Nat.ble 81 k) (cond (Nat.ble 82 k) (cond (Nat.ble 83 k) (cond (Nat.beq j 0) 8 (cond (Nat.beq j 3) 60 (cond (Nat.beq j 8) 12 (cond (Nat.beq j 13) 500 (2147483647))))) (127)) (2147483647)) (2147483647)) (cond (Nat.ble 75 k) (2147483647) (cond (Nat.ble 74 k) (7) (1)))) (cond (Nat.ble 68 k) (cond (Nat.ble 70 k) (cond (Nat.ble 71 k) (cond (Nat.ble 72 k) (2147483647) (cond (Nat.beq j 0) 8 (cond (Nat.beq j 3) 60 (cond (Nat.beq j 8) 12 (cond (Nat.beq j 13) 500 (2147483647)))))) (127)) (2147483647)) (2147483647))) (cond (Nat.ble 52 k) (cond (Nat.ble 57 k) (cond (Nat.ble 60 k) (cond (Nat.ble 61 k) (cond (Nat.ble 62 k) (7) (1)) (2147483647)) (cond (Nat.ble 58 k) (cond (Nat.ble 59 k) (cond (Nat.beq j 0) 8 (cond (Nat.beq j 3) 60 (cond (Nat.beq j 8) 12 (cond (Nat.beq j 13) 500 (2147483647))))) (127)) (2147483647))) (2147483647)) (cond (Nat.ble 47 k) (cond (Nat.ble 49 k) (cond (Nat.ble 50 k) (cond (Nat.ble 51 k) (2147483647) (7)) (1)) (cond (Nat.ble 48 k) (2147483647) (cond (Nat.beq j 0) 8 (cond (Nat.beq j 3) 60 (cond (Nat.beq j 8) 12 (cond (Nat.beq j 13) 500 (2147483647))))))) (cond (Nat.ble 44 k) (cond (Nat.ble 45 k) (cond (Nat.ble 46 k) (127) (2147483647)) (2147483647)) (2147483647))))) (cond (Nat.ble 21 k) (cond (Nat.ble 31 k) (cond (Nat.ble 36 k) (cond (Nat.ble 39 k) (2147483647) (cond (Nat.ble 37 k) (cond (Nat.ble 38 k) (7) (1)) (2147483647))) (cond (Nat.ble 33 k) (cond (Nat.ble 34 k) (cond (Nat.ble 35 k) (cond (Nat.beq j 0) 8 (cond (Nat.beq j 3) 60 (cond (Nat.beq j 8) 12 (cond (Nat.beq j 13) 500 (2147483647))))) (1)) (2147483647)) (cond (Nat.ble 32 k) (2147483647) (cond (Nat.beq j 1) 7 (cond (Nat.beq j 2) 8 (2147483647)))))) (cond (Nat.ble 26 k) (cond (Nat.ble 28 k) (cond (Nat.ble 29 k) (cond (Nat.ble 30 k) (127) (2147483647)) (2147483647)) (2147483647)) (cond (Nat.ble 23 k) (2147483647) (cond (Nat.ble 22 k) (7) (1))))) (cond (Nat.ble 10 k) (cond (Nat.ble 15 k) (cond (Nat.ble 18 k) (cond (Nat.ble 19 k) (cond (Nat.ble 20 k) (2147483647) (cond (Nat.beq j 0) 8 (cond (Nat.beq j 3) 60 (cond (Nat.beq j 8) 12 (cond (Nat.beq j 13) 500 (2147483647)))))) (127)) (2147483647)) (cond (Nat.ble 12 k) (2147483647) (cond (Nat.ble 11 k) (2147483647) (7)))) (cond (Nat.ble 5 k) (cond (Nat.ble 7 k) (cond (Nat.ble 8 k) (cond (Nat.ble 9 k) (1) (2147483647)) (cond (Nat.beq j 0) 8 (cond (Nat.beq j 3) 60 (cond (Nat.beq j 8) 12 (cond (Nat.beq j 13) 500 (2147483647)))))) (cond (Nat.ble 6 k) (cond (Nat.beq j 10) 128 (2147483647)) (2147483647))) (2147483647)))))))
theorem lin100000 : (-100000 : Int32).toInt = (-100000) := by decide
theorem lin9999 : (-9999 : Int32).toInt = (-9999) := by decide
theorem lin50 : (-50 : Int32).toInt = (-50) := by decide
theorem lin5 : (-5 : Int32).toInt = (-5) := by decide
theorem lin2 : (-2 : Int32).toInt = (-2) := by decide
theorem lin1 : (-1 : Int32).toInt = (-1) := by decide
theorem li0 : (0 : Int32).toInt = 0 := by decide
theorem li1 : (1 : Int32).toInt = 1 := by decide
theorem li2 : (2 : Int32).toInt = 2 := by decide
theorem li3 : (3 : Int32).toInt = 3 := by decide
theorem li4 : (4 : Int32).toInt = 4 := by decide
theorem li5 : (5 : Int32).toInt = 5 := by decide
theorem li6 : (6 : Int32).toInt = 6 := by decide
theorem li7 : (7 : Int32).toInt = 7 := by decide
theorem li8 : (8 : Int32).toInt = 8 := by decide
theorem li9 : (9 : Int32).toInt = 9 := by decide
theorem li10 : (10 : Int32).toInt = 10 := by decide
theorem li12 : (12 : Int32).toInt = 12 := by decide
theorem li20 : (20 : Int32).toInt = 20 := by decide
theorem li24 : (24 : Int32).toInt = 24 := by decide
theorem li30 : (30 : Int32).toInt = 30 := by decide
theorem li44 : (44 : Int32).toInt = 44 := by decide
theorem li45 : (45 : Int32).toInt = 45 := by decide
theorem li48 : (48 : Int32).toInt = 48 := by decide
theorem li50 : (50 : Int32).toInt = 50 := by decide
theorem li57 : (57 : Int32).toInt = 57 := by decide
theorem li59 : (59 : Int32).toInt = 59 := by decide
theorem li60 : (60 : Int32).toInt = 60 := by decide
theorem li100 : (100 : Int32).toInt = 100 := by decide
theorem li255 : (255 : Int32).toInt = 255 := by decide
theorem li500 : (500 : Int32).toInt = 500 := by decide
theorem li999 : (999 : Int32).toInt = 999 := by decide
theorem li9999 : (9999 : Int32).toInt = 9999 := by decide
theorem li10000 : (10000 : Int32).toInt = 10000 := by decide
theorem lln1000000000000 : (-1000000000000 : Int64).toInt = (-1000000000000) := by decide
theorem mf16 : zmf 16 2 7 0 3 := by unfold zmf; decide +kernel
theorem mf20 : zmf 20 2 99 0 2 := by unfold zmf; decide +kernel
theorem mf21 : zmf 21 2 99 0 2 := by unfold zmf; decide +kernel
theorem mf23 : zmf 23 2 6 2 2 := by unfold zmf; decide +kernel
theorem mf24 : zmf 24 3 6 1 3 := by unfold zmf; decide +kernel
theorem mf25 : zmf 25 3 3 6 4 := by unfold zmf; decide +kernel
theorem mf26 : zmf 26 1 7 0 1 := by unfold zmf; decide +kernel
theorem mf27 : zmf 27 1 7 0 1 := by unfold zmf; decide +kernel
theorem mf28 : zmf 28 3 3 5 7 := by unfold zmf; decide +kernel
theorem mf29 : zmf 29 1 7 0 1 := by unfold zmf; decide +kernel
theorem mf30 : zmf 30 1 7 1 2 := by unfold zmf; decide +kernel
theorem mf31 : zmf 31 1 7 0 1 := by unfold zmf; decide +kernel
theorem mf32 : zmf 32 1 3 0 1 := by unfold zmf; decide +kernel
theorem mf33 : zmf 33 2 3 0 2 := by unfold zmf; decide +kernel
theorem mf34 : zmf 34 2 7 0 2 := by unfold zmf; decide +kernel
theorem mf35 : zmf 35 1 7 2 4 := by unfold zmf; decide +kernel
theorem mf36 : zmf 36 1 11 0 1 := by unfold zmf; decide +kernel
theorem mf37 : zmf 37 1 7 0 1 := by unfold zmf; decide +kernel
theorem mf38 : zmf 38 5 3 2 5 := by unfold zmf; decide +kernel
theorem mf39 : zmf 39 3 11 0 3 := by unfold zmf; decide +kernel
theorem mf40 : zmf 40 3 3 1 3 := by unfold zmf; decide +kernel
theorem mf41 : zmf 41 2 6 0 2 := by unfold zmf; decide +kernel
theorem mf42 : zmf 42 1 11 0 1 := by unfold zmf; decide +kernel
theorem mf43 : zmf 43 2 3 1 2 := by unfold zmf; decide +kernel
theorem mf44 : zmf 44 2 3 1 2 := by unfold zmf; decide +kernel
theorem mf45 : zmf 45 1 3 0 1 := by unfold zmf; decide +kernel
theorem mf46 : zmf 46 1 7 0 1 := by unfold zmf; decide +kernel
theorem mf47 : zmf 47 2 7 1 2 := by unfold zmf; decide +kernel
theorem mf48 : zmf 48 3 3 4 4 := by unfold zmf; decide +kernel
theorem mf49 : zmf 49 2 6 0 2 := by unfold zmf; decide +kernel
theorem mf50 : zmf 50 5 6 2 5 := by unfold zmf; decide +kernel
theorem mf51 : zmf 51 4 6 1 4 := by unfold zmf; decide +kernel
theorem mf52 : zmf 52 4 6 3 6 := by unfold zmf; decide +kernel
theorem mf53 : zmf 53 3 6 1 3 := by unfold zmf; decide +kernel
theorem mf54 : zmf 54 2 99 0 3 := by unfold zmf; decide +kernel
theorem mf55 : zmf 55 3 6 1 3 := by unfold zmf; decide +kernel
theorem mf56 : zmf 56 3 6 0 3 := by unfold zmf; decide +kernel
theorem mf83 : zmf 83 2 3 4 3 := by unfold zmf; decide +kernel
theorem mf84 : zmf 84 3 3 3 7 := by unfold zmf; decide +kernel
theorem mf85 : zmf 85 1 3 0 1 := by unfold zmf; decide +kernel
theorem mf91 : zmf 91 2 6 0 2 := by unfold zmf; decide +kernel
theorem mf92 : zmf 92 1 6 2 3 := by unfold zmf; decide +kernel
theorem mf93 : zmf 93 2 6 1 2 := by unfold zmf; decide +kernel
theorem mf100 : zmf 100 1 6 0 3 := by unfold zmf; decide +kernel
theorem mf103 : zmf 103 2 6 2 4 := by unfold zmf; decide +kernel
theorem mf128 : zmf 128 2 6 2 4 := by unfold zmf; decide +kernel
theorem mf185 : zmf 185 2 6 0 3 := by unfold zmf; decide +kernel
theorem mf211 : zmf 211 3 6 1 5 := by unfold zmf; decide +kernel
theorem mr16 : (mt 16).2.2.2.1 = none := by decide +kernel
theorem mr20 : (mt 20).2.2.2.1 = some .int := by decide +kernel
theorem mr21 : (mt 21).2.2.2.1 = some .int := by decide +kernel
theorem mr23 : (mt 23).2.2.2.1 = none := by decide +kernel
theorem mr24 : (mt 24).2.2.2.1 = none := by decide +kernel
theorem mr25 : (mt 25).2.2.2.1 = some .int := by decide +kernel
theorem mr26 : (mt 26).2.2.2.1 = none := by decide +kernel
theorem mr27 : (mt 27).2.2.2.1 = some .boolean := by decide +kernel
theorem mr28 : (mt 28).2.2.2.1 = some .boolean := by decide +kernel
theorem mr29 : (mt 29).2.2.2.1 = some .int := by decide +kernel
theorem mr30 : (mt 30).2.2.2.1 = some .int := by decide +kernel
theorem mr31 : (mt 31).2.2.2.1 = some .int := by decide +kernel
theorem mr32 : (mt 32).2.2.2.1 = some .int := by decide +kernel
theorem mr33 : (mt 33).2.2.2.1 = some .boolean := by decide +kernel
theorem mr34 : (mt 34).2.2.2.1 = some .boolean := by decide +kernel
theorem mr35 : (mt 35).2.2.2.1 = some .boolean := by decide +kernel
theorem mr36 : (mt 36).2.2.2.1 = some .boolean := by decide +kernel
theorem mr37 : (mt 37).2.2.2.1 = some .int := by decide +kernel
theorem mr38 : (mt 38).2.2.2.1 = some .boolean := by decide +kernel
theorem mr39 : (mt 39).2.2.2.1 = some .boolean := by decide +kernel
theorem mr40 : (mt 40).2.2.2.1 = some .boolean := by decide +kernel
theorem mr41 : (mt 41).2.2.2.1 = some .boolean := by decide +kernel
theorem mr42 : (mt 42).2.2.2.1 = some .boolean := by decide +kernel
theorem mr43 : (mt 43).2.2.2.1 = some .boolean := by decide +kernel
theorem mr44 : (mt 44).2.2.2.1 = some .boolean := by decide +kernel
theorem mr45 : (mt 45).2.2.2.1 = some .int := by decide +kernel
theorem mr46 : (mt 46).2.2.2.1 = some .int := by decide +kernel
theorem mr47 : (mt 47).2.2.2.1 = some .boolean := by decide +kernel
theorem mr48 : (mt 48).2.2.2.1 = some .boolean := by decide +kernel
theorem mr49 : (mt 49).2.2.2.1 = some .boolean := by decide +kernel
theorem mr50 : (mt 50).2.2.2.1 = some .int := by decide +kernel
theorem mr51 : (mt 51).2.2.2.1 = some .boolean := by decide +kernel
theorem mr52 : (mt 52).2.2.2.1 = some .boolean := by decide +kernel
theorem mr53 : (mt 53).2.2.2.1 = some .int := by decide +kernel
theorem mr54 : (mt 54).2.2.2.1 = some .int := by decide +kernel
theorem mr55 : (mt 55).2.2.2.1 = some .int := by decide +kernel
theorem mr56 : (mt 56).2.2.2.1 = none := by decide +kernel
theorem mr83 : (mt 83).2.2.2.1 = some .int := by decide +kernel
theorem mr84 : (mt 84).2.2.2.1 = some .boolean := by decide +kernel
theorem mr85 : (mt 85).2.2.2.1 = some .int := by decide +kernel
theorem mr91 : (mt 91).2.2.2.1 = some .boolean := by decide +kernel
theorem mr92 : (mt 92).2.2.2.1 = some .int := by decide +kernel
theorem mr93 : (mt 93).2.2.2.1 = some .boolean := by decide +kernel
theorem mr100 : (mt 100).2.2.2.1 = some .int := by decide +kernel
theorem mr103 : (mt 103).2.2.2.1 = some .int := by decide +kernel
theorem mr128 : (mt 128).2.2.2.1 = some .int := by decide +kernel
theorem mr185 : (mt 185).2.2.2.1 = some .boolean := by decide +kernel
theorem mr211 : (mt 211).2.2.2.1 = some .int := by decide +kernel
theorem t16_0 : zT 16 0 = some (.bipush 24, 2, 0, 0, 24, 0) := by decide +kernel
theorem t16_2 : zT 16 2 = some (.istore_n 2, 1, 2, 0, 0, 0) := by decide +kernel
theorem t16_3 : zT 16 3 = some (.iload_n 2, 1, 2, 0, 0, 0) := by decide +kernel
theorem t16_4 : zT 16 4 = some (.ifCond .lt 42, 3, 46, 0, 0, 0) := by decide +kernel
theorem t16_7 : zT 16 7 = some (.aload_n 0, 1, 0, 0, 0, 0) := by decide +kernel
theorem t16_8 : zT 16 8 = some (.getfield 15, 3, 7, 1, 0, 261) := by decide +kernel
theorem t16_11 : zT 16 11 = some (.sipush 500, 3, 0, 0, 500, 0) := by decide +kernel
theorem t16_14 : zT 16 14 = some (.if_icmp .ge 32, 3, 46, 0, 0, 0) := by decide +kernel
theorem t16_17 : zT 16 17 = some (.aload_n 0, 1, 0, 0, 0, 0) := by decide +kernel
theorem t16_18 : zT 16 18 = some (.getfield 9, 3, 7, 0, 0, 260) := by decide +kernel
theorem t16_21 : zT 16 21 = some (.aload_n 0, 1, 0, 0, 0, 0) := by decide +kernel
theorem t16_22 : zT 16 22 = some (.getfield 15, 3, 7, 1, 0, 261) := by decide +kernel
theorem t16_25 : zT 16 25 = some (.iload_n 1, 1, 1, 0, 0, 0) := by decide +kernel
theorem t16_26 : zT 16 26 = some (.iload_n 2, 1, 2, 0, 0, 0) := by decide +kernel
theorem t16_27 : zT 16 27 = some (.iushr, 1, 0, 0, 0, 0) := by decide +kernel
theorem t16_28 : zT 16 28 = some (.i2b, 1, 0, 0, 0, 0) := by decide +kernel
theorem t16_29 : zT 16 29 = some (.bastore, 1, 0, 0, 0, 0) := by decide +kernel
theorem t16_30 : zT 16 30 = some (.aload_n 0, 1, 0, 0, 0, 0) := by decide +kernel
theorem t16_31 : zT 16 31 = some (.dup, 1, 0, 0, 0, 0) := by decide +kernel
theorem t16_32 : zT 16 32 = some (.getfield 15, 3, 7, 1, 0, 261) := by decide +kernel
theorem t16_35 : zT 16 35 = some (.iconst 1, 1, 0, 0, 1, 0) := by decide +kernel
theorem t16_36 : zT 16 36 = some (.iadd, 1, 0, 0, 0, 0) := by decide +kernel
theorem t16_37 : zT 16 37 = some (.putfield 15, 3, 7, 1, 0, 261) := by decide +kernel
theorem t16_40 : zT 16 40 = some (.iinc 2 (-8), 3, 0, 0, 0, 0) := by decide +kernel
theorem t16_43 : zT 16 43 = some (.goto (-40), 3, 3, 0, 0, 0) := by decide +kernel
theorem t16_46 : zT 16 46 = some (.return_, 1, 0, 0, 0, 0) := by decide +kernel
theorem t20_0 : zT 20 0 = some (.iload_n 0, 1, 0, 0, 0, 0) := by decide +kernel
theorem t20_1 : zT 20 1 = some (.iload_n 1, 1, 1, 0, 0, 0) := by decide +kernel
theorem t20_2 : zT 20 2 = some (.if_icmp .gt 7, 3, 9, 0, 0, 0) := by decide +kernel
theorem t20_5 : zT 20 5 = some (.iload_n 0, 1, 0, 0, 0, 0) := by decide +kernel
theorem t20_6 : zT 20 6 = some (.goto 4, 3, 10, 0, 0, 0) := by decide +kernel
theorem t20_10 : zT 20 10 = some (.ireturn, 1, 0, 0, 0, 0) := by decide +kernel
theorem t21_0 : zT 21 0 = some (.iload_n 0, 1, 0, 0, 0, 0) := by decide +kernel
theorem t21_1 : zT 21 1 = some (.iload_n 1, 1, 1, 0, 0, 0) := by decide +kernel
theorem t21_2 : zT 21 2 = some (.if_icmp .lt 7, 3, 9, 0, 0, 0) := by decide +kernel
theorem t21_5 : zT 21 5 = some (.iload_n 0, 1, 0, 0, 0, 0) := by decide +kernel
theorem t21_6 : zT 21 6 = some (.goto 4, 3, 10, 0, 0, 0) := by decide +kernel
theorem t21_9 : zT 21 9 = some (.iload_n 1, 1, 1, 0, 0, 0) := by decide +kernel
theorem t21_10 : zT 21 10 = some (.ireturn, 1, 0, 0, 0, 0) := by decide +kernel
theorem t23_0 : zT 23 0 = some (.aload_n 0, 1, 0, 0, 0, 0) := by decide +kernel
theorem t23_1 : zT 23 1 = some (.aload_n 1, 1, 1, 0, 0, 0) := by decide +kernel
theorem t23_2 : zT 23 2 = some (.getfield 9, 3, 6, 0, 0, 151) := by decide +kernel
theorem t23_5 : zT 23 5 = some (.putfield 9, 3, 6, 0, 0, 151) := by decide +kernel
theorem t23_8 : zT 23 8 = some (.aload_n 1, 1, 1, 0, 0, 0) := by decide +kernel
theorem t23_9 : zT 23 9 = some (.getfield 15, 3, 6, 1, 0, 157) := by decide +kernel
theorem t23_12 : zT 23 12 = some (.iconst 0, 1, 0, 0, 0, 0) := by decide +kernel
theorem t23_13 : zT 23 13 = some (.aload_n 0, 1, 0, 0, 0, 0) := by decide +kernel
theorem t23_14 : zT 23 14 = some (.getfield 15, 3, 6, 1, 0, 157) := by decide +kernel
theorem t23_17 : zT 23 17 = some (.iconst 0, 1, 0, 0, 0, 0) := by decide +kernel
theorem t23_18 : zT 23 18 = some (.aload_n 0, 1, 0, 0, 0, 0) := by decide +kernel
theorem t23_19 : zT 23 19 = some (.getfield 9, 3, 6, 0, 0, 151) := by decide +kernel
theorem t23_22 : zT 23 22 = some (.invokestatic 68, 3, 0, 6, 0, 676) := by decide +kernel
theorem t23_25 : zT 23 25 = some (.aload_n 1, 1, 1, 0, 0, 0) := by decide +kernel
theorem t23_26 : zT 23 26 = some (.getfield 19, 3, 6, 2, 0, 161) := by decide +kernel
theorem t23_29 : zT 23 29 = some (.iconst 0, 1, 0, 0, 0, 0) := by decide +kernel
theorem t23_30 : zT 23 30 = some (.aload_n 0, 1, 0, 0, 0, 0) := by decide +kernel
theorem t23_31 : zT 23 31 = some (.getfield 19, 3, 6, 2, 0, 161) := by decide +kernel
theorem t23_34 : zT 23 34 = some (.iconst 0, 1, 0, 0, 0, 0) := by decide +kernel
theorem t23_35 : zT 23 35 = some (.aload_n 0, 1, 0, 0, 0, 0) := by decide +kernel
theorem t23_36 : zT 23 36 = some (.getfield 9, 3, 6, 0, 0, 151) := by decide +kernel
theorem t23_39 : zT 23 39 = some (.invokestatic 68, 3, 0, 6, 0, 676) := by decide +kernel
theorem t23_42 : zT 23 42 = some (.aload_n 0, 1, 0, 0, 0, 0) := by decide +kernel
theorem t23_43 : zT 23 43 = some (.aload_n 1, 1, 1, 0, 0, 0) := by decide +kernel
theorem t23_44 : zT 23 44 = some (.getfield 23, 3, 6, 3, 0, 164) := by decide +kernel
theorem t23_47 : zT 23 47 = some (.putfield 23, 3, 6, 3, 0, 164) := by decide +kernel
theorem t23_50 : zT 23 50 = some (.aload_n 1, 1, 1, 0, 0, 0) := by decide +kernel
theorem t23_51 : zT 23 51 = some (.getfield 26, 3, 6, 4, 0, 168) := by decide +kernel
theorem t23_54 : zT 23 54 = some (.iconst 0, 1, 0, 0, 0, 0) := by decide +kernel
theorem t23_55 : zT 23 55 = some (.aload_n 0, 1, 0, 0, 0, 0) := by decide +kernel
theorem t23_56 : zT 23 56 = some (.getfield 26, 3, 6, 4, 0, 168) := by decide +kernel
theorem t23_59 : zT 23 59 = some (.iconst 0, 1, 0, 0, 0, 0) := by decide +kernel
theorem t23_60 : zT 23 60 = some (.aload_n 0, 1, 0, 0, 0, 0) := by decide +kernel
theorem t23_61 : zT 23 61 = some (.getfield 23, 3, 6, 3, 0, 164) := by decide +kernel
theorem t23_64 : zT 23 64 = some (.invokestatic 68, 3, 0, 6, 0, 676) := by decide +kernel
theorem t23_67 : zT 23 67 = some (.aload_n 1, 1, 1, 0, 0, 0) := by decide +kernel
theorem t23_68 : zT 23 68 = some (.getfield 29, 3, 6, 5, 0, 171) := by decide +kernel
theorem t23_71 : zT 23 71 = some (.iconst 0, 1, 0, 0, 0, 0) := by decide +kernel
theorem t23_72 : zT 23 72 = some (.aload_n 0, 1, 0, 0, 0, 0) := by decide +kernel
theorem t23_73 : zT 23 73 = some (.getfield 29, 3, 6, 5, 0, 171) := by decide +kernel
theorem t23_76 : zT 23 76 = some (.iconst 0, 1, 0, 0, 0, 0) := by decide +kernel
theorem t23_77 : zT 23 77 = some (.aload_n 0, 1, 0, 0, 0, 0) := by decide +kernel
theorem t23_78 : zT 23 78 = some (.getfield 23, 3, 6, 3, 0, 164) := by decide +kernel
theorem t23_81 : zT 23 81 = some (.invokestatic 68, 3, 0, 6, 0, 676) := by decide +kernel
theorem t23_84 : zT 23 84 = some (.aload_n 1, 1, 1, 0, 0, 0) := by decide +kernel
theorem t23_85 : zT 23 85 = some (.getfield 32, 3, 6, 6, 0, 175) := by decide +kernel
theorem t23_88 : zT 23 88 = some (.iconst 0, 1, 0, 0, 0, 0) := by decide +kernel
theorem t23_89 : zT 23 89 = some (.aload_n 0, 1, 0, 0, 0, 0) := by decide +kernel
theorem t23_90 : zT 23 90 = some (.getfield 32, 3, 6, 6, 0, 175) := by decide +kernel
theorem t23_93 : zT 23 93 = some (.iconst 0, 1, 0, 0, 0, 0) := by decide +kernel
theorem t23_94 : zT 23 94 = some (.aload_n 0, 1, 0, 0, 0, 0) := by decide +kernel
theorem t23_95 : zT 23 95 = some (.getfield 23, 3, 6, 3, 0, 164) := by decide +kernel
theorem t23_98 : zT 23 98 = some (.invokestatic 68, 3, 0, 6, 0, 676) := by decide +kernel
theorem t23_101 : zT 23 101 = some (.aload_n 1, 1, 1, 0, 0, 0) := by decide +kernel
theorem t23_102 : zT 23 102 = some (.getfield 35, 3, 6, 7, 0, 177) := by decide +kernel
theorem t23_105 : zT 23 105 = some (.iconst 0, 1, 0, 0, 0, 0) := by decide +kernel
theorem t23_106 : zT 23 106 = some (.aload_n 0, 1, 0, 0, 0, 0) := by decide +kernel
theorem t23_107 : zT 23 107 = some (.getfield 35, 3, 6, 7, 0, 177) := by decide +kernel
theorem t23_110 : zT 23 110 = some (.iconst 0, 1, 0, 0, 0, 0) := by decide +kernel
theorem t23_111 : zT 23 111 = some (.aload_n 0, 1, 0, 0, 0, 0) := by decide +kernel
theorem t23_112 : zT 23 112 = some (.getfield 23, 3, 6, 3, 0, 164) := by decide +kernel
theorem t23_115 : zT 23 115 = some (.invokestatic 68, 3, 0, 6, 0, 676) := by decide +kernel
theorem t23_118 : zT 23 118 = some (.aload_n 0, 1, 0, 0, 0, 0) := by decide +kernel
theorem t23_119 : zT 23 119 = some (.aload_n 1, 1, 1, 0, 0, 0) := by decide +kernel
theorem t23_120 : zT 23 120 = some (.getfield 38, 3, 6, 8, 0, 180) := by decide +kernel
theorem t23_123 : zT 23 123 = some (.putfield 38, 3, 6, 8, 0, 180) := by decide +kernel
theorem t23_126 : zT 23 126 = some (.aload_n 1, 1, 1, 0, 0, 0) := by decide +kernel
theorem t23_127 : zT 23 127 = some (.getfield 41, 3, 6, 9, 0, 184) := by decide +kernel
theorem t23_130 : zT 23 130 = some (.iconst 0, 1, 0, 0, 0, 0) := by decide +kernel
theorem t23_131 : zT 23 131 = some (.aload_n 0, 1, 0, 0, 0, 0) := by decide +kernel
theorem t23_132 : zT 23 132 = some (.getfield 41, 3, 6, 9, 0, 184) := by decide +kernel
theorem t23_135 : zT 23 135 = some (.iconst 0, 1, 0, 0, 0, 0) := by decide +kernel
theorem t23_136 : zT 23 136 = some (.aload_n 0, 1, 0, 0, 0, 0) := by decide +kernel
theorem t23_137 : zT 23 137 = some (.getfield 38, 3, 6, 8, 0, 180) := by decide +kernel
theorem t23_140 : zT 23 140 = some (.invokestatic 68, 3, 0, 6, 0, 676) := by decide +kernel
theorem t23_143 : zT 23 143 = some (.aload_n 1, 1, 1, 0, 0, 0) := by decide +kernel
theorem t23_144 : zT 23 144 = some (.getfield 44, 3, 6, 10, 0, 186) := by decide +kernel
theorem t23_147 : zT 23 147 = some (.iconst 0, 1, 0, 0, 0, 0) := by decide +kernel
theorem t23_148 : zT 23 148 = some (.aload_n 0, 1, 0, 0, 0, 0) := by decide +kernel
theorem t23_149 : zT 23 149 = some (.getfield 44, 3, 6, 10, 0, 186) := by decide +kernel
theorem t23_152 : zT 23 152 = some (.iconst 0, 1, 0, 0, 0, 0) := by decide +kernel
theorem t23_153 : zT 23 153 = some (.aload_n 0, 1, 0, 0, 0, 0) := by decide +kernel
theorem t23_154 : zT 23 154 = some (.getfield 38, 3, 6, 8, 0, 180) := by decide +kernel
theorem t23_157 : zT 23 157 = some (.invokestatic 68, 3, 0, 6, 0, 676) := by decide +kernel
theorem t23_160 : zT 23 160 = some (.aload_n 1, 1, 1, 0, 0, 0) := by decide +kernel
theorem t23_161 : zT 23 161 = some (.getfield 47, 3, 6, 11, 0, 188) := by decide +kernel
theorem t23_164 : zT 23 164 = some (.iconst 0, 1, 0, 0, 0, 0) := by decide +kernel
theorem t23_165 : zT 23 165 = some (.aload_n 0, 1, 0, 0, 0, 0) := by decide +kernel
theorem t23_166 : zT 23 166 = some (.getfield 47, 3, 6, 11, 0, 188) := by decide +kernel
theorem t23_169 : zT 23 169 = some (.iconst 0, 1, 0, 0, 0, 0) := by decide +kernel
theorem t23_170 : zT 23 170 = some (.aload_n 0, 1, 0, 0, 0, 0) := by decide +kernel
theorem t23_171 : zT 23 171 = some (.getfield 38, 3, 6, 8, 0, 180) := by decide +kernel
theorem t23_174 : zT 23 174 = some (.invokestatic 68, 3, 0, 6, 0, 676) := by decide +kernel
theorem t23_177 : zT 23 177 = some (.aload_n 1, 1, 1, 0, 0, 0) := by decide +kernel
theorem t23_178 : zT 23 178 = some (.getfield 58, 3, 6, 12, 0, 190) := by decide +kernel
theorem t23_181 : zT 23 181 = some (.iconst 0, 1, 0, 0, 0, 0) := by decide +kernel
theorem t23_182 : zT 23 182 = some (.aload_n 0, 1, 0, 0, 0, 0) := by decide +kernel
theorem t23_183 : zT 23 183 = some (.getfield 58, 3, 6, 12, 0, 190) := by decide +kernel
theorem t23_186 : zT 23 186 = some (.iconst 0, 1, 0, 0, 0, 0) := by decide +kernel
theorem t23_187 : zT 23 187 = some (.bipush 9, 2, 0, 0, 9, 0) := by decide +kernel
theorem t23_189 : zT 23 189 = some (.invokestatic 68, 3, 0, 6, 0, 676) := by decide +kernel
theorem t23_192 : zT 23 192 = some (.aload_n 0, 1, 0, 0, 0, 0) := by decide +kernel
theorem t23_193 : zT 23 193 = some (.aload_n 1, 1, 1, 0, 0, 0) := by decide +kernel
theorem t23_194 : zT 23 194 = some (.getfield 64, 3, 6, 14, 0, 193) := by decide +kernel
theorem t23_197 : zT 23 197 = some (.aload_n 1, 1, 1, 0, 0, 0) := by decide +kernel
theorem t23_198 : zT 23 198 = some (.getfield 61, 3, 6, 13, 0, 191) := by decide +kernel
theorem t23_201 : zT 23 201 = some (.invokevirtual 74, 3, 24, 0, 0, 679) := by decide +kernel
theorem t23_204 : zT 23 204 = some (.return_, 1, 0, 0, 0, 0) := by decide +kernel
theorem t24_0 : zT 24 0 = some (.aload_n 0, 1, 0, 0, 0, 0) := by decide +kernel
theorem t24_1 : zT 24 1 = some (.iconst 0, 1, 0, 0, 0, 0) := by decide +kernel
theorem t24_2 : zT 24 2 = some (.iload_n 2, 1, 2, 0, 0, 0) := by decide +kernel
theorem t24_3 : zT 24 3 = some (.sipush 500, 3, 0, 0, 500, 0) := by decide +kernel
theorem t24_6 : zT 24 6 = some (.invokestatic 78, 3, 20, 1, 0, 683) := by decide +kernel
theorem t24_9 : zT 24 9 = some (.invokestatic 84, 3, 21, 1, 0, 684) := by decide +kernel
theorem t24_12 : zT 24 12 = some (.putfield 61, 3, 6, 13, 0, 191) := by decide +kernel
theorem t24_15 : zT 24 15 = some (.aload_n 1, 1, 1, 0, 0, 0) := by decide +kernel
theorem t24_16 : zT 24 16 = some (.iconst 0, 1, 0, 0, 0, 0) := by decide +kernel
theorem t24_17 : zT 24 17 = some (.aload_n 0, 1, 0, 0, 0, 0) := by decide +kernel
theorem t24_18 : zT 24 18 = some (.getfield 64, 3, 6, 14, 0, 193) := by decide +kernel
theorem t24_21 : zT 24 21 = some (.iconst 0, 1, 0, 0, 0, 0) := by decide +kernel
theorem t24_22 : zT 24 22 = some (.aload_n 0, 1, 0, 0, 0, 0) := by decide +kernel
theorem t24_23 : zT 24 23 = some (.getfield 61, 3, 6, 13, 0, 191) := by decide +kernel
theorem t24_26 : zT 24 26 = some (.invokestatic 68, 3, 0, 6, 0, 676) := by decide +kernel
theorem t24_29 : zT 24 29 = some (.return_, 1, 0, 0, 0, 0) := by decide +kernel
theorem t25_0 : zT 25 0 = some (.aload_n 1, 1, 1, 0, 0, 0) := by decide +kernel
theorem t25_1 : zT 25 1 = some (.invokevirtual 21, 3, 26, 0, 0, 689) := by decide +kernel
theorem t25_4 : zT 25 4 = some (.iconst 0, 1, 0, 0, 0, 0) := by decide +kernel
theorem t25_5 : zT 25 5 = some (.istore_n 3, 1, 3, 0, 0, 0) := by decide +kernel
theorem t25_6 : zT 25 6 = some (.iload_n 3, 1, 3, 0, 0, 0) := by decide +kernel
theorem t25_7 : zT 25 7 = some (.sipush 500, 3, 0, 0, 500, 0) := by decide +kernel
theorem t25_10 : zT 25 10 = some (.if_icmp .ge 27, 3, 37, 0, 0, 0) := by decide +kernel
theorem t25_13 : zT 25 13 = some (.aload_n 1, 1, 1, 0, 0, 0) := by decide +kernel
theorem t25_14 : zT 25 14 = some (.invokevirtual 26, 3, 27, 0, 0, 693) := by decide +kernel
theorem t25_17 : zT 25 17 = some (.ifCond .ne 20, 3, 37, 0, 0, 0) := by decide +kernel
theorem t25_20 : zT 25 20 = some (.aload_n 0, 1, 0, 0, 0, 0) := by decide +kernel
theorem t25_21 : zT 25 21 = some (.aload_n 1, 1, 1, 0, 0, 0) := by decide +kernel
theorem t25_22 : zT 25 22 = some (.aload_n 2, 1, 2, 0, 0, 0) := by decide +kernel
theorem t25_23 : zT 25 23 = some (.invokevirtual 30, 3, 28, 0, 0, 697) := by decide +kernel
theorem t25_26 : zT 25 26 = some (.ifCond .ne 5, 3, 31, 0, 0, 0) := by decide +kernel
theorem t25_29 : zT 25 29 = some (.iconst (-1), 1, 0, 0, (-1), 0) := by decide +kernel
theorem t25_30 : zT 25 30 = some (.ireturn, 1, 0, 0, 0, 0) := by decide +kernel
theorem t25_31 : zT 25 31 = some (.iinc 3 1, 3, 0, 0, 0, 0) := by decide +kernel
theorem t25_34 : zT 25 34 = some (.goto (-28), 3, 6, 0, 0, 0) := by decide +kernel
theorem t25_37 : zT 25 37 = some (.iload_n 3, 1, 3, 0, 0, 0) := by decide +kernel
theorem t25_38 : zT 25 38 = some (.ireturn, 1, 0, 0, 0, 0) := by decide +kernel
theorem t26_0 : zT 26 0 = some (.aload_n 0, 1, 0, 0, 0, 0) := by decide +kernel
theorem t26_1 : zT 26 1 = some (.iconst 0, 1, 0, 0, 0, 0) := by decide +kernel
theorem t26_2 : zT 26 2 = some (.putfield 19, 3, 7, 2, 0, 262) := by decide +kernel
theorem t26_5 : zT 26 5 = some (.aload_n 0, 1, 0, 0, 0, 0) := by decide +kernel
theorem t26_6 : zT 26 6 = some (.iconst (-1), 1, 0, 0, (-1), 0) := by decide +kernel
theorem t26_7 : zT 26 7 = some (.putfield 22, 3, 7, 3, 0, 263) := by decide +kernel
theorem t26_10 : zT 26 10 = some (.return_, 1, 0, 0, 0, 0) := by decide +kernel
theorem t27_0 : zT 27 0 = some (.aload_n 0, 1, 0, 0, 0, 0) := by decide +kernel
theorem t27_1 : zT 27 1 = some (.getfield 19, 3, 7, 2, 0, 262) := by decide +kernel
theorem t27_4 : zT 27 4 = some (.aload_n 0, 1, 0, 0, 0, 0) := by decide +kernel
theorem t27_5 : zT 27 5 = some (.getfield 15, 3, 7, 1, 0, 261) := by decide +kernel
theorem t27_8 : zT 27 8 = some (.if_icmp .lt 7, 3, 15, 0, 0, 0) := by decide +kernel
theorem t27_11 : zT 27 11 = some (.iconst 1, 1, 0, 0, 1, 0) := by decide +kernel
theorem t27_12 : zT 27 12 = some (.goto 4, 3, 16, 0, 0, 0) := by decide +kernel
theorem t27_15 : zT 27 15 = some (.iconst 0, 1, 0, 0, 0, 0) := by decide +kernel
theorem t27_16 : zT 27 16 = some (.ireturn, 1, 0, 0, 0, 0) := by decide +kernel
theorem t28_0 : zT 28 0 = some (.aload_n 1, 1, 1, 0, 0, 0) := by decide +kernel
theorem t28_1 : zT 28 1 = some (.invokevirtual 34, 3, 29, 0, 0, 701) := by decide +kernel
theorem t28_4 : zT 28 4 = some (.istore_n 3, 1, 3, 0, 0, 0) := by decide +kernel
theorem t28_5 : zT 28 5 = some (.aload_n 1, 1, 1, 0, 0, 0) := by decide +kernel
theorem t28_6 : zT 28 6 = some (.invokevirtual 38, 3, 30, 0, 0, 705) := by decide +kernel
theorem t28_9 : zT 28 9 = some (.istore 4, 2, 0, 0, 0, 0) := by decide +kernel
theorem t28_11 : zT 28 11 = some (.iload 4, 2, 0, 0, 0, 0) := by decide +kernel
theorem t28_13 : zT 28 13 = some (.invokestatic 41, 3, 32, 1, 0, 713) := by decide +kernel
theorem t28_16 : zT 28 16 = some (.istore 5, 2, 0, 0, 0, 0) := by decide +kernel
theorem t28_18 : zT 28 18 = some (.iload 5, 2, 0, 0, 0, 0) := by decide +kernel
theorem t28_20 : zT 28 20 = some (.ifCond .eq 12, 3, 32, 0, 0, 0) := by decide +kernel
theorem t28_23 : zT 28 23 = some (.iload 4, 2, 0, 0, 0, 0) := by decide +kernel
theorem t28_25 : zT 28 25 = some (.aload_n 2, 1, 2, 0, 0, 0) := by decide +kernel
theorem t28_26 : zT 28 26 = some (.invokestatic 45, 3, 33, 1, 0, 716) := by decide +kernel
theorem t28_29 : zT 28 29 = some (.ifCond .eq 9, 3, 38, 0, 0, 0) := by decide +kernel
theorem t28_32 : zT 28 32 = some (.aload_n 1, 1, 1, 0, 0, 0) := by decide +kernel
theorem t28_33 : zT 28 33 = some (.iload_n 3, 1, 3, 0, 0, 0) := by decide +kernel
theorem t28_34 : zT 28 34 = some (.invokevirtual 49, 3, 34, 0, 0, 719) := by decide +kernel
theorem t28_37 : zT 28 37 = some (.ireturn, 1, 0, 0, 0, 0) := by decide +kernel
theorem t28_38 : zT 28 38 = some (.iconst 0, 1, 0, 0, 0, 0) := by decide +kernel
theorem t28_39 : zT 28 39 = some (.istore 6, 2, 0, 0, 0, 0) := by decide +kernel
theorem t28_41 : zT 28 41 = some (.iload 6, 2, 0, 0, 0, 0) := by decide +kernel
theorem t28_43 : zT 28 43 = some (.iload 5, 2, 0, 0, 0, 0) := by decide +kernel
theorem t28_45 : zT 28 45 = some (.if_icmp .ge 79, 3, 124, 0, 0, 0) := by decide +kernel
theorem t28_48 : zT 28 48 = some (.aload_n 1, 1, 1, 0, 0, 0) := by decide +kernel
theorem t28_49 : zT 28 49 = some (.invokevirtual 53, 3, 35, 0, 0, 723) := by decide +kernel
theorem t28_52 : zT 28 52 = some (.ifCond .ne 5, 3, 57, 0, 0, 0) := by decide +kernel
theorem t28_55 : zT 28 55 = some (.iconst 0, 1, 0, 0, 0, 0) := by decide +kernel
theorem t28_56 : zT 28 56 = some (.ireturn, 1, 0, 0, 0, 0) := by decide +kernel
theorem t28_57 : zT 28 57 = some (.aload_n 0, 1, 0, 0, 0, 0) := by decide +kernel
theorem t28_58 : zT 28 58 = some (.iload 4, 2, 0, 0, 0, 0) := by decide +kernel
theorem t28_60 : zT 28 60 = some (.iload 6, 2, 0, 0, 0, 0) := by decide +kernel
theorem t28_62 : zT 28 62 = some (.aload_n 1, 1, 1, 0, 0, 0) := by decide +kernel
theorem t28_63 : zT 28 63 = some (.invokevirtual 56, 3, 37, 0, 0, 732) := by decide +kernel
theorem t28_66 : zT 28 66 = some (.aload_n 2, 1, 2, 0, 0, 0) := by decide +kernel
theorem t28_67 : zT 28 67 = some (.invokevirtual 59, 3, 38, 0, 0, 736) := by decide +kernel
theorem t28_70 : zT 28 70 = some (.ifCond .ne 12, 3, 82, 0, 0, 0) := by decide +kernel
theorem t28_73 : zT 28 73 = some (.aload_n 1, 1, 1, 0, 0, 0) := by decide +kernel
theorem t28_74 : zT 28 74 = some (.aload_n 1, 1, 1, 0, 0, 0) := by decide +kernel
theorem t28_75 : zT 28 75 = some (.invokevirtual 63, 3, 46, 0, 0, 766) := by decide +kernel
theorem t28_78 : zT 28 78 = some (.invokevirtual 49, 3, 34, 0, 0, 719) := by decide +kernel
theorem t28_81 : zT 28 81 = some (.ireturn, 1, 0, 0, 0, 0) := by decide +kernel
theorem t28_82 : zT 28 82 = some (.aload_n 0, 1, 0, 0, 0, 0) := by decide +kernel
theorem t28_83 : zT 28 83 = some (.getfield 11, 3, 3, 0, 0, 285) := by decide +kernel
theorem t28_86 : zT 28 86 = some (.iload 6, 2, 0, 0, 0, 0) := by decide +kernel
theorem t28_88 : zT 28 88 = some (.aload_n 1, 1, 1, 0, 0, 0) := by decide +kernel
theorem t28_89 : zT 28 89 = some (.invokevirtual 56, 3, 37, 0, 0, 732) := by decide +kernel
theorem t28_92 : zT 28 92 = some (.iastore, 1, 0, 0, 0, 0) := by decide +kernel
theorem t28_93 : zT 28 93 = some (.aload_n 1, 1, 1, 0, 0, 0) := by decide +kernel
theorem t28_94 : zT 28 94 = some (.iload 6, 2, 0, 0, 0, 0) := by decide +kernel
theorem t28_96 : zT 28 96 = some (.iconst 1, 1, 0, 0, 1, 0) := by decide +kernel
theorem t28_97 : zT 28 97 = some (.iadd, 1, 0, 0, 0, 0) := by decide +kernel
theorem t28_98 : zT 28 98 = some (.iload 5, 2, 0, 0, 0, 0) := by decide +kernel
theorem t28_100 : zT 28 100 = some (.if_icmp .ge 8, 3, 108, 0, 0, 0) := by decide +kernel
theorem t28_103 : zT 28 103 = some (.bipush 44, 2, 0, 0, 44, 0) := by decide +kernel
theorem t28_105 : zT 28 105 = some (.goto 5, 3, 110, 0, 0, 0) := by decide +kernel
theorem t28_108 : zT 28 108 = some (.bipush 59, 2, 0, 0, 59, 0) := by decide +kernel
theorem t28_110 : zT 28 110 = some (.invokevirtual 66, 3, 47, 0, 0, 770) := by decide +kernel
theorem t28_113 : zT 28 113 = some (.ifCond .ne 5, 3, 118, 0, 0, 0) := by decide +kernel
theorem t28_116 : zT 28 116 = some (.iconst 0, 1, 0, 0, 0, 0) := by decide +kernel
theorem t28_117 : zT 28 117 = some (.ireturn, 1, 0, 0, 0, 0) := by decide +kernel
theorem t28_118 : zT 28 118 = some (.iinc 6 1, 3, 0, 0, 0, 0) := by decide +kernel
theorem t28_121 : zT 28 121 = some (.goto (-80), 3, 41, 0, 0, 0) := by decide +kernel
theorem t28_124 : zT 28 124 = some (.aload_n 0, 1, 0, 0, 0, 0) := by decide +kernel
theorem t28_125 : zT 28 125 = some (.iload 4, 2, 0, 0, 0, 0) := by decide +kernel
theorem t28_127 : zT 28 127 = some (.aload_n 2, 1, 2, 0, 0, 0) := by decide +kernel
theorem t28_128 : zT 28 128 = some (.invokevirtual 70, 3, 48, 0, 0, 774) := by decide +kernel
theorem t28_131 : zT 28 131 = some (.ifCond .ne 11, 3, 142, 0, 0, 0) := by decide +kernel
theorem t28_134 : zT 28 134 = some (.aload_n 1, 1, 1, 0, 0, 0) := by decide +kernel
theorem t28_135 : zT 28 135 = some (.iload_n 3, 1, 3, 0, 0, 0) := by decide +kernel
theorem t28_136 : zT 28 136 = some (.invokevirtual 49, 3, 34, 0, 0, 719) := by decide +kernel
theorem t28_139 : zT 28 139 = some (.ifCond .eq 7, 3, 146, 0, 0, 0) := by decide +kernel
theorem t28_142 : zT 28 142 = some (.iconst 1, 1, 0, 0, 1, 0) := by decide +kernel
theorem t28_143 : zT 28 143 = some (.goto 4, 3, 147, 0, 0, 0) := by decide +kernel
theorem t28_146 : zT 28 146 = some (.iconst 0, 1, 0, 0, 0, 0) := by decide +kernel
theorem t28_147 : zT 28 147 = some (.ireturn, 1, 0, 0, 0, 0) := by decide +kernel
theorem t29_0 : zT 29 0 = some (.aload_n 0, 1, 0, 0, 0, 0) := by decide +kernel
theorem t29_1 : zT 29 1 = some (.getfield 19, 3, 7, 2, 0, 262) := by decide +kernel
theorem t29_4 : zT 29 4 = some (.ireturn, 1, 0, 0, 0, 0) := by decide +kernel
theorem t30_0 : zT 30 0 = some (.aload_n 0, 1, 0, 0, 0, 0) := by decide +kernel
theorem t30_1 : zT 30 1 = some (.invokevirtual 40, 3, 31, 0, 0, 709) := by decide +kernel
theorem t30_4 : zT 30 4 = some (.istore_n 1, 1, 1, 0, 0, 0) := by decide +kernel
theorem t30_5 : zT 30 5 = some (.iload_n 1, 1, 1, 0, 0, 0) := by decide +kernel
theorem t30_6 : zT 30 6 = some (.iconst (-1), 1, 0, 0, (-1), 0) := by decide +kernel
theorem t30_7 : zT 30 7 = some (.if_icmp .eq 13, 3, 20, 0, 0, 0) := by decide +kernel
theorem t30_10 : zT 30 10 = some (.aload_n 0, 1, 0, 0, 0, 0) := by decide +kernel
theorem t30_11 : zT 30 11 = some (.dup, 1, 0, 0, 0, 0) := by decide +kernel
theorem t30_12 : zT 30 12 = some (.getfield 19, 3, 7, 2, 0, 262) := by decide +kernel
theorem t30_15 : zT 30 15 = some (.iconst 1, 1, 0, 0, 1, 0) := by decide +kernel
theorem t30_16 : zT 30 16 = some (.iadd, 1, 0, 0, 0, 0) := by decide +kernel
theorem t30_17 : zT 30 17 = some (.putfield 19, 3, 7, 2, 0, 262) := by decide +kernel
theorem t30_20 : zT 30 20 = some (.iload_n 1, 1, 1, 0, 0, 0) := by decide +kernel
theorem t30_21 : zT 30 21 = some (.ireturn, 1, 0, 0, 0, 0) := by decide +kernel
theorem t31_0 : zT 31 0 = some (.aload_n 0, 1, 0, 0, 0, 0) := by decide +kernel
theorem t31_1 : zT 31 1 = some (.getfield 19, 3, 7, 2, 0, 262) := by decide +kernel
theorem t31_4 : zT 31 4 = some (.ifCond .lt 30, 3, 34, 0, 0, 0) := by decide +kernel
theorem t31_7 : zT 31 7 = some (.aload_n 0, 1, 0, 0, 0, 0) := by decide +kernel
theorem t31_8 : zT 31 8 = some (.getfield 19, 3, 7, 2, 0, 262) := by decide +kernel
theorem t31_11 : zT 31 11 = some (.aload_n 0, 1, 0, 0, 0, 0) := by decide +kernel
theorem t31_12 : zT 31 12 = some (.getfield 15, 3, 7, 1, 0, 261) := by decide +kernel
theorem t31_15 : zT 31 15 = some (.if_icmp .ge 19, 3, 34, 0, 0, 0) := by decide +kernel
theorem t31_18 : zT 31 18 = some (.aload_n 0, 1, 0, 0, 0, 0) := by decide +kernel
theorem t31_19 : zT 31 19 = some (.getfield 9, 3, 7, 0, 0, 260) := by decide +kernel
theorem t31_22 : zT 31 22 = some (.aload_n 0, 1, 0, 0, 0, 0) := by decide +kernel
theorem t31_23 : zT 31 23 = some (.getfield 19, 3, 7, 2, 0, 262) := by decide +kernel
theorem t31_26 : zT 31 26 = some (.baload, 1, 0, 0, 0, 0) := by decide +kernel
theorem t31_27 : zT 31 27 = some (.sipush 255, 3, 0, 0, 255, 0) := by decide +kernel
theorem t31_30 : zT 31 30 = some (.iand, 1, 0, 0, 0, 0) := by decide +kernel
theorem t31_31 : zT 31 31 = some (.goto 4, 3, 35, 0, 0, 0) := by decide +kernel
theorem t31_34 : zT 31 34 = some (.iconst (-1), 1, 0, 0, (-1), 0) := by decide +kernel
theorem t31_35 : zT 31 35 = some (.ireturn, 1, 0, 0, 0, 0) := by decide +kernel
theorem t32_0 : zT 32 0 = some (.iload_n 0, 1, 0, 0, 0, 0) := by decide +kernel
theorem t32_1 : zT 32 1 = some (.tableswitch 91 103 119 #[83, 87, 91, 91, 91, 91, 91, 91, 91, 87, 85, 83, 89, 91, 91, 91, 85], 83, 0, 0, 0, 0) := by decide +kernel
theorem t32_84 : zT 32 84 = some (.iconst 1, 1, 0, 0, 1, 0) := by decide +kernel
theorem t32_85 : zT 32 85 = some (.ireturn, 1, 0, 0, 0, 0) := by decide +kernel
theorem t32_86 : zT 32 86 = some (.iconst 2, 1, 0, 0, 2, 0) := by decide +kernel
theorem t32_87 : zT 32 87 = some (.ireturn, 1, 0, 0, 0, 0) := by decide +kernel
theorem t32_88 : zT 32 88 = some (.iconst 3, 1, 0, 0, 3, 0) := by decide +kernel
theorem t32_89 : zT 32 89 = some (.ireturn, 1, 0, 0, 0, 0) := by decide +kernel
theorem t32_90 : zT 32 90 = some (.iconst 4, 1, 0, 0, 4, 0) := by decide +kernel
theorem t32_91 : zT 32 91 = some (.ireturn, 1, 0, 0, 0, 0) := by decide +kernel
theorem t32_92 : zT 32 92 = some (.iconst 0, 1, 0, 0, 0, 0) := by decide +kernel
theorem t32_93 : zT 32 93 = some (.ireturn, 1, 0, 0, 0, 0) := by decide +kernel
theorem t33_0 : zT 33 0 = some (.iload_n 0, 1, 0, 0, 0, 0) := by decide +kernel
theorem t33_1 : zT 33 1 = some (.lookupswitch 80 #[(104, 50), (112, 65), (114, 35)], 35, 0, 0, 0, 0) := by decide +kernel
theorem t33_36 : zT 33 36 = some (.aload_n 1, 1, 1, 0, 0, 0) := by decide +kernel
theorem t33_37 : zT 33 37 = some (.getfield 73, 3, 6, 0, 0, 154) := by decide +kernel
theorem t33_40 : zT 33 40 = some (.bipush 8, 2, 0, 0, 8, 0) := by decide +kernel
theorem t33_42 : zT 33 42 = some (.if_icmp .lt 7, 3, 49, 0, 0, 0) := by decide +kernel
theorem t33_45 : zT 33 45 = some (.iconst 1, 1, 0, 0, 1, 0) := by decide +kernel
theorem t33_46 : zT 33 46 = some (.goto 4, 3, 50, 0, 0, 0) := by decide +kernel
theorem t33_49 : zT 33 49 = some (.iconst 0, 1, 0, 0, 0, 0) := by decide +kernel
theorem t33_50 : zT 33 50 = some (.ireturn, 1, 0, 0, 0, 0) := by decide +kernel
theorem t33_51 : zT 33 51 = some (.aload_n 1, 1, 1, 0, 0, 0) := by decide +kernel
theorem t33_52 : zT 33 52 = some (.getfield 79, 3, 6, 3, 0, 166) := by decide +kernel
theorem t33_55 : zT 33 55 = some (.bipush 60, 2, 0, 0, 60, 0) := by decide +kernel
theorem t33_57 : zT 33 57 = some (.if_icmp .lt 7, 3, 64, 0, 0, 0) := by decide +kernel
theorem t33_60 : zT 33 60 = some (.iconst 1, 1, 0, 0, 1, 0) := by decide +kernel
theorem t33_61 : zT 33 61 = some (.goto 4, 3, 65, 0, 0, 0) := by decide +kernel
theorem t33_64 : zT 33 64 = some (.iconst 0, 1, 0, 0, 0, 0) := by decide +kernel
theorem t33_65 : zT 33 65 = some (.ireturn, 1, 0, 0, 0, 0) := by decide +kernel
theorem t33_66 : zT 33 66 = some (.aload_n 1, 1, 1, 0, 0, 0) := by decide +kernel
theorem t33_67 : zT 33 67 = some (.getfield 82, 3, 6, 8, 0, 182) := by decide +kernel
theorem t33_70 : zT 33 70 = some (.bipush 12, 2, 0, 0, 12, 0) := by decide +kernel
theorem t33_72 : zT 33 72 = some (.if_icmp .lt 7, 3, 79, 0, 0, 0) := by decide +kernel
theorem t33_75 : zT 33 75 = some (.iconst 1, 1, 0, 0, 1, 0) := by decide +kernel
theorem t33_76 : zT 33 76 = some (.goto 4, 3, 80, 0, 0, 0) := by decide +kernel
theorem t33_79 : zT 33 79 = some (.iconst 0, 1, 0, 0, 0, 0) := by decide +kernel
theorem t33_80 : zT 33 80 = some (.ireturn, 1, 0, 0, 0, 0) := by decide +kernel
theorem t33_81 : zT 33 81 = some (.iconst 0, 1, 0, 0, 0, 0) := by decide +kernel
theorem t33_82 : zT 33 82 = some (.ireturn, 1, 0, 0, 0, 0) := by decide +kernel
theorem t34_0 : zT 34 0 = some (.aload_n 0, 1, 0, 0, 0, 0) := by decide +kernel
theorem t34_1 : zT 34 1 = some (.iload_n 1, 1, 1, 0, 0, 0) := by decide +kernel
theorem t34_2 : zT 34 2 = some (.putfield 22, 3, 7, 3, 0, 263) := by decide +kernel
theorem t34_5 : zT 34 5 = some (.iconst 0, 1, 0, 0, 0, 0) := by decide +kernel
theorem t34_6 : zT 34 6 = some (.ireturn, 1, 0, 0, 0, 0) := by decide +kernel
theorem t35_0 : zT 35 0 = some (.aload_n 0, 1, 0, 0, 0, 0) := by decide +kernel
theorem t35_1 : zT 35 1 = some (.aload_n 0, 1, 0, 0, 0, 0) := by decide +kernel
theorem t35_2 : zT 35 2 = some (.getfield 19, 3, 7, 2, 0, 262) := by decide +kernel
theorem t35_5 : zT 35 5 = some (.putfield 28, 3, 7, 5, 0, 265) := by decide +kernel
theorem t35_8 : zT 35 8 = some (.aload_n 0, 1, 0, 0, 0, 0) := by decide +kernel
theorem t35_9 : zT 35 9 = some (.invokevirtual 40, 3, 31, 0, 0, 709) := by decide +kernel
theorem t35_12 : zT 35 12 = some (.bipush 45, 2, 0, 0, 45, 0) := by decide +kernel
theorem t35_14 : zT 35 14 = some (.if_icmp .ne 7, 3, 21, 0, 0, 0) := by decide +kernel
theorem t35_17 : zT 35 17 = some (.iconst 1, 1, 0, 0, 1, 0) := by decide +kernel
theorem t35_18 : zT 35 18 = some (.goto 4, 3, 22, 0, 0, 0) := by decide +kernel
theorem t35_21 : zT 35 21 = some (.iconst 0, 1, 0, 0, 0, 0) := by decide +kernel
theorem t35_22 : zT 35 22 = some (.istore_n 1, 1, 1, 0, 0, 0) := by decide +kernel
theorem t35_23 : zT 35 23 = some (.iload_n 1, 1, 1, 0, 0, 0) := by decide +kernel
theorem t35_24 : zT 35 24 = some (.ifCond .eq 13, 3, 37, 0, 0, 0) := by decide +kernel
theorem t35_27 : zT 35 27 = some (.aload_n 0, 1, 0, 0, 0, 0) := by decide +kernel
theorem t35_28 : zT 35 28 = some (.dup, 1, 0, 0, 0, 0) := by decide +kernel
theorem t35_29 : zT 35 29 = some (.getfield 19, 3, 7, 2, 0, 262) := by decide +kernel
theorem t35_32 : zT 35 32 = some (.iconst 1, 1, 0, 0, 1, 0) := by decide +kernel
theorem t35_33 : zT 35 33 = some (.iadd, 1, 0, 0, 0, 0) := by decide +kernel
theorem t35_34 : zT 35 34 = some (.putfield 19, 3, 7, 2, 0, 262) := by decide +kernel
theorem t35_37 : zT 35 37 = some (.iconst 0, 1, 0, 0, 0, 0) := by decide +kernel
theorem t35_38 : zT 35 38 = some (.istore_n 2, 1, 2, 0, 0, 0) := by decide +kernel
theorem t35_39 : zT 35 39 = some (.iconst 0, 1, 0, 0, 0, 0) := by decide +kernel
theorem t35_40 : zT 35 40 = some (.istore_n 3, 1, 3, 0, 0, 0) := by decide +kernel
theorem t35_41 : zT 35 41 = some (.iload_n 3, 1, 3, 0, 0, 0) := by decide +kernel
theorem t35_42 : zT 35 42 = some (.iconst 4, 1, 0, 0, 4, 0) := by decide +kernel
theorem t35_43 : zT 35 43 = some (.if_icmp .ge 32, 3, 75, 0, 0, 0) := by decide +kernel
theorem t35_46 : zT 35 46 = some (.aload_n 0, 1, 0, 0, 0, 0) := by decide +kernel
theorem t35_47 : zT 35 47 = some (.invokevirtual 40, 3, 31, 0, 0, 709) := by decide +kernel
theorem t35_50 : zT 35 50 = some (.invokestatic 48, 3, 36, 2, 0, 727) := by decide +kernel
theorem t35_53 : zT 35 53 = some (.ifCond .eq 22, 3, 75, 0, 0, 0) := by decide +kernel
theorem t35_56 : zT 35 56 = some (.iload_n 2, 1, 2, 0, 0, 0) := by decide +kernel
theorem t35_57 : zT 35 57 = some (.bipush 10, 2, 0, 0, 10, 0) := by decide +kernel
theorem t35_59 : zT 35 59 = some (.imul, 1, 0, 0, 0, 0) := by decide +kernel
theorem t35_60 : zT 35 60 = some (.aload_n 0, 1, 0, 0, 0, 0) := by decide +kernel
theorem t35_61 : zT 35 61 = some (.invokevirtual 51, 3, 30, 0, 0, 730) := by decide +kernel
theorem t35_64 : zT 35 64 = some (.iadd, 1, 0, 0, 0, 0) := by decide +kernel
theorem t35_65 : zT 35 65 = some (.bipush 48, 2, 0, 0, 48, 0) := by decide +kernel
theorem t35_67 : zT 35 67 = some (.isub, 1, 0, 0, 0, 0) := by decide +kernel
theorem t35_68 : zT 35 68 = some (.istore_n 2, 1, 2, 0, 0, 0) := by decide +kernel
theorem t35_69 : zT 35 69 = some (.iinc 3 1, 3, 0, 0, 0, 0) := by decide +kernel
theorem t35_72 : zT 35 72 = some (.goto (-31), 3, 41, 0, 0, 0) := by decide +kernel
theorem t35_75 : zT 35 75 = some (.iload_n 3, 1, 3, 0, 0, 0) := by decide +kernel
theorem t35_76 : zT 35 76 = some (.ifCond .eq 13, 3, 89, 0, 0, 0) := by decide +kernel
theorem t35_79 : zT 35 79 = some (.aload_n 0, 1, 0, 0, 0, 0) := by decide +kernel
theorem t35_80 : zT 35 80 = some (.invokevirtual 40, 3, 31, 0, 0, 709) := by decide +kernel
theorem t35_83 : zT 35 83 = some (.invokestatic 48, 3, 36, 2, 0, 727) := by decide +kernel
theorem t35_86 : zT 35 86 = some (.ifCond .eq 12, 3, 98, 0, 0, 0) := by decide +kernel
theorem t35_89 : zT 35 89 = some (.aload_n 0, 1, 0, 0, 0, 0) := by decide +kernel
theorem t35_90 : zT 35 90 = some (.aload_n 0, 1, 0, 0, 0, 0) := by decide +kernel
theorem t35_91 : zT 35 91 = some (.getfield 19, 3, 7, 2, 0, 262) := by decide +kernel
theorem t35_94 : zT 35 94 = some (.invokevirtual 44, 3, 34, 0, 0, 731) := by decide +kernel
theorem t35_97 : zT 35 97 = some (.ireturn, 1, 0, 0, 0, 0) := by decide +kernel
theorem t35_98 : zT 35 98 = some (.aload_n 0, 1, 0, 0, 0, 0) := by decide +kernel
theorem t35_99 : zT 35 99 = some (.iload_n 1, 1, 1, 0, 0, 0) := by decide +kernel
theorem t35_100 : zT 35 100 = some (.ifCond .eq 8, 3, 108, 0, 0, 0) := by decide +kernel
theorem t35_103 : zT 35 103 = some (.iload_n 2, 1, 2, 0, 0, 0) := by decide +kernel
theorem t35_104 : zT 35 104 = some (.ineg, 1, 0, 0, 0, 0) := by decide +kernel
theorem t35_105 : zT 35 105 = some (.goto 4, 3, 109, 0, 0, 0) := by decide +kernel
theorem t35_108 : zT 35 108 = some (.iload_n 2, 1, 2, 0, 0, 0) := by decide +kernel
theorem t35_109 : zT 35 109 = some (.putfield 25, 3, 7, 4, 0, 264) := by decide +kernel
theorem t35_112 : zT 35 112 = some (.iconst 1, 1, 0, 0, 1, 0) := by decide +kernel
theorem t35_113 : zT 35 113 = some (.ireturn, 1, 0, 0, 0, 0) := by decide +kernel
theorem t36_0 : zT 36 0 = some (.iload_n 0, 1, 0, 0, 0, 0) := by decide +kernel
theorem t36_1 : zT 36 1 = some (.bipush 48, 2, 0, 0, 48, 0) := by decide +kernel
theorem t36_3 : zT 36 3 = some (.if_icmp .lt 13, 3, 16, 0, 0, 0) := by decide +kernel
theorem t36_6 : zT 36 6 = some (.iload_n 0, 1, 0, 0, 0, 0) := by decide +kernel
theorem t36_7 : zT 36 7 = some (.bipush 57, 2, 0, 0, 57, 0) := by decide +kernel
theorem t36_9 : zT 36 9 = some (.if_icmp .gt 7, 3, 16, 0, 0, 0) := by decide +kernel
theorem t36_12 : zT 36 12 = some (.iconst 1, 1, 0, 0, 1, 0) := by decide +kernel
theorem t36_13 : zT 36 13 = some (.goto 4, 3, 17, 0, 0, 0) := by decide +kernel
theorem t36_16 : zT 36 16 = some (.iconst 0, 1, 0, 0, 0, 0) := by decide +kernel
theorem t36_17 : zT 36 17 = some (.ireturn, 1, 0, 0, 0, 0) := by decide +kernel
theorem t37_0 : zT 37 0 = some (.aload_n 0, 1, 0, 0, 0, 0) := by decide +kernel
theorem t37_1 : zT 37 1 = some (.getfield 25, 3, 7, 4, 0, 264) := by decide +kernel
theorem t37_4 : zT 37 4 = some (.ireturn, 1, 0, 0, 0, 0) := by decide +kernel
theorem t38_0 : zT 38 0 = some (.iload_n 1, 1, 1, 0, 0, 0) := by decide +kernel
theorem t38_1 : zT 38 1 = some (.lookupswitch 122 #[(104, 78), (112, 86), (114, 43), (119, 92)], 43, 0, 0, 0, 0) := by decide +kernel
theorem t38_44 : zT 38 44 = some (.iload_n 3, 1, 3, 0, 0, 0) := by decide +kernel
theorem t38_45 : zT 38 45 = some (.aload 4, 2, 0, 0, 0, 0) := by decide +kernel
theorem t38_47 : zT 38 47 = some (.getfield 73, 3, 6, 0, 0, 154) := by decide +kernel
theorem t38_50 : zT 38 50 = some (.ifCond .ne 7, 3, 57, 0, 0, 0) := by decide +kernel
theorem t38_53 : zT 38 53 = some (.iconst 1, 1, 0, 0, 1, 0) := by decide +kernel
theorem t38_54 : zT 38 54 = some (.goto 18, 3, 72, 0, 0, 0) := by decide +kernel
theorem t38_57 : zT 38 57 = some (.aload 4, 2, 0, 0, 0, 0) := by decide +kernel
theorem t38_59 : zT 38 59 = some (.getfield 85, 3, 6, 1, 0, 159) := by decide +kernel
theorem t38_62 : zT 38 62 = some (.aload 4, 2, 0, 0, 0, 0) := by decide +kernel
theorem t38_64 : zT 38 64 = some (.getfield 73, 3, 6, 0, 0, 154) := by decide +kernel
theorem t38_67 : zT 38 67 = some (.iconst 1, 1, 0, 0, 1, 0) := by decide +kernel
theorem t38_68 : zT 38 68 = some (.isub, 1, 0, 0, 0, 0) := by decide +kernel
theorem t38_69 : zT 38 69 = some (.iaload, 1, 0, 0, 0, 0) := by decide +kernel
theorem t38_70 : zT 38 70 = some (.iconst 1, 1, 0, 0, 1, 0) := by decide +kernel
theorem t38_71 : zT 38 71 = some (.iadd, 1, 0, 0, 0, 0) := by decide +kernel
theorem t38_72 : zT 38 72 = some (.sipush 999, 3, 0, 0, 999, 0) := by decide +kernel
theorem t38_75 : zT 38 75 = some (.invokestatic 88, 3, 39, 2, 0, 740) := by decide +kernel
theorem t38_78 : zT 38 78 = some (.ireturn, 1, 0, 0, 0, 0) := by decide +kernel
theorem t38_79 : zT 38 79 = some (.iload_n 2, 1, 2, 0, 0, 0) := by decide +kernel
theorem t38_80 : zT 38 80 = some (.iload_n 3, 1, 3, 0, 0, 0) := by decide +kernel
theorem t38_81 : zT 38 81 = some (.aload 4, 2, 0, 0, 0, 0) := by decide +kernel
theorem t38_83 : zT 38 83 = some (.invokestatic 92, 3, 40, 1, 0, 743) := by decide +kernel
theorem t38_86 : zT 38 86 = some (.ireturn, 1, 0, 0, 0, 0) := by decide +kernel
theorem t38_87 : zT 38 87 = some (.iload_n 2, 1, 2, 0, 0, 0) := by decide +kernel
theorem t38_88 : zT 38 88 = some (.iload_n 3, 1, 3, 0, 0, 0) := by decide +kernel
theorem t38_89 : zT 38 89 = some (.invokestatic 96, 3, 43, 1, 0, 753) := by decide +kernel
theorem t38_92 : zT 38 92 = some (.ireturn, 1, 0, 0, 0, 0) := by decide +kernel
theorem t38_93 : zT 38 93 = some (.iconst 5, 1, 0, 0, 5, 0) := by decide +kernel
theorem t38_94 : zT 38 94 = some (.iload_n 2, 1, 2, 0, 0, 0) := by decide +kernel
theorem t38_95 : zT 38 95 = some (.iadd, 1, 0, 0, 0, 0) := by decide +kernel
theorem t38_96 : zT 38 96 = some (.iload_n 3, 1, 3, 0, 0, 0) := by decide +kernel
theorem t38_97 : zT 38 97 = some (.invokestatic 100, 3, 44, 1, 0, 756) := by decide +kernel
theorem t38_100 : zT 38 100 = some (.ifCond .eq 21, 3, 121, 0, 0, 0) := by decide +kernel
theorem t38_103 : zT 38 103 = some (.iload_n 2, 1, 2, 0, 0, 0) := by decide +kernel
theorem t38_104 : zT 38 104 = some (.ifCond .eq 13, 3, 117, 0, 0, 0) := by decide +kernel
theorem t38_107 : zT 38 107 = some (.iload_n 3, 1, 3, 0, 0, 0) := by decide +kernel
theorem t38_108 : zT 38 108 = some (.aload_n 0, 1, 0, 0, 0, 0) := by decide +kernel
theorem t38_109 : zT 38 109 = some (.getfield 11, 3, 3, 0, 0, 285) := by decide +kernel
theorem t38_112 : zT 38 112 = some (.iconst 0, 1, 0, 0, 0, 0) := by decide +kernel
theorem t38_113 : zT 38 113 = some (.iaload, 1, 0, 0, 0, 0) := by decide +kernel
theorem t38_114 : zT 38 114 = some (.if_icmp .lt 7, 3, 121, 0, 0, 0) := by decide +kernel
theorem t38_117 : zT 38 117 = some (.iconst 1, 1, 0, 0, 1, 0) := by decide +kernel
theorem t38_118 : zT 38 118 = some (.goto 4, 3, 122, 0, 0, 0) := by decide +kernel
theorem t38_121 : zT 38 121 = some (.iconst 0, 1, 0, 0, 0, 0) := by decide +kernel
theorem t38_122 : zT 38 122 = some (.ireturn, 1, 0, 0, 0, 0) := by decide +kernel
theorem t38_123 : zT 38 123 = some (.iload_n 1, 1, 1, 0, 0, 0) := by decide +kernel
theorem t38_124 : zT 38 124 = some (.invokestatic 103, 3, 45, 1, 0, 763) := by decide +kernel
theorem t38_127 : zT 38 127 = some (.iload_n 2, 1, 2, 0, 0, 0) := by decide +kernel
theorem t38_128 : zT 38 128 = some (.iadd, 1, 0, 0, 0, 0) := by decide +kernel
theorem t38_129 : zT 38 129 = some (.iload_n 3, 1, 3, 0, 0, 0) := by decide +kernel
theorem t38_130 : zT 38 130 = some (.invokestatic 100, 3, 44, 1, 0, 756) := by decide +kernel
theorem t38_133 : zT 38 133 = some (.ireturn, 1, 0, 0, 0, 0) := by decide +kernel
theorem t39_0 : zT 39 0 = some (.iload_n 0, 1, 0, 0, 0, 0) := by decide +kernel
theorem t39_1 : zT 39 1 = some (.iload_n 1, 1, 1, 0, 0, 0) := by decide +kernel
theorem t39_2 : zT 39 2 = some (.if_icmp .lt 12, 3, 14, 0, 0, 0) := by decide +kernel
theorem t39_5 : zT 39 5 = some (.iload_n 0, 1, 0, 0, 0, 0) := by decide +kernel
theorem t39_6 : zT 39 6 = some (.iload_n 2, 1, 2, 0, 0, 0) := by decide +kernel
theorem t39_7 : zT 39 7 = some (.if_icmp .gt 7, 3, 14, 0, 0, 0) := by decide +kernel
theorem t39_10 : zT 39 10 = some (.iconst 1, 1, 0, 0, 1, 0) := by decide +kernel
theorem t39_11 : zT 39 11 = some (.goto 4, 3, 15, 0, 0, 0) := by decide +kernel
theorem t39_14 : zT 39 14 = some (.iconst 0, 1, 0, 0, 0, 0) := by decide +kernel
theorem t39_15 : zT 39 15 = some (.ireturn, 1, 0, 0, 0, 0) := by decide +kernel
theorem t40_0 : zT 40 0 = some (.iload_n 0, 1, 0, 0, 0, 0) := by decide +kernel
theorem t40_1 : zT 40 1 = some (.ifCond .ne 9, 3, 10, 0, 0, 0) := by decide +kernel
theorem t40_4 : zT 40 4 = some (.aload_n 2, 1, 2, 0, 0, 0) := by decide +kernel
theorem t40_5 : zT 40 5 = some (.iload_n 1, 1, 1, 0, 0, 0) := by decide +kernel
theorem t40_6 : zT 40 6 = some (.invokevirtual 106, 3, 41, 0, 0, 746) := by decide +kernel
theorem t40_9 : zT 40 9 = some (.ireturn, 1, 0, 0, 0, 0) := by decide +kernel
theorem t40_10 : zT 40 10 = some (.iload_n 0, 1, 0, 0, 0, 0) := by decide +kernel
theorem t40_11 : zT 40 11 = some (.iconst 1, 1, 0, 0, 1, 0) := by decide +kernel
theorem t40_12 : zT 40 12 = some (.if_icmp .ne 10, 3, 22, 0, 0, 0) := by decide +kernel
theorem t40_15 : zT 40 15 = some (.iload_n 1, 1, 1, 0, 0, 0) := by decide +kernel
theorem t40_16 : zT 40 16 = some (.invokestatic 109, 3, 42, 2, 0, 750) := by decide +kernel
theorem t40_19 : zT 40 19 = some (.goto 11, 3, 30, 0, 0, 0) := by decide +kernel
theorem t40_22 : zT 40 22 = some (.iload_n 1, 1, 1, 0, 0, 0) := by decide +kernel
theorem t40_23 : zT 40 23 = some (.iconst 0, 1, 0, 0, 0, 0) := by decide +kernel
theorem t40_24 : zT 40 24 = some (.sipush 999, 3, 0, 0, 999, 0) := by decide +kernel
theorem t40_27 : zT 40 27 = some (.invokestatic 88, 3, 39, 2, 0, 740) := by decide +kernel
theorem t40_30 : zT 40 30 = some (.ireturn, 1, 0, 0, 0, 0) := by decide +kernel
theorem t41_0 : zT 41 0 = some (.iload_n 1, 1, 1, 0, 0, 0) := by decide +kernel
theorem t41_1 : zT 41 1 = some (.ifCond .lt 15, 3, 16, 0, 0, 0) := by decide +kernel
theorem t41_4 : zT 41 4 = some (.iload_n 1, 1, 1, 0, 0, 0) := by decide +kernel
theorem t41_5 : zT 41 5 = some (.aload_n 0, 1, 0, 0, 0, 0) := by decide +kernel
theorem t41_6 : zT 41 6 = some (.getfield 9, 3, 6, 0, 0, 151) := by decide +kernel
theorem t41_9 : zT 41 9 = some (.if_icmp .ge 7, 3, 16, 0, 0, 0) := by decide +kernel
theorem t41_12 : zT 41 12 = some (.iconst 1, 1, 0, 0, 1, 0) := by decide +kernel
theorem t41_13 : zT 41 13 = some (.goto 4, 3, 17, 0, 0, 0) := by decide +kernel
theorem t41_16 : zT 41 16 = some (.iconst 0, 1, 0, 0, 0, 0) := by decide +kernel
theorem t41_17 : zT 41 17 = some (.ireturn, 1, 0, 0, 0, 0) := by decide +kernel
theorem t42_0 : zT 42 0 = some (.iload_n 0, 1, 0, 0, 0, 0) := by decide +kernel
theorem t42_1 : zT 42 1 = some (.sipush (-9999), 3, 0, 0, (-9999), 0) := by decide +kernel
theorem t42_4 : zT 42 4 = some (.if_icmp .lt 14, 3, 18, 0, 0, 0) := by decide +kernel
theorem t42_7 : zT 42 7 = some (.iload_n 0, 1, 0, 0, 0, 0) := by decide +kernel
theorem t42_8 : zT 42 8 = some (.sipush 9999, 3, 0, 0, 9999, 0) := by decide +kernel
theorem t42_11 : zT 42 11 = some (.if_icmp .gt 7, 3, 18, 0, 0, 0) := by decide +kernel
theorem t42_14 : zT 42 14 = some (.iconst 1, 1, 0, 0, 1, 0) := by decide +kernel
theorem t42_15 : zT 42 15 = some (.goto 4, 3, 19, 0, 0, 0) := by decide +kernel
theorem t42_18 : zT 42 18 = some (.iconst 0, 1, 0, 0, 0, 0) := by decide +kernel
theorem t42_19 : zT 42 19 = some (.ireturn, 1, 0, 0, 0, 0) := by decide +kernel
theorem t43_0 : zT 43 0 = some (.iload_n 0, 1, 0, 0, 0, 0) := by decide +kernel
theorem t43_1 : zT 43 1 = some (.ifCond .ne 8, 3, 9, 0, 0, 0) := by decide +kernel
theorem t43_4 : zT 43 4 = some (.iload_n 1, 1, 1, 0, 0, 0) := by decide +kernel
theorem t43_5 : zT 43 5 = some (.invokestatic 109, 3, 42, 2, 0, 750) := by decide +kernel
theorem t43_8 : zT 43 8 = some (.ireturn, 1, 0, 0, 0, 0) := by decide +kernel
theorem t43_9 : zT 43 9 = some (.iload_n 0, 1, 0, 0, 0, 0) := by decide +kernel
theorem t43_10 : zT 43 10 = some (.iconst 1, 1, 0, 0, 1, 0) := by decide +kernel
theorem t43_11 : zT 43 11 = some (.if_icmp .ne 14, 3, 25, 0, 0, 0) := by decide +kernel
theorem t43_14 : zT 43 14 = some (.iload_n 1, 1, 1, 0, 0, 0) := by decide +kernel
theorem t43_15 : zT 43 15 = some (.bipush (-50), 2, 0, 0, (-50), 0) := by decide +kernel
theorem t43_17 : zT 43 17 = some (.bipush 50, 2, 0, 0, 50, 0) := by decide +kernel
theorem t43_19 : zT 43 19 = some (.invokestatic 88, 3, 39, 2, 0, 740) := by decide +kernel
theorem t43_22 : zT 43 22 = some (.goto 10, 3, 32, 0, 0, 0) := by decide +kernel
theorem t43_25 : zT 43 25 = some (.iload_n 1, 1, 1, 0, 0, 0) := by decide +kernel
theorem t43_26 : zT 43 26 = some (.bipush (-5), 2, 0, 0, (-5), 0) := by decide +kernel
theorem t43_28 : zT 43 28 = some (.iconst 5, 1, 0, 0, 5, 0) := by decide +kernel
theorem t43_29 : zT 43 29 = some (.invokestatic 88, 3, 39, 2, 0, 740) := by decide +kernel
theorem t43_32 : zT 43 32 = some (.ireturn, 1, 0, 0, 0, 0) := by decide +kernel
theorem t44_0 : zT 44 0 = some (.iload_n 0, 1, 0, 0, 0, 0) := by decide +kernel
theorem t44_1 : zT 44 1 = some (.ifCond .lt 30, 3, 31, 0, 0, 0) := by decide +kernel
theorem t44_4 : zT 44 4 = some (.iload_n 0, 1, 0, 0, 0, 0) := by decide +kernel
theorem t44_5 : zT 44 5 = some (.bipush 9, 2, 0, 0, 9, 0) := by decide +kernel
theorem t44_7 : zT 44 7 = some (.if_icmp .ge 24, 3, 31, 0, 0, 0) := by decide +kernel
theorem t44_10 : zT 44 10 = some (.iload_n 1, 1, 1, 0, 0, 0) := by decide +kernel
theorem t44_11 : zT 44 11 = some (.getstatic 112, 3, 1, 1, 0, 759) := by decide +kernel
theorem t44_14 : zT 44 14 = some (.iload_n 0, 1, 0, 0, 0, 0) := by decide +kernel
theorem t44_15 : zT 44 15 = some (.iaload, 1, 0, 0, 0, 0) := by decide +kernel
theorem t44_16 : zT 44 16 = some (.getstatic 115, 3, 2, 1, 0, 761) := by decide +kernel
theorem t44_19 : zT 44 19 = some (.iload_n 0, 1, 0, 0, 0, 0) := by decide +kernel
theorem t44_20 : zT 44 20 = some (.iaload, 1, 0, 0, 0, 0) := by decide +kernel
theorem t44_21 : zT 44 21 = some (.invokestatic 88, 3, 39, 2, 0, 740) := by decide +kernel
theorem t44_24 : zT 44 24 = some (.ifCond .eq 7, 3, 31, 0, 0, 0) := by decide +kernel
theorem t44_27 : zT 44 27 = some (.iconst 1, 1, 0, 0, 1, 0) := by decide +kernel
theorem t44_28 : zT 44 28 = some (.goto 4, 3, 32, 0, 0, 0) := by decide +kernel
