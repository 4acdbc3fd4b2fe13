/-! the reference: layFound and the scalar -/
def mt_memL : List (List Int) := [[1, 0, 0, 0, 0, 0, 0, 0, 0, 0, 0, 0, 0, 0, 0, 0, 0, 0, 0, 0, 0, 0, 0, 0, 0, 0, 0, 0, 0, 0], [0, 1, 0, 0, 0, 0, 0, 0, 0, 0, 0, 0, 0, 0, 0, 0, 0, 0, 0, 0, 0, 0, 0, 0, 0, 0, 0, 0, 0, 0], [0, 0, 1, 0, 0, 0, 0, 0, 0, 0, 0, 0, 0, 0, 0, 0, 0, 0, 0, 0, 0, 0, 0, 0, 0, 0, 0, 0, 0, 0], [0, 0, 0, 1, 0, 0, 0, 0, 0, 0, 0, 0, 0, 0, 0, 0, 0, 0, 0, 0, 0, 0, 0, 0, 0, 0, 0, 0, 0, 0], [0, 0, 0, 0, 1, 0, 0, 0, 0, 0, 0, 0, 0, 0, 0, 0, 0, 0, 0, 0, 0, 0, 0, 0, 0, 0, 0, 0, 0, 0], [0, 0, 0, 0, 0, 1, 0, 0, 0, 0, 0, 0, 0, 0, 0, 0, 0, 0, 0, 0, 0, 0, 0, 0, 0, 0, 0, 0, 0, 0], [0, 0, 0, 0, 0, 0, 1, 0, 0, 0, 0, 0, 0, 0, 0, 0, 0, 0, 0, 0, 0, 0, 0, 0, 0, 0, 0, 0, 0, 0], [0, 0, 0, 0, 0, 0, 0, 1, 0, 0, 0, 0, 0, 0, 0, 0, 0, 0, 0, 0, 0, 0, 0, 0, 0, 0, 0, 0, 0, 0], [0, 0, 0, 0, 0, 0, 0, 0, 1, 0, 0, 0, 0, 0, 0, 0, 0, 0, 0, 0, 0, 0, 0, 0, 0, 0, 0, 0, 0, 0], [0, 0, 0, 0, 0, 0, 0, 0, 0, 1, 0, 0, 0, 0, 0, 0, 0, 0, 0, 0, 0, 0, 0, 0, 0, 0, 0, 0, 0, 0], [0, 0, 0, 0, 0, 0, 0, 0, 0, 0, 1, 0, 0, 0, 0, 0, 0, 0, 0, 0, 0, 0, 0, 0, 0, 0, 0, 0, 0, 0], [0, 0, 0, 0, 0, 0, 0, 0, 0, 0, 0, 1, 0, 0, 0, 0, 0, 0, 0, 0, 0, 0, 0, 0, 0, 0, 0, 0, 0, 0], [0, 0, 0, 0, 0, 0, 0, 0, 0, 0, 0, 0, 1, 0, 0, 0, 0, 0, 0, 0, 0, 0, 0, 0, 0, 0, 0, 0, 0, 0], [0, 0, 0, 0, 0, 0, 0, 0, 0, 0, 0, 0, 0, 1, 0, 0, 0, 0, 0, 0, 0, 0, 0, 0, 0, 0, 0, 0, 0, 0], [0, 0, 0, 0, 0, 0, 0, 0, 0, 0, 0, 0, 0, 0, 1, 0, 0, 0, 0, 0, 0, 0, 0, 0, 0, 0, 0, 0, 0, 0], [0, 0, 0, 0, 0, 0, 0, 0, 0, 0, 0, 0, 0, 0, 0, 1, 0, 0, 0, 0, 0, 0, 0, 0, 0, 0, 0, 0, 0, 0], [0, 0, 0, 0, 0, 0, 0, 0, 0, 0, 0, 0, 0, 0, 0, 0, 1, 0, 0, 0, 0, 0, 0, 0, 0, 0, 0, 0, 0, 0], [0, 0, 0, 0, 0, 0, 0, 0, 0, 0, 0, 0, 0, 0, 0, 0, 0, 1, 0, 0, 0, 0, 0, 0, 0, 0, 0, 0, 0, 0], [0, 0, 0, 0, 0, 0, 0, 0, 0, 0, 0, 0, 0, 0, 0, 0, 0, 0, 1, 0, 0, 0, 0, 0, 0, 0, 0, 0, 0, 0], [0, 0, 0, 0, 0, 0, 0, 0, 0, 0, 0, 0, 0, 0, 0, 0, 0, 0, 0, 1, 0, 0, 0, 0, 0, 0, 0, 0, 0, 0], [0, 0, 0, 0, 0, 0, 0, 0, 0, 0, 0, 0, 0, 0, 0, 0, 0, 0, 0, 0, 1, 0, 0, 0, 0, 0, 0, 0, 0, 0], [0, 0, 0, 0, 0, 0, 0, 0, 0, 0, 0, 0, 0, 0, 0, 0, 0, 0, 0, 0, 0, 1, 0, 0, 0, 0, 0, 0, 0, 0], [0, 0, 0, 0, 0, 0, 0, 0, 0, 0, 0, 0, 0, 0, 0, 0, 0, 0, 0, 0, 0, 0, 1, 0, 0, 0, 0, 0, 0, 0], [0, 0, 0, 0, 0, 0, 0, 0, 0, 0, 0, 0, 0, 0, 0, 0, 0, 0, 0, 0, 0, 0, 0, 1, 0, 0, 0, 0, 0, 0], [0, 0, 0, 0, 0, 0, 0, 0, 0, 0, 0, 0, 0, 0, 0, 0, 0, 0, 0, 0, 0, 0, 0, 0, 1, 0, 0, 0, 0, 0], [0, 0, 0, 0, 0, 0, 0, 0, 0, 0, 0, 0, 0, 0, 0, 0, 0, 0, 0, 0, 0, 0, 0, 0, 0, 1, 0, 0, 0, 0], [0, 0, 0, 0, 0, 0, 0, 0, 0, 0, 0, 0, 0, 0, 0, 0, 0, 0, 0, 0, 0, 0, 0, 0, 0, 0, 1, 0, 0, 0], [0, 0, 0, 0, 0, 0, 0, 0, 0, 0, 0, 0, 0, 0, 0, 0, 0, 0, 0, 0, 0, 0, 0, 0, 0, 0, 0, 1, 0, 0], [0, 0, 0, 0, 0, 0, 0, 0, 0, 0, 0, 0, 0, 0, 0, 0, 0, 0, 0, 0, 0, 0, 0, 0, 0, 0, 0, 0, 1, 0], [0, 0, 0, 0, 0, 0, 0, 0, 0, 0, 0, 0, 0, 0, 0, 0, 0, 0, 0, 0, 0, 0, 0, 0, 0, 0, 0, 0, 0, 1], [1, 0, 0, 0, 0, 0, 0, 0, 0, 0, 0, 0, 0, 0, 0, 0, 0, 0, 0, 0, 0, 0, 0, 0, 0, 0, 0, 0, 0, 0], [0, 1, 0, 0, 0, 0, 0, 0, 0, 0, 0, 0, 0, 0, 0, 0, 0, 0, 0, 0, 0, 0, 0, 0, 0, 0, 0, 0, 0, 0], [0, 0, 0, 1, 0, 0, 0, 0, 0, 0, 0, 0, 0, 0, 0, 0, 0, 0, 0, 0, 0, 0, 0, 0, 0, 0, 0, 0, 0, 0], [0, 0, 1, 2, 0, 0, 0, 0, 0, 0, 0, 0, 0, 0, 0, 0, 0, 0, 0, 0, 0, 0, 0, 0, 0, 0, 0, 0, 0, 0], [0, 0, 0, 0, 0, 0, 1, 0, 0, 0, 0, 0, 0, 0, 0, 0, 0, 0, 0, 0, 0, 0, 0, 0, 0, 0, 0, 0, 0, 0], [0, 0, 0, 0, 0, 1, 3, 0, 0, 0, 0, 0, 0, 0, 0, 0, 0, 0, 0, 0, 0, 0, 0, 0, 0, 0, 0, 0, 0, 0], [0, 0, 0, 0, 1, 3, 6, 0, 0, 0, 0, 0, 0, 0, 0, 0, 0, 0, 0, 0, 0, 0, 0, 0, 0, 0, 0, 0, 0, 0], [0, 0, 0, 0, 0, 0, 0, 0, 0, 0, 0, 1, 0, 0, 0, 0, 0, 0, 0, 0, 0, 0, 0, 0, 0, 0, 0, 0, 0, 0], [0, 0, 0, 0, 0, 0, 0, 0, 0, 0, 1, 4, 0, 0, 0, 0, 0, 0, 0, 0, 0, 0, 0, 0, 0, 0, 0, 0, 0, 0], [0, 0, 0, 0, 0, 0, 0, 0, 0, 1, 2, 6, 0, 0, 0, 0, 0, 0, 0, 0, 0, 0, 0, 0, 0, 0, 0, 0, 0, 0], [0, 0, 0, 0, 0, 0, 0, 0, 1, 2, 5, 12, 0, 0, 0, 0, 0, 0, 0, 0, 0, 0, 0, 0, 0, 0, 0, 0, 0, 0], [0, 0, 0, 0, 0, 0, 0, 1, 4, 6, 12, 24, 0, 0, 0, 0, 0, 0, 0, 0, 0, 0, 0, 0, 0, 0, 0, 0, 0, 0], [0, 0, 0, 0, 0, 0, 0, 0, 0, 0, 0, 0, 0, 0, 0, 0, 0, 0, 1, 0, 0, 0, 0, 0, 0, 0, 0, 0, 0, 0], [0, 0, 0, 0, 0, 0, 0, 0, 0, 0, 0, 0, 0, 0, 0, 0, 0, 1, 5, 0, 0, 0, 0, 0, 0, 0, 0, 0, 0, 0], [0, 0, 0, 0, 0, 0, 0, 0, 0, 0, 0, 0, 0, 0, 0, 0, 1, 3, 10, 0, 0, 0, 0, 0, 0, 0, 0, 0, 0, 0], [0, 0, 0, 0, 0, 0, 0, 0, 0, 0, 0, 0, 0, 0, 0, 1, 2, 7, 20, 0, 0, 0, 0, 0, 0, 0, 0, 0, 0, 0], [0, 0, 0, 0, 0, 0, 0, 0, 0, 0, 0, 0, 0, 0, 1, 2, 5, 12, 30, 0, 0, 0, 0, 0, 0, 0, 0, 0, 0, 0], [0, 0, 0, 0, 0, 0, 0, 0, 0, 0, 0, 0, 0, 1, 3, 7, 12, 27, 60, 0, 0, 0, 0, 0, 0, 0, 0, 0, 0, 0], [0, 0, 0, 0, 0, 0, 0, 0, 0, 0, 0, 0, 1, 5, 10, 20, 30, 60, 120, 0, 0, 0, 0, 0, 0, 0, 0, 0, 0, 0], [0, 0, 0, 0, 0, 0, 0, 0, 0, 0, 0, 0, 0, 0, 0, 0, 0, 0, 0, 0, 0, 0, 0, 0, 0, 0, 0, 0, 0, 1], [0, 0, 0, 0, 0, 0, 0, 0, 0, 0, 0, 0, 0, 0, 0, 0, 0, 0, 0, 0, 0, 0, 0, 0, 0, 0, 0, 0, 1, 6], [0, 0, 0, 0, 0, 0, 0, 0, 0, 0, 0, 0, 0, 0, 0, 0, 0, 0, 0, 0, 0, 0, 0, 0, 0, 0, 0, 1, 4, 15], [0, 0, 0, 0, 0, 0, 0, 0, 0, 0, 0, 0, 0, 0, 0, 0, 0, 0, 0, 0, 0, 0, 0, 0, 0, 1, 0, 2, 9, 30], [0, 0, 0, 0, 0, 0, 0, 0, 0, 0, 0, 0, 0, 0, 0, 0, 0, 0, 0, 0, 0, 0, 0, 0, 0, 0, 1, 2, 6, 20], [0, 0, 0, 0, 0, 0, 0, 0, 0, 0, 0, 0, 0, 0, 0, 0, 0, 0, 0, 0, 0, 0, 0, 0, 1, 3, 3, 8, 22, 60], [0, 0, 0, 0, 0, 0, 0, 0, 0, 0, 0, 0, 0, 0, 0, 0, 0, 0, 0, 0, 0, 0, 1, 0, 3, 10, 6, 18, 48, 120], [0, 0, 0, 0, 0, 0, 0, 0, 0, 0, 0, 0, 0, 0, 0, 0, 0, 0, 0, 0, 0, 0, 0, 1, 3, 6, 6, 15, 36, 90], [0, 0, 0, 0, 0, 0, 0, 0, 0, 0, 0, 0, 0, 0, 0, 0, 0, 0, 0, 0, 0, 1, 2, 2, 8, 18, 15, 34, 78, 180], [0, 0, 0, 0, 0, 0, 0, 0, 0, 0, 0, 0, 0, 0, 0, 0, 0, 0, 0, 0, 1, 4, 9, 6, 22, 48, 36, 78, 168, 360], [0, 0, 0, 0, 0, 0, 0, 0, 0, 0, 0, 0, 0, 0, 0, 0, 0, 0, 0, 1, 6, 15, 30, 20, 60, 120, 90, 180, 360, 720], [1, 0, 0, 0, 0, 0, 0, 0, 0, 0, 0, 0, 0, 0, 0, 0, 0, 0, 0, 0, 0, 0, 0, 0, 0, 0, 0, 0, 0, 0], [0, 1, 0, 0, 0, 0, 0, 0, 0, 0, 0, 0, 0, 0, 0, 0, 0, 0, 0, 0, 0, 0, 0, 0, 0, 0, 0, 0, 0, 0], [0, 0, 1, 1, 0, 0, 0, 0, 0, 0, 0, 0, 0, 0, 0, 0, 0, 0, 0, 0, 0, 0, 0, 0, 0, 0, 0, 0, 0, 0], [0, 0, 1, 2, 0, 0, 0, 0, 0, 0, 0, 0, 0, 0, 0, 0, 0, 0, 0, 0, 0, 0, 0, 0, 0, 0, 0, 0, 0, 0], [0, 0, 0, 0, 1, 1, 1, 0, 0, 0, 0, 0, 0, 0, 0, 0, 0, 0, 0, 0, 0, 0, 0, 0, 0, 0, 0, 0, 0, 0], [0, 0, 0, 0, 1, 2, 3, 0, 0, 0, 0, 0, 0, 0, 0, 0, 0, 0, 0, 0, 0, 0, 0, 0, 0, 0, 0, 0, 0, 0], [0, 0, 0, 0, 1, 3, 6, 0, 0, 0, 0, 0, 0, 0, 0, 0, 0, 0, 0, 0, 0, 0, 0, 0, 0, 0, 0, 0, 0, 0], [0, 0, 0, 0, 0, 0, 0, 1, 1, 1, 1, 1, 0, 0, 0, 0, 0, 0, 0, 0, 0, 0, 0, 0, 0, 0, 0, 0, 0, 0], [0, 0, 0, 0, 0, 0, 0, 1, 2, 2, 3, 4, 0, 0, 0, 0, 0, 0, 0, 0, 0, 0, 0, 0, 0, 0, 0, 0, 0, 0], [0, 0, 0, 0, 0, 0, 0, 1, 2, 3, 4, 6, 0, 0, 0, 0, 0, 0, 0, 0, 0, 0, 0, 0, 0, 0, 0, 0, 0, 0], [0, 0, 0, 0, 0, 0, 0, 1, 3, 4, 7, 12, 0, 0, 0, 0, 0, 0, 0, 0, 0, 0, 0, 0, 0, 0, 0, 0, 0, 0], [0, 0, 0, 0, 0, 0, 0, 1, 4, 6, 12, 24, 0, 0, 0, 0, 0, 0, 0, 0, 0, 0, 0, 0, 0, 0, 0, 0, 0, 0], [0, 0, 0, 0, 0, 0, 0, 0, 0, 0, 0, 0, 1, 1, 1, 1, 1, 1, 1, 0, 0, 0, 0, 0, 0, 0, 0, 0, 0, 0], [0, 0, 0, 0, 0, 0, 0, 0, 0, 0, 0, 0, 1, 2, 2, 3, 3, 4, 5, 0, 0, 0, 0, 0, 0, 0, 0, 0, 0, 0], [0, 0, 0, 0, 0, 0, 0, 0, 0, 0, 0, 0, 1, 2, 3, 4, 5, 7, 10, 0, 0, 0, 0, 0, 0, 0, 0, 0, 0, 0], [0, 0, 0, 0, 0, 0, 0, 0, 0, 0, 0, 0, 1, 3, 4, 7, 8, 13, 20, 0, 0, 0, 0, 0, 0, 0, 0, 0, 0, 0], [0, 0, 0, 0, 0, 0, 0, 0, 0, 0, 0, 0, 1, 3, 5, 8, 11, 18, 30, 0, 0, 0, 0, 0, 0, 0, 0, 0, 0, 0], [0, 0, 0, 0, 0, 0, 0, 0, 0, 0, 0, 0, 1, 4, 7, 13, 18, 33, 60, 0, 0, 0, 0, 0, 0, 0, 0, 0, 0, 0], [0, 0, 0, 0, 0, 0, 0, 0, 0, 0, 0, 0, 1, 5, 10, 20, 30, 60, 120, 0, 0, 0, 0, 0, 0, 0, 0, 0, 0, 0], [0, 0, 0, 0, 0, 0, 0, 0, 0, 0, 0, 0, 0, 0, 0, 0, 0, 0, 0, 1, 1, 1, 1, 1, 1, 1, 1, 1, 1, 1], [0, 0, 0, 0, 0, 0, 0, 0, 0, 0, 0, 0, 0, 0, 0, 0, 0, 0, 0, 1, 2, 2, 3, 2, 3, 4, 3, 4, 5, 6], [0, 0, 0, 0, 0, 0, 0, 0, 0, 0, 0, 0, 0, 0, 0, 0, 0, 0, 0, 1, 2, 3, 4, 3, 5, 7, 6, 8, 11, 15], [0, 0, 0, 0, 0, 0, 0, 0, 0, 0, 0, 0, 0, 0, 0, 0, 0, 0, 0, 1, 3, 4, 7, 4, 8, 13, 9, 14, 21, 30], [0, 0, 0, 0, 0, 0, 0, 0, 0, 0, 0, 0, 0, 0, 0, 0, 0, 0, 0, 1, 2, 3, 4, 4, 6, 8, 7, 10, 14, 20], [0, 0, 0, 0, 0, 0, 0, 0, 0, 0, 0, 0, 0, 0, 0, 0, 0, 0, 0, 1, 3, 5, 8, 6, 12, 19, 15, 24, 38, 60], [0, 0, 0, 0, 0, 0, 0, 0, 0, 0, 0, 0, 0, 0, 0, 0, 0, 0, 0, 1, 4, 7, 13, 8, 19, 34, 24, 42, 72, 120], [0, 0, 0, 0, 0, 0, 0, 0, 0, 0, 0, 0, 0, 0, 0, 0, 0, 0, 0, 1, 3, 6, 9, 7, 15, 24, 21, 33, 54, 90], [0, 0, 0, 0, 0, 0, 0, 0, 0, 0, 0, 0, 0, 0, 0, 0, 0, 0, 0, 1, 4, 8, 14, 10, 24, 42, 33, 58, 102, 180], [0, 0, 0, 0, 0, 0, 0, 0, 0, 0, 0, 0, 0, 0, 0, 0, 0, 0, 0, 1, 5, 11, 21, 14, 38, 72, 54, 102, 192, 360], [0, 0, 0, 0, 0, 0, 0, 0, 0, 0, 0, 0, 0, 0, 0, 0, 0, 0, 0, 1, 6, 15, 30, 20, 60, 120, 90, 180, 360, 720], [1, 0, 0, 0, 0, 0, 0, 0, 0, 0, 0, 0, 0, 0, 0, 0, 0, 0, 0, 0, 0, 0, 0, 0, 0, 0, 0, 0, 0, 0], [0, 1, 0, 0, 0, 0, 0, 0, 0, 0, 0, 0, 0, 0, 0, 0, 0, 0, 0, 0, 0, 0, 0, 0, 0, 0, 0, 0, 0, 0], [0, 0, 1, 0, 0, 0, 0, 0, 0, 0, 0, 0, 0, 0, 0, 0, 0, 0, 0, 0, 0, 0, 0, 0, 0, 0, 0, 0, 0, 0], [0, 0, 1, 2, 0, 0, 0, 0, 0, 0, 0, 0, 0, 0, 0, 0, 0, 0, 0, 0, 0, 0, 0, 0, 0, 0, 0, 0, 0, 0], [0, 0, 0, 0, 1, 0, 0, 0, 0, 0, 0, 0, 0, 0, 0, 0, 0, 0, 0, 0, 0, 0, 0, 0, 0, 0, 0, 0, 0, 0], [0, 0, 0, 0, 1, 1, 0, 0, 0, 0, 0, 0, 0, 0, 0, 0, 0, 0, 0, 0, 0, 0, 0, 0, 0, 0, 0, 0, 0, 0], [0, 0, 0, 0, 1, 3, 6, 0, 0, 0, 0, 0, 0, 0, 0, 0, 0, 0, 0, 0, 0, 0, 0, 0, 0, 0, 0, 0, 0, 0], [0, 0, 0, 0, 0, 0, 0, 1, 0, 0, 0, 0, 0, 0, 0, 0, 0, 0, 0, 0, 0, 0, 0, 0, 0, 0, 0, 0, 0, 0], [0, 0, 0, 0, 0, 0, 0, 1, 1, 0, 0, 0, 0, 0, 0, 0, 0, 0, 0, 0, 0, 0, 0, 0, 0, 0, 0, 0, 0, 0], [0, 0, 0, 0, 0, 0, 0, 1, 0, 2, 0, 0, 0, 0, 0, 0, 0, 0, 0, 0, 0, 0, 0, 0, 0, 0, 0, 0, 0, 0], [0, 0, 0, 0, 0, 0, 0, 1, 2, 2, 2, 0, 0, 0, 0, 0, 0, 0, 0, 0, 0, 0, 0, 0, 0, 0, 0, 0, 0, 0], [0, 0, 0, 0, 0, 0, 0, 1, 4, 6, 12, 24, 0, 0, 0, 0, 0, 0, 0, 0, 0, 0, 0, 0, 0, 0, 0, 0, 0, 0], [0, 0, 0, 0, 0, 0, 0, 0, 0, 0, 0, 0, 1, 0, 0, 0, 0, 0, 0, 0, 0, 0, 0, 0, 0, 0, 0, 0, 0, 0], [0, 0, 0, 0, 0, 0, 0, 0, 0, 0, 0, 0, 1, 1, 0, 0, 0, 0, 0, 0, 0, 0, 0, 0, 0, 0, 0, 0, 0, 0], [0, 0, 0, 0, 0, 0, 0, 0, 0, 0, 0, 0, 1, 0, 1, 0, 0, 0, 0, 0, 0, 0, 0, 0, 0, 0, 0, 0, 0, 0], [0, 0, 0, 0, 0, 0, 0, 0, 0, 0, 0, 0, 1, 2, 1, 2, 0, 0, 0, 0, 0, 0, 0, 0, 0, 0, 0, 0, 0, 0], [0, 0, 0, 0, 0, 0, 0, 0, 0, 0, 0, 0, 1, 1, 2, 0, 2, 0, 0, 0, 0, 0, 0, 0, 0, 0, 0, 0, 0, 0], [0, 0, 0, 0, 0, 0, 0, 0, 0, 0, 0, 0, 1, 3, 4, 6, 6, 6, 0, 0, 0, 0, 0, 0, 0, 0, 0, 0, 0, 0], [0, 0, 0, 0, 0, 0, 0, 0, 0, 0, 0, 0, 1, 5, 10, 20, 30, 60, 120, 0, 0, 0, 0, 0, 0, 0, 0, 0, 0, 0], [0, 0, 0, 0, 0, 0, 0, 0, 0, 0, 0, 0, 0, 0, 0, 0, 0, 0, 0, 1, 0, 0, 0, 0, 0, 0, 0, 0, 0, 0], [0, 0, 0, 0, 0, 0, 0, 0, 0, 0, 0, 0, 0, 0, 0, 0, 0, 0, 0, 1, 1, 0, 0, 0, 0, 0, 0, 0, 0, 0], [0, 0, 0, 0, 0, 0, 0, 0, 0, 0, 0, 0, 0, 0, 0, 0, 0, 0, 0, 1, 0, 1, 0, 0, 0, 0, 0, 0, 0, 0], [0, 0, 0, 0, 0, 0, 0, 0, 0, 0, 0, 0, 0, 0, 0, 0, 0, 0, 0, 1, 2, 1, 2, 0, 0, 0, 0, 0, 0, 0], [0, 0, 0, 0, 0, 0, 0, 0, 0, 0, 0, 0, 0, 0, 0, 0, 0, 0, 0, 1, 0, 0, 0, 2, 0, 0, 0, 0, 0, 0], [0, 0, 0, 0, 0, 0, 0, 0, 0, 0, 0, 0, 0, 0, 0, 0, 0, 0, 0, 1, 1, 1, 0, 2, 1, 0, 0, 0, 0, 0], [0, 0, 0, 0, 0, 0, 0, 0, 0, 0, 0, 0, 0, 0, 0, 0, 0, 0, 0, 1, 3, 3, 6, 2, 3, 6, 0, 0, 0, 0], [0, 0, 0, 0, 0, 0, 0, 0, 0, 0, 0, 0, 0, 0, 0, 0, 0, 0, 0, 1, 0, 3, 0, 0, 0, 0, 6, 0, 0, 0], [0, 0, 0, 0, 0, 0, 0, 0, 0, 0, 0, 0, 0, 0, 0, 0, 0, 0, 0, 1, 2, 3, 2, 4, 4, 0, 6, 4, 0, 0], [0, 0, 0, 0, 0, 0, 0, 0, 0, 0, 0, 0, 0, 0, 0, 0, 0, 0, 0, 1, 4, 7, 12, 8, 16, 24, 18, 24, 24, 0], [0, 0, 0, 0, 0, 0, 0, 0, 0, 0, 0, 0, 0, 0, 0, 0, 0, 0, 0, 1, 6, 15, 30, 20, 60, 120, 90, 180, 360, 720]]
def mt_mem (B a b : Nat) : Int := (mt_memL.getD (B * 30 + a) []).getD b 0
/-- the members of a base by monomials -/
def cm (B a b : Nat) : Int64 := if B = 4 then fl_V a b else Int64.ofInt (mt_mem B a b)
def mz_M (σ : bz_S) : Prop := ∀ B, B < 4 → ∀ a, a < 30 → ∀ b, b < 30 → mm σ B a b = cm B a b
def fc_G (B : Nat) (pi : Nat → Nat) (w G : Nat → Int64) : Prop := ∀ b, b < 30 → G b = w b - zsum (fun b' => G b' * cm B (pi b') b) 0 b
def fc_P (w F : Nat → Int64) : Prop := ∀ a, a < 30 → F a = (720 * w a - zsum (fun a' => F a' * cm 3 a' a) (a + 1) (29 - a)) / (nI (xt_al a)).toInt64
def fc_C (S C : Nat → Int64) : Prop := ∀ a, a < 30 → C a = S a - zsum (fun a' => C a' * cm 4 a a') (a + 1) (29 - a)
def fc_from (base : Nat) (w F : Nat → Int64) : Prop := match base with
  | 0 => fc_G 0 id w F
  | 1 => ∃ G, fc_G 1 xt_conj w G ∧ ∀ b, b < 30 → F (xt_conj b) = G b
  | 2 => ∃ S, fc_G 4 id w S ∧ fc_C S F
  | 3 => fc_P w F
  | _ => fc_G 4 id w F
def bz_lf (σ σ2 : bz_S) : Prop := (∀ j, j < 58 ∨ (58 < j ∧ j < 63) ∨ 65 < j → σ2.1 j = σ.1 j) ∧ (∀ i, i < 3600 → σ2.1 58 i = σ.1 58 i) ∧ (∀ j, j ≠ 61 → j ≠ 62 → σ2.2.1 j = σ.2.1 j) ∧ fl_F σ2
theorem mz_lf {σ σ2 : bz_S} (h : bz_lf σ σ2) (hT : mz_T σ.2.1) : mz_T σ2.2.1 := ⟨fun i hi => by rw [h.2.2.1 55 (by omega) (by omega)]; exact hT.1 i hi, fun i hi => by rw [h.2.2.1 56 (by omega) (by omega)]; exact hT.2.1 i hi, fun i hi => by rw [h.2.2.1 57 (by omega) (by omega)]; exact hT.2.2 i hi⟩
theorem mM_lf {σ σ2 : bz_S} (h : ∀ i, i < 3600 → σ2.1 58 i = σ.1 58 i) (hM : mz_M σ) : mz_M σ2 := fun B hB a ha b hb => by
  unfold mm
  rw [h _ (by omega)]
  exact hM B hB a ha b hb
theorem fl_D_eq {σ σ2 : bz_S} (h : σ2.1 58 = σ.1 58) {a b : Nat} (hD : fl_D σ a b) : fl_D σ2 a b := fun a' b' q1 q2 q3 => by rw [h]; exact hD a' b' q1 q2 q3
theorem fl_F_eq {σ σ2 : bz_S} (h : σ2.1 58 = σ.1 58) (h2 : σ2.2.2 = σ.2.2) (hF : fl_F σ) : fl_F σ2 := by
  rcases hF with q | ⟨q1, q2⟩
  · exact Or.inl (by rw [h2]; exact q)
  · exact Or.inr ⟨by rw [h2]; exact q1, fl_D_eq h q2⟩
theorem cm_4 {σ : bz_S} (hD : fl_D σ 30 0) {a b : Nat} (ha : a < 30) (hb : b < 30) : mm σ 4 a b = cm 4 a b := by
  unfold cm
  rw [if_pos rfl]
  exact hD a b ha hb (by omega)
theorem fc_G_a {σ : bz_S} {B : Nat} {pi : Nat → Nat} {w G : Nat → Int64} (hpi : ∀ b, b < 30 → pi b < 30) (hm : ∀ a, a < 30 → ∀ b, b < 30 → mm σ B a b = cm B a b) (h : fc_G B pi w G) : fd_G σ B pi w G := fun b hb => by
  rw [h b hb]
  exact congrArg (fun z => w b - z) (zsum_congr _ _ (fun i h1 h2 => by rw [hm _ (hpi i (by omega)) b hb]))
theorem fc_P_a {σ : bz_S} {w F : Nat → Int64} (hm : ∀ a, a < 30 → ∀ b, b < 30 → mm σ 3 a b = cm 3 a b) (h : fc_P w F) : fd_P σ w F := fun b hb => by
  rw [h b hb]
  exact congrArg (fun z => (720 * w b - z) / (nI (xt_al b)).toInt64) (zsum_congr _ _ (fun i h1 h2 => by rw [hm i (by omega) b hb]))
theorem fc_C_a {σ : bz_S} {S C : Nat → Int64} (hm : ∀ a, a < 30 → ∀ b, b < 30 → mm σ 4 a b = cm 4 a b) (h : fc_C S C) : fd_C σ S C := fun b hb => by
  rw [h b hb]
  exact congrArg (fun z => S b - z) (zsum_congr _ _ (fun i h1 h2 => by rw [hm b hb i (by omega)]))
section M8
variable {l : Launch} {ad : Nat → Nat} {K : bz_K} {σ σ' : bz_S} {r : Option Value} {kf lf fF : Nat}
theorem m_fo_0 {base : Nat} {w : Nat → Int64} (hbase : base < 5) (hf : bz_sh kf = (1, lf, 0, [])) (hkf : kf < 73) (hk63 : kf ≠ 63) (hlf : fF + 30 ≤ lf) (hw : ∀ j, j < 30 → σ.1 kf (fF + j) = w j)
    (kk : bz_V l ad K 73 mX4_layFound 4 r σ' 47 [some (.ref (ad 54)), some (.ref (ad kf)), some (.int (nI fF)), some (.int (nI base)), some (.int (nI 30))] [] (bz_setJ σ 63 (bz_upto (σ.1 63) (fun j => if base = 3 then 720 * w j else w j) 30))) :
    ∀ (m b : Nat), b + m = 30 → bz_V l ad K 73 mX4_layFound 4 r σ' 3 [some (.ref (ad 54)), some (.ref (ad kf)), some (.int (nI fF)), some (.int (nI base)), some (.int (nI b))] [] (bz_setJ σ 63 (bz_upto (σ.1 63) (fun j => if base = 3 then 720 * w j else w j) b)) := by
  intro m
  induction m with
  | zero =>
    intro b hb
    obtain rfl : b = 30 := by omega
    refine bz_iload dX4_layFound_3 rfl ?_
    refine bz_bipush dX4_layFound_5 kc_bipush_30 ?_
    refine bz_icmp_geN (tgt := 47) dX4_layFound_7 rfl (by omega) (by omega) (fun _ => ?_) (fun q => absurd q (by omega))
    exact kk
  | succ m ih =>
    intro b hb
    have hih := ih (b + 1) (by omega)
    refine bz_iload dX4_layFound_3 rfl ?_
    refine bz_bipush dX4_layFound_5 kc_bipush_30 ?_
    refine bz_icmp_geN (tgt := 47) dX4_layFound_7 rfl (by omega) (by omega) (fun q => absurd q (by omega)) (fun _ => ?_)
    refine bz_aload_n dX4_layFound_10 rfl ?_
    refine bz_getf fl_X4_35 dX4_layFound_11 rfl rfl (by omega) ?_
    refine bz_iload dX4_layFound_14 rfl ?_
    refine bz_iload_n dX4_layFound_16 rfl ?_
    refine bz_iconst dX4_layFound_17 kc_iconst_3 ?_
    refine bz_icmp_neN (tgt := 34) dX4_layFound_18 rfl (by omega) (by omega) (fun h => ?_) (fun h => ?_)
    · refine bz_aload_n dX4_layFound_34 rfl ?_
      refine bz_iload_n dX4_layFound_35 rfl ?_
      refine bz_iload dX4_layFound_36 rfl ?_
      first | refine bz_iaddN dX4_layFound_38 ?_ | refine bz_iadd dX4_layFound_38 ?_
      refine bz_laload dX4_layFound_39 hf (by omega) (by omega) ?_
      refine bz_topl (y := w b) (by rw [bz_setJ_ne hk63]; exact hw b (by omega)) ?_
      refine bz_lastore dX4_layFound_40 rfl (by omega) (by omega) ?_
      first | refine bz_iinc4N dX4_layFound_41 (by decide) rfl ?_ | refine bz_iinc4 dX4_layFound_41 rfl (by decide) rfl ?_
      refine bz_goto (tgt := 3) dX4_layFound_44 rfl ?_
      refine bz_st (by rw [bz_upJ_set, bz_upto_s (by rw [if_neg h])]) ?_
      exact hih
    · refine bz_ldc2 kl_X4_132 dX4_layFound_21 ?_
      refine bz_aload_n dX4_layFound_24 rfl ?_
      refine bz_iload_n dX4_layFound_25 rfl ?_
      refine bz_iload dX4_layFound_26 rfl ?_
      first | refine bz_iaddN dX4_layFound_28 ?_ | refine bz_iadd dX4_layFound_28 ?_
      refine bz_laload dX4_layFound_29 hf (by omega) (by omega) ?_
      refine bz_topl (y := w b) (by rw [bz_setJ_ne hk63]; exact hw b (by omega)) ?_
      refine bz_lmul dX4_layFound_30 ?_
      refine bz_goto (tgt := 40) dX4_layFound_31 rfl ?_
      refine bz_lastore dX4_layFound_40 rfl (by omega) (by omega) ?_
      first | refine bz_iinc4N dX4_layFound_41 (by decide) rfl ?_ | refine bz_iinc4 dX4_layFound_41 rfl (by decide) rfl ?_
      refine bz_goto (tgt := 3) dX4_layFound_44 rfl ?_
      refine bz_st (by rw [bz_upJ_set, bz_upto_s (by rw [if_pos h])]) ?_
      exact hih
theorem m_layFound {base : Nat} {w F : Nat → Int64} (hT : mz_T σ.2.1) (hM : mz_M σ) (hFl : fl_F σ) (hbase : base < 5) (hf : bz_sh kf = (1, lf, 0, [])) (hkf : kf < 73) (hk63 : kf ≠ 63) (hlf : fF + 30 ≤ lf) (hw : ∀ j, j < 30 → σ.1 kf (fF + j) = w j) (hF : fc_from base w F) :
    ∃ σ2, bz_V l ad K 73 mX4_layFound 4 none σ2 0 [some (.ref (ad 54)), some (.ref (ad kf)), some (.int (nI fF)), some (.int (nI base)), none] [] σ ∧ bz_lf σ σ2 ∧ (∀ j, j < 30 → σ2.1 64 j = F j) ∧ (base = 2 ∨ base = 4 → σ2.2.2 = nI 1 ∧ fl_D σ2 30 0) := by
  have key : ∃ σ2, bz_V l ad K 73 mX4_layFound 4 none σ2 47 [some (.ref (ad 54)), some (.ref (ad kf)), some (.int (nI fF)), some (.int (nI base)), some (.int (nI 30))] [] (bz_setJ σ 63 (bz_upto (σ.1 63) (fun j => if base = 3 then 720 * w j else w j) 30)) ∧ bz_lf σ σ2 ∧ (∀ j, j < 30 → σ2.1 64 j = F j) ∧ (base = 2 ∨ base = 4 → σ2.2.2 = nI 1 ∧ fl_D σ2 30 0) := by
    have hr : ∀ j, j < 30 → (bz_setJ σ 63 (bz_upto (σ.1 63) (fun j => if base = 3 then 720 * w j else w j) 30)).1 63 j = if base = 3 then 720 * w j else w j := fun j hj => by rw [bz_setJ_at, bz_upto_lt hj]
    have hfs : bz_fd σ (bz_setJ σ 63 (bz_upto (σ.1 63) (fun j => if base = 3 then 720 * w j else w j) 30)) := bz_fd_set (by omega)
    have hTs : mz_T (bz_setJ σ 63 (bz_upto (σ.1 63) (fun j => if base = 3 then 720 * w j else w j) 30)).2.1 := hT
    have hMs : mz_M (bz_setJ σ 63 (bz_upto (σ.1 63) (fun j => if base = 3 then 720 * w j else w j) 30)) := mM_lf (fun i _ => by rw [bz_setJ_ne (by omega)]) hM
    have hFs : fl_F (bz_setJ σ 63 (bz_upto (σ.1 63) (fun j => if base = 3 then 720 * w j else w j) 30)) := fl_F_eq (bz_setJ_ne (by omega)) rfl hFl
    have of_fd : ∀ {s0 s2 : bz_S}, bz_lf σ s0 → bz_fd s0 s2 → bz_lf σ s2 := fun {s0 s2} h1 h2 => ⟨fun j q => by rw [h2.2 j (by omega)]; exact h1.1 j q, fun i q => by rw [h2.2 58 (by omega)]; exact h1.2.1 i q, fun j q1 q2 => by rw [h2.1]; exact h1.2.2.1 j q1 q2, fl_F_eq (h2.2 58 (by omega)) (by rw [h2.1]) h1.2.2.2⟩
    generalize hS1 : bz_setJ σ 63 (bz_upto (σ.1 63) (fun j => if base = 3 then 720 * w j else w j) 30) = s1 at hr hfs hTs hMs hFs ⊢
    have hl1 : bz_lf σ s1 := ⟨fun j q => hfs.2 j (by omega), fun i _ => by rw [hfs.2 58 (by omega)], fun j _ _ => by rw [hfs.1], hFs⟩
    match base, hbase, hF with
    | 0, _, hF =>
      obtain ⟨σ2, hV, h1, h2⟩ := m_fo_S (l := l) (ad := ad) (K := K) (kf := kf) (fF := fF) (base := 0) (B := 0) (w := w) (G := F) (σ0 := s1) (P := fun σ2 => bz_fd s1 σ2 ∧ ∀ j, j < 30 → σ2.1 64 j = F j) (Or.inl ⟨rfl, rfl⟩) (fc_G_a (fun b hb => hb) (hMs 0 (by omega)) hF)
        (fun σ1 q1 q2 => by
          refine ⟨σ1, ?_, q1, q2⟩
          refine bz_iload_n dX4_layFound_186 rfl ?_
          refine bz_iconst dX4_layFound_187 kc_iconst_2 ?_
          refine bz_icmp_ne (tgt := 195) dX4_layFound_188 rfl (fun _ => ?_) (fun q => absurd q (by decide))
          refine bz_vret dX4_layFound_195 rfl rfl) 30 0 s1 rfl (bz_fd_rf s1) (fun j hj => by rw [hr j hj, zsum]; simp) (fun b' hb' => absurd hb' (Nat.not_lt_zero b'))
      refine ⟨σ2, ?_, of_fd hl1 h1, h2, fun q => by omega⟩
      refine bz_iload_n dX4_layFound_47 rfl ?_
      refine bz_iconst dX4_layFound_48 kc_iconst_4 ?_
      refine bz_icmp_eq (tgt := 57) dX4_layFound_49 rfl (fun q => absurd q (by decide)) (fun _ => ?_)
      refine bz_iload_n dX4_layFound_52 rfl ?_
      refine bz_iconst dX4_layFound_53 kc_iconst_2 ?_
      refine bz_icmp_ne (tgt := 61) dX4_layFound_54 rfl (fun _ => ?_) (fun q => absurd q (by decide))
      refine bz_iload_n dX4_layFound_61 rfl ?_
      refine bz_iconst dX4_layFound_62 kc_iconst_3 ?_
      refine bz_icmp_ne (tgt := 106) dX4_layFound_63 rfl (fun _ => ?_) (fun q => absurd q (by decide))
      refine bz_iload_n dX4_layFound_106 rfl ?_
      refine bz_iconst dX4_layFound_107 kc_iconst_1 ?_
      refine bz_icmp_ne (tgt := 148) dX4_layFound_108 rfl (fun _ => ?_) (fun q => absurd q (by decide))
      refine bz_iconst dX4_layFound_148 kc_iconst_0 ?_
      refine bz_ist4 dX4_layFound_149 (by decide) rfl ?_
      exact hV
    | 1, _, hF =>
      obtain ⟨G, hG, hFG⟩ := hF
      obtain ⟨σ2, hV, h1, h2⟩ := m_fo_E (l := l) (ad := ad) (K := K) (kf := kf) (fF := fF) (w := w) (G := G) (σ0 := s1) (P := fun σ2 => bz_fd s1 σ2 ∧ ∀ j, j < 30 → σ2.1 64 (xt_conj j) = G j) hTs (fc_G_a xt_conj30 (hMs 1 (by omega)) hG)
        (fun σ1 q1 q2 => by
          refine ⟨σ1, ?_, q1, q2⟩
          refine bz_iload_n dX4_layFound_186 rfl ?_
          refine bz_iconst dX4_layFound_187 kc_iconst_2 ?_
          refine bz_icmp_ne (tgt := 195) dX4_layFound_188 rfl (fun _ => ?_) (fun q => absurd q (by decide))
          refine bz_vret dX4_layFound_195 rfl rfl) 30 0 s1 rfl (bz_fd_rf s1) (fun j hj => by rw [hr j hj, zsum]; simp) (fun b' hb' => absurd hb' (Nat.not_lt_zero b'))
      refine ⟨σ2, ?_, of_fd hl1 h1, fun j hj => by have := h2 (xt_conj j) (xt_conj30 j hj); rw [xt_conj2 j hj] at this; rw [this, ← hFG _ (xt_conj30 j hj), xt_conj2 j hj], fun q => by omega⟩
      refine bz_iload_n dX4_layFound_47 rfl ?_
      refine bz_iconst dX4_layFound_48 kc_iconst_4 ?_
      refine bz_icmp_eq (tgt := 57) dX4_layFound_49 rfl (fun q => absurd q (by decide)) (fun _ => ?_)
      refine bz_iload_n dX4_layFound_52 rfl ?_
      refine bz_iconst dX4_layFound_53 kc_iconst_2 ?_
      refine bz_icmp_ne (tgt := 61) dX4_layFound_54 rfl (fun _ => ?_) (fun q => absurd q (by decide))
      refine bz_iload_n dX4_layFound_61 rfl ?_
      refine bz_iconst dX4_layFound_62 kc_iconst_3 ?_
      refine bz_icmp_ne (tgt := 106) dX4_layFound_63 rfl (fun _ => ?_) (fun q => absurd q (by decide))
      refine bz_iload_n dX4_layFound_106 rfl ?_
      refine bz_iconst dX4_layFound_107 kc_iconst_1 ?_
      refine bz_icmp_ne (tgt := 148) dX4_layFound_108 rfl (fun q => absurd (by decide) q) (fun _ => ?_)
      refine bz_iconst dX4_layFound_111 kc_iconst_0 ?_
      refine bz_ist4 dX4_layFound_112 (by decide) rfl ?_
      exact hV
    | 2, _, hF =>
      obtain ⟨S, hS, hC⟩ := hF
      obtain ⟨s2, hV2, hm2, hf2, hD2⟩ := m_layTableaux (l := l) (ad := ad) (K := K) (σ := s1) hTs hFs
      have hl2 : bz_lf σ s2 := ⟨fun j q => by rw [hm2.1 j (by omega)]; exact hl1.1 j q, fun i q => by rw [hm2.2.1 i q]; exact hl1.2.1 i q, fun j q1 q2 => by rw [hm2.2.2 j q1 q2]; exact hl1.2.2.1 j q1 q2, Or.inr ⟨hf2, hD2⟩⟩
      obtain ⟨σ2, hV, h1, h2⟩ := m_fo_S (l := l) (ad := ad) (K := K) (kf := kf) (fF := fF) (base := 2) (B := 4) (w := w) (G := S) (σ0 := s2) (P := fun σ2 => bz_fd s2 σ2 ∧ ∀ j, j < 30 → σ2.1 64 j = F j) (Or.inr ⟨by omega, by omega, rfl⟩) (fc_G_a (fun b hb => hb) (fun a ha b hb => cm_4 hD2 ha hb) hS)
        (fun σ1 q1 q2 => by
          obtain ⟨s3, hV3, hf3, hr3⟩ := m_layComplete (l := l) (ad := ad) (K := K) (σ := σ1) (S := S) (C := F) (fc_C_a (fun a ha b hb => cm_4 (fl_D_eq (q1.2 58 (by omega)) hD2) ha hb) hC) q2
          refine ⟨s3, ?_, bz_fd_tr hf3 q1, hr3⟩
          refine bz_iload_n dX4_layFound_186 rfl ?_
          refine bz_iconst dX4_layFound_187 kc_iconst_2 ?_
          refine bz_icmp_ne (tgt := 195) dX4_layFound_188 rfl (fun q => absurd (by decide) q) (fun _ => ?_)
          refine bz_aload_n dX4_layFound_191 rfl ?_
          refine bz_cV0U (z := 2) mv_X4_layComplete mi_X4_layComplete lk_X4_141 dX4_layFound_192 (by exact hV3) (by omega) rfl (by omega) rfl rfl rfl (Nat.le_of_ble_eq_true rfl) (Nat.le_of_ble_eq_true rfl) ?_
          refine bz_vret dX4_layFound_195 rfl rfl) 30 0 s2 rfl (bz_fd_rf s2) (fun j hj => by rw [hm2.1 63 (by omega), hr j hj, zsum]; simp) (fun b' hb' => absurd hb' (Nat.not_lt_zero b'))
      refine ⟨σ2, ?_, of_fd hl2 h1, h2, fun _ => ⟨by rw [h1.1]; exact hf2, fl_D_eq (h1.2 58 (by omega)) hD2⟩⟩
      refine bz_iload_n dX4_layFound_47 rfl ?_
      refine bz_iconst dX4_layFound_48 kc_iconst_4 ?_
      refine bz_icmp_eq (tgt := 57) dX4_layFound_49 rfl (fun q => absurd q (by decide)) (fun _ => ?_)
      refine bz_iload_n dX4_layFound_52 rfl ?_
      refine bz_iconst dX4_layFound_53 kc_iconst_2 ?_
      refine bz_icmp_ne (tgt := 61) dX4_layFound_54 rfl (fun q => absurd (by decide) q) (fun _ => ?_)
      refine bz_aload_n dX4_layFound_57 rfl ?_
      refine bz_cV0U (z := 2) mv_X4_layTableaux mi_X4_layTableaux lk_X4_134 dX4_layFound_58 (by exact hV2) (by omega) rfl (by omega) rfl rfl rfl (Nat.le_of_ble_eq_true rfl) (Nat.le_of_ble_eq_true rfl) ?_
      refine bz_iload_n dX4_layFound_61 rfl ?_
      refine bz_iconst dX4_layFound_62 kc_iconst_3 ?_
      refine bz_icmp_ne (tgt := 106) dX4_layFound_63 rfl (fun _ => ?_) (fun q => absurd q (by decide))
      refine bz_iload_n dX4_layFound_106 rfl ?_
      refine bz_iconst dX4_layFound_107 kc_iconst_1 ?_
      refine bz_icmp_ne (tgt := 148) dX4_layFound_108 rfl (fun _ => ?_) (fun q => absurd q (by decide))
      refine bz_iconst dX4_layFound_148 kc_iconst_0 ?_
      refine bz_ist4 dX4_layFound_149 (by decide) rfl ?_
      exact hV
    | 3, _, hF =>
      obtain ⟨σ2, hV, h1, h2⟩ := m_fo_P (l := l) (ad := ad) (K := K) (kf := kf) (fF := fF) (w := w) (F := F) (σ0 := s1) (P := fun σ2 => bz_fd s1 σ2 ∧ ∀ j, j < 30 → σ2.1 64 j = F j) hTs (fc_P_a (hMs 3 (by omega)) hF)
        (fun σ1 x4 q1 q2 => by
          refine ⟨σ1, ?_, q1, q2⟩
          refine bz_iload_n dX4_layFound_186 rfl ?_
          refine bz_iconst dX4_layFound_187 kc_iconst_2 ?_
          refine bz_icmp_ne (tgt := 195) dX4_layFound_188 rfl (fun _ => ?_) (fun q => absurd q (by decide))
          refine bz_vret dX4_layFound_195 rfl rfl) 29 s1 (by omega) (bz_fd_rf s1) (fun j hj => by rw [hr j hj, show 29 - 29 = 0 by omega, zsum]; simp) (fun a' q1 q2 => by omega)
      refine ⟨σ2, ?_, of_fd hl1 h1, h2, fun q => by omega⟩
      refine bz_iload_n dX4_layFound_47 rfl ?_
      refine bz_iconst dX4_layFound_48 kc_iconst_4 ?_
      refine bz_icmp_eq (tgt := 57) dX4_layFound_49 rfl (fun q => absurd q (by decide)) (fun _ => ?_)
      refine bz_iload_n dX4_layFound_52 rfl ?_
      refine bz_iconst dX4_layFound_53 kc_iconst_2 ?_
      refine bz_icmp_ne (tgt := 61) dX4_layFound_54 rfl (fun _ => ?_) (fun q => absurd q (by decide))
      refine bz_iload_n dX4_layFound_61 rfl ?_
      refine bz_iconst dX4_layFound_62 kc_iconst_3 ?_
      refine bz_icmp_ne (tgt := 106) dX4_layFound_63 rfl (fun q => absurd (by decide) q) (fun _ => ?_)
      refine bz_bipush dX4_layFound_66 kc_bipush_29 ?_
      refine bz_ist4 dX4_layFound_68 (by decide) rfl ?_
      exact hV
    | 4, _, hF =>
      obtain ⟨s2, hV2, hm2, hf2, hD2⟩ := m_layTableaux (l := l) (ad := ad) (K := K) (σ := s1) hTs hFs
      have hl2 : bz_lf σ s2 := ⟨fun j q => by rw [hm2.1 j (by omega)]; exact hl1.1 j q, fun i q => by rw [hm2.2.1 i q]; exact hl1.2.1 i q, fun j q1 q2 => by rw [hm2.2.2 j q1 q2]; exact hl1.2.2.1 j q1 q2, Or.inr ⟨hf2, hD2⟩⟩
      obtain ⟨σ2, hV, h1, h2⟩ := m_fo_S (l := l) (ad := ad) (K := K) (kf := kf) (fF := fF) (base := 4) (B := 4) (w := w) (G := F) (σ0 := s2) (P := fun σ2 => bz_fd s2 σ2 ∧ ∀ j, j < 30 → σ2.1 64 j = F j) (Or.inr ⟨by omega, by omega, rfl⟩) (fc_G_a (fun b hb => hb) (fun a ha b hb => cm_4 hD2 ha hb) hF)
        (fun σ1 q1 q2 => by
          refine ⟨σ1, ?_, q1, q2⟩
          refine bz_iload_n dX4_layFound_186 rfl ?_
          refine bz_iconst dX4_layFound_187 kc_iconst_2 ?_
          refine bz_icmp_ne (tgt := 195) dX4_layFound_188 rfl (fun _ => ?_) (fun q => absurd q (by decide))
          refine bz_vret dX4_layFound_195 rfl rfl) 30 0 s2 rfl (bz_fd_rf s2) (fun j hj => by rw [hm2.1 63 (by omega), hr j hj, zsum]; simp) (fun b' hb' => absurd hb' (Nat.not_lt_zero b'))
      refine ⟨σ2, ?_, of_fd hl2 h1, h2, fun _ => ⟨by rw [h1.1]; exact hf2, fl_D_eq (h1.2 58 (by omega)) hD2⟩⟩
      refine bz_iload_n dX4_layFound_47 rfl ?_
      refine bz_iconst dX4_layFound_48 kc_iconst_4 ?_
      refine bz_icmp_eq (tgt := 57) dX4_layFound_49 rfl (fun _ => ?_) (fun q => absurd (by decide) q)
      refine bz_aload_n dX4_layFound_57 rfl ?_
      refine bz_cV0U (z := 2) mv_X4_layTableaux mi_X4_layTableaux lk_X4_134 dX4_layFound_58 (by exact hV2) (by omega) rfl (by omega) rfl rfl rfl (Nat.le_of_ble_eq_true rfl) (Nat.le_of_ble_eq_true rfl) ?_
      refine bz_iload_n dX4_layFound_61 rfl ?_
      refine bz_iconst dX4_layFound_62 kc_iconst_3 ?_
      refine bz_icmp_ne (tgt := 106) dX4_layFound_63 rfl (fun _ => ?_) (fun q => absurd q (by decide))
      refine bz_iload_n dX4_layFound_106 rfl ?_
      refine bz_iconst dX4_layFound_107 kc_iconst_1 ?_
      refine bz_icmp_ne (tgt := 148) dX4_layFound_108 rfl (fun _ => ?_) (fun q => absurd q (by decide))
      refine bz_iconst dX4_layFound_148 kc_iconst_0 ?_
      refine bz_ist4 dX4_layFound_149 (by decide) rfl ?_
      exact hV
    | n + 5, hb, _ => exact absurd hb (by omega)
  obtain ⟨σ2, hV, h⟩ := key
  refine ⟨σ2, ?_, h⟩
  refine bz_iconst dX4_layFound_0 kc_iconst_0 ?_
  refine bz_ist4 dX4_layFound_1 (by decide) rfl ?_
  refine bz_st (by rw [bz_setJ_id (bz_upto_0 _ (fun j => if base = 3 then 720 * w j else w j))]) (m_fo_0 hbase hf hkf hk63 hlf hw hV 30 0 rfl)
theorem m_sc_loop {kg lg fG : Nat} {T : Int64} (hg : bz_sh kg = (1, lg, 0, [])) (hkg : kg < 73) (hlg : fG + 30 ≤ lg) (hb : fG < 10000) {x1 x2 : Option Value} :
    ∀ (m a : Nat) (acc : Int64), a + m = 30 → acc + zsum (fun a => σ.1 64 a * σ.1 kg (fG + a)) a m = T → bz_V l ad K 73 mX4_scalarOf 5 (some (.long T)) σ 13 [some (.ref (ad 54)), x1, x2, some (.ref (ad kg)), some (.int (nI fG)), some (.long acc), none, some (.int (nI a))] [] σ := by
  intro m
  induction m with
  | zero =>
    intro a acc ha hs
    obtain rfl : a = 30 := by omega
    obtain rfl := zsum_end hs
    refine bz_iload dX4_scalarOf_13 rfl ?_
    refine bz_bipush dX4_scalarOf_15 kc_bipush_30 ?_
    refine bz_icmp_geN (tgt := 46) dX4_scalarOf_17 rfl (by omega) (by omega) (fun _ => ?_) (fun q => absurd q (by omega))
    refine bz_lload dX4_scalarOf_46 rfl ?_
    refine bz_lret dX4_scalarOf_48 rfl rfl rfl
  | succ m ih =>
    intro a acc ha hs
    have hs2 := zsum_step hs
    refine bz_iload dX4_scalarOf_13 rfl ?_
    refine bz_bipush dX4_scalarOf_15 kc_bipush_30 ?_
    refine bz_icmp_geN (tgt := 46) dX4_scalarOf_17 rfl (by omega) (by omega) (fun q => absurd q (by omega)) (fun _ => ?_)
    refine bz_lload dX4_scalarOf_20 rfl ?_
    refine bz_aload_n dX4_scalarOf_22 rfl ?_
    refine bz_getf fl_X4_38 dX4_scalarOf_23 rfl rfl (by omega) ?_
    refine bz_iload dX4_scalarOf_26 rfl ?_
    refine bz_laload dX4_scalarOf_28 rfl (by omega) (by omega) ?_
    refine bz_aload_n dX4_scalarOf_29 rfl ?_
    refine bz_iload dX4_scalarOf_30 rfl ?_
    refine bz_iload dX4_scalarOf_32 rfl ?_
    first | refine bz_iaddN dX4_scalarOf_34 ?_ | refine bz_iadd dX4_scalarOf_34 ?_
    refine bz_laload dX4_scalarOf_35 hg (by omega) (by omega) ?_
    refine bz_lmul dX4_scalarOf_36 ?_
    refine bz_ladd dX4_scalarOf_37 ?_
    refine bz_lst5 dX4_scalarOf_38 (by decide) rfl ?_
    first | refine bz_iinc7N dX4_scalarOf_40 (by decide) rfl ?_ | refine bz_iinc7 dX4_scalarOf_40 rfl (by decide) rfl ?_
    refine bz_goto (tgt := 13) dX4_scalarOf_43 rfl ?_
    exact ih (a + 1) _ (by omega) hs2
theorem m_scalarOf {kg lg fG : Nat} {w g F : Nat → Int64} (hT : mz_T σ.2.1) (hM : mz_M σ) (hFl : fl_F σ) (hf : bz_sh kf = (1, lf, 0, [])) (hkf : kf < 73) (hk63 : kf ≠ 63) (hlf : fF + 30 ≤ lf) (hw : ∀ j, j < 30 → σ.1 kf (fF + j) = w j) (hg : bz_sh kg = (1, lg, 0, [])) (hkg : kg < 73) (hlg : fG + 30 ≤ lg) (hb : fG < 10000) (hF : fc_from 2 w F) (hgg : ∀ σ2, bz_lf σ σ2 → ∀ j, j < 30 → σ2.1 kg (fG + j) = g j) :
    ∃ σ2, bz_V l ad K 73 mX4_scalarOf 5 (some (.long (zsum (fun a => F a * g a) 0 30))) σ2 0 [some (.ref (ad 54)), some (.ref (ad kf)), some (.int (nI fF)), some (.ref (ad kg)), some (.int (nI fG)), none, none, none] [] σ ∧ bz_lf σ σ2 := by
  obtain ⟨σ2, hV, hl, hr, _⟩ := m_layFound (l := l) (ad := ad) (K := K) (base := 2) hT hM hFl (by omega) hf hkf hk63 hlf hw hF
  refine ⟨σ2, ?_, hl⟩
  refine bz_aload_n dX4_scalarOf_0 rfl ?_
  refine bz_aload_n dX4_scalarOf_1 rfl ?_
  refine bz_iload_n dX4_scalarOf_2 rfl ?_
  refine bz_iconst dX4_scalarOf_3 kc_iconst_2 ?_
  refine bz_cV3U (z := 1) mv_X4_layFound mi_X4_layFound lk_X4_144 dX4_scalarOf_4 (by exact hV) (by omega) rfl (by omega) rfl rfl rfl (Nat.le_of_ble_eq_true rfl) (Nat.le_of_ble_eq_true rfl) ?_
  refine bz_lconst dX4_scalarOf_7 kc_lconst_0 ?_
  refine bz_lst5 dX4_scalarOf_8 (by decide) rfl ?_
  refine bz_iconst dX4_scalarOf_10 kc_iconst_0 ?_
  refine bz_ist7 dX4_scalarOf_11 (by decide) rfl ?_
  refine m_sc_loop hg hkg hlg hb 30 0 0 rfl ?_
  rw [Int64.zero_add]
  exact zsum_congr _ _ (fun i _ hi => by rw [hr i (by omega), hgg σ2 hl i (by omega)])
end M8
