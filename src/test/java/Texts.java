/** Texts of STRIPS, put together from their parts. */
final class Texts {
    private Texts() { }

    /** The letter x and n PICTURES alike. */
    static String ring(int n, String picture) {
        StringBuilder text = new StringBuilder("x");
        for (int p = 0; p < n; p++) {
            text.append(p == 0 ? "" : ",").append(picture);
        }
        return text.toString();
    }

    /** So many FOLDS, all of them of PICTURE 0: 02, 03, .. */
    static String fan(int folds) {
        StringBuilder text = new StringBuilder();
        for (int k = 0; k < folds; k++) {
            text.append(k == 0 ? "0" : ",0").append(k + 2);
        }
        return text.toString();
    }

    /** A whole STRIP of n PICTURES alike, all FOLDS of PICTURE 0. */
    static String fanned(int n, String picture, String shown) {
        return ring(n, picture) + ";" + (n == 3 ? "-" : fan(n - 3)) + ";" + shown;
    }

    /** Whether two PICTURES stand side by side in a ring of n. */
    static boolean areNeighbours(int n, int one, int other) {
        return (one + 1) % n == other || (other + 1) % n == one;
    }

    /** Whether two pairs cross: going round from a, one of c and d comes ahead of b, the other one behind. */
    static boolean cross(int n, int a, int b, int c, int d) {
        int toB = Math.floorMod(b - a, n);
        int toC = Math.floorMod(c - a, n);
        int toD = Math.floorMod(d - a, n);
        boolean fourOfThem = toC != 0 && toD != 0 && toC != toB && toD != toB && toB != 0 && toC != toD;
        return fourOfThem && toC < toB != toD < toB;
    }
}
