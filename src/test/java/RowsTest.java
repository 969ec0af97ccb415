/** Promises 38 to 41. */
public final class RowsTest {
    private static final Check CHECK = new Check("RowsTest");
    private static final int[] NO_PLACES = {-1, 8, Integer.MIN_VALUE, Integer.MAX_VALUE};

    public static void main(String[] args) {
        row();
        root();
        proof();
        proves();
        CHECK.covers(38, 41);
        CHECK.finish();
    }

    private static void due(String what, long got, long want) {
        CHECK.due(what, got, want);
    }

    private static int sum(int a, int b) {
        return (37 * a + 101 * b + 13) % 9973;
    }

    private static void row() {
        BargainHall x = new BargainHall();
        due("38 row(0, 999)", x.row(0, 999), 0);
        due("38 row(0, 1)", x.row(0, 1), 999);
        due("38 row(7, 5)", x.row(7, 5), 0);
        due("38 1000", x.row(0, 1000), BargainHall.BAD);
        due("38 -1", x.row(0, -1), BargainHall.BAD);
        for (int i : NO_PLACES) {
            due("38 place " + i, x.row(i, 0), BargainHall.BAD);
        }
        due("38 nothing changed", x.row(0, 0), 1);
        due("38 another stays", x.row(7, 0), 5);
    }

    private static int rootOf(int[] v) {
        return sum(sum(sum(v[0], v[1]), sum(v[2], v[3])), sum(sum(v[4], v[5]), sum(v[6], v[7])));
    }

    private static void root() {
        BargainHall x = new BargainHall();
        int[] v = new int[8];
        due("39 at first", x.root(), rootOf(v));
        for (int i = 0; i < 40; i++) {
            int at = i * 5 % 8;
            v[at] = (i * 379 + 999) % 1000;
            x.row(at, v[at]);
            due("39 root", x.root(), rootOf(v));
        }
    }

    private static void proof() {
        BargainHall x = new BargainHall();
        int[] v = {3, 14, 159, 265, 358, 979, 323, 846};
        for (int i = 0; i < 8; i++) {
            x.row(i, v[i]);
        }
        int[] pairs = {sum(v[0], v[1]), sum(v[2], v[3]), sum(v[4], v[5]), sum(v[6], v[7])};
        int[] halves = {sum(pairs[0], pairs[1]), sum(pairs[2], pairs[3])};
        for (int i = 0; i < 8; i++) {
            due("40 neighbour of " + i, x.proof(i, 0), v[i ^ 1]);
            due("40 the sum beside, of " + i, x.proof(i, 1), pairs[i / 2 ^ 1]);
            due("40 the half beside, of " + i, x.proof(i, 2), halves[i / 4 ^ 1]);
        }
        for (int i : NO_PLACES) {
            due("40 place " + i, x.proof(i, 0), BargainHall.BAD);
        }
        for (int j : new int[] {-1, 3, Integer.MIN_VALUE, Integer.MAX_VALUE}) {
            due("40 part " + j, x.proof(0, j), BargainHall.BAD);
        }
    }

    private static void proves() {
        BargainHall x = new BargainHall();
        due("41 a row of 0", x.proves(5, 0, 0, sum(0, 0), sum(sum(0, 0), sum(0, 0))), 1);
        due("41 0 may be", x.proves(5, 0, 0, 0, 0), 0);
        for (int i = 0; i < 8; i++) {
            x.row(i, 111 * i + 20);
        }
        for (int i = 0; i < 8; i++) {
            int v = 111 * i + 20;
            int p = x.proof(i, 0);
            int q = x.proof(i, 1);
            int r = x.proof(i, 2);
            due("41 proves " + i, x.proves(i, v, p, q, r), 1);
            due("41 another number", x.proves(i, v + 1, p, q, r), 0);
            due("41 another place", x.proves(i ^ 1, v, p, q, r), 0);
            due("41 another place", x.proves(i ^ 2, v, p, q, r), 0);
            due("41 another place", x.proves(i ^ 4, v, p, q, r), 0);
            due("41 another part 0", x.proves(i, v, p + 1, q, r), 0);
            due("41 another part 1", x.proves(i, v, p, (q + 1) % 9973, r), 0);
            due("41 another part 2", x.proves(i, v, p, q, (r + 1) % 9973), 0);
        }
        due("41 9972 may be", x.proves(0, 9972, 9972, 9972, 9972), 0);
        for (int bad : new int[] {-1, 9973, Integer.MIN_VALUE, Integer.MAX_VALUE}) {
            due("41 v " + bad, x.proves(0, bad, 0, 0, 0), BargainHall.BAD);
            due("41 x " + bad, x.proves(0, 0, bad, 0, 0), BargainHall.BAD);
            due("41 y " + bad, x.proves(0, 0, 0, bad, 0), BargainHall.BAD);
            due("41 z " + bad, x.proves(0, 0, 0, 0, bad), BargainHall.BAD);
        }
        for (int i : NO_PLACES) {
            due("41 place " + i, x.proves(i, 0, 0, 0, 0), BargainHall.BAD);
        }
        numberAboveTheRow();
    }

    /** A number that no row holds proves too, if it comes to the same sums. */
    private static void numberAboveTheRow() {
        BargainHall x = new BargainHall();
        x.row(0, 101);
        for (int v = 1000; v < 9973; v += 101) {
            int wanted = sum(101, 0);
            for (int p = 0; p < 9973; p++) {
                if (sum(v, p) == wanted) {
                    due("41 " + v + " and " + p, x.proves(0, v, p, x.proof(0, 1), x.proof(0, 2)), 1);
                }
            }
        }
    }
}
